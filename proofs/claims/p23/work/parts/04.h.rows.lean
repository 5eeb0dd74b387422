set_option maxHeartbeats 4000000 in
set_option maxRecDepth 100000 in
theorem k_X6_about (l : Launch) (D : va_G) (c : Nat → ClassId) (ts : Nat × Nat) (sz : Nat) (A_tape : Nat) (A_reader : Nat) (A_weigher : Nat) (A_texts : Nat) (A_forces : Nat) (A_credits : Nat) (A_held : Nat) (A_cameAt : Nat) (A_farms : Nat) (A_sheriffs : Nat) (A_debts : Nat) (A_roll : Nat) (A_sticks : Nat) (A_table : Nat) (A_self : Nat) (A_debts_cells : Nat) (n_debts_cells : Nat) (f_debts_cells : Nat → Int32) (self_textsRead : Int32) (i_self_textsRead : Int) (hi_self_textsRead : self_textsRead.toInt = i_self_textsRead) (self_now : Int32) (i_self_now : Int) (hi_self_now : self_now.toInt = i_self_now) (debts_size : Int32) (i_debts_size : Int) (hi_debts_size : debts_size.toInt = i_debts_size) (a1 : Int32) (i_a1 : Int) (hi_a1 : a1.toInt = i_a1) (a2 : Int32) (i_a2 : Int) (hi_a2 : a2.toInt = i_a2) (self_chest : Int64) (self_brought : Int64) (hv_self_textsRead : 0 ≤ i_self_textsRead ∧ i_self_textsRead ≤ 10) (hv_self_now : 0 ≤ i_self_now ∧ i_self_now ≤ 1000) (hv_debts_size : 0 ≤ i_debts_size ∧ i_debts_size ≤ 400) (hn_debts_cells : 112 ≤ n_debts_cells ∧ n_debts_cells ≤ 5600) (hm_debts_cells : 7 * i_debts_size ≤ (n_debts_cells : Int)) : Met l yX6_about wsX6_about ({ frames := 2, cells := 0, slots := 0, locals := 44 }) (va_Pc [.ref A_self, .int a1, .int a2] (Pre0 D c ts [(A_self, .inr (6, [.ref A_tape, .ref A_reader, .ref A_weigher, .ref A_texts, .int self_textsRead, .ref A_forces, .ref A_credits, .ref A_held, .ref A_cameAt, .ref A_farms, .ref A_sheriffs, .ref A_debts, .ref A_roll, .ref A_sticks, .ref A_table, .int self_now, .long self_chest, .long self_brought])), (A_debts, .inr (2, [.int 7, .int 400, .ref A_debts_cells, .int debts_size])), (A_debts_cells, .inl (c 1, n_debts_cells, .inl f_debts_cells))] sz)) (vp_Si (fun r : Int32 => True)) 0 0 (fun _ => False) := by
  refine Met.ofW (cc := cX6_about) (maxL := 3) (ret := (some .int)) (by decide) rfl ?_
  intro p e s m args below meth cd s₁ B hml hv
  obtain ⟨rfl, hsz, hP, hD0, hAm, hSt⟩ := hv
  have hx := B.exec
  have hb := B.bytes
  have hr := B.returns
  have hts := atoms_spec (ws := wsX6_about) B.pre
  have hown : s.vm.findClass RX6 = some m.cls := findClass_of_methodNamed B.named
  have hlocks := B.notSynchronized
  have hK := hAm.1
  subst hsz
  have hD := hD0.self (sz := s.heap.size)
  generalize hAe : va_A [(A_self, .inr (6, [.ref A_tape, .ref A_reader, .ref A_weigher, .ref A_texts, .int self_textsRead, .ref A_forces, .ref A_credits, .ref A_held, .ref A_cameAt, .ref A_farms, .ref A_sheriffs, .ref A_debts, .ref A_roll, .ref A_sticks, .ref A_table, .int self_now, .long self_chest, .long self_brought])), (A_debts, .inr (2, [.int 7, .int 400, .ref A_debts_cells, .int debts_size])), (A_debts_cells, .inl (c 1, n_debts_cells, .inl f_debts_cells))] s.heap.size = A at hD hSt
  have hA : ∀ q : Nat, s.heap.size ≤ q → A q := fun q h => by rw [← hAe]; exact Or.inr h
  have hS : va_S A s.heap s.heap [] := va_S.rf
  clear hD0 hAe
  have hl := lv_entry ([.ref A_self, .int a1, .int a2]) (n := 3) (Nat.le_of_ble_eq_true rfl)
  rw [lg_entry_eq]
  generalize (lg_sl ([.ref A_self, .int a1, .int a2]) ++ List.replicate (3 - (lg_sl ([.ref A_self, .int a1, .int a2])).length) Slot.unset).toArray = ls at hl ⊢
  have hl : lv_has ls 3 [(0, .ref A_self), (1, .int a1), (2, .int a2)] := hl
  have rg_a1 := i32r a1
  have rg_a2 := i32r a2
  refine lv_aload_n hx hb dX6_about_0 rfl (lv_at hl 0 rfl) ?_
  refine va_get (D := D) (ci := 6) (v := .ref A_debts) (C := RX6) (T := TX6) (N := 18) hx hb hts (fun _ h => List.mem_cons_of_mem _ (List.mem_append_left _ (List.mem_append_right _ h))) hown hK hP 0 rfl rfl 11 (by decide) (hts (.fieldLink RX6 65 "CrownTable" "debts" "LCrownTable$Rows;") (mem_i 1 rfl)) (fun _ h9 => h9) rfl dX6_about_1 ?_
  refine lv_iload_n hx hb dX6_about_4 rfl (lv_at hl 1 rfl) ?_
  refine lv_iload_n hx hb dX6_about_5 rfl (lv_at hl 2 rfl) ?_
  have hPc := hP.sub (ws' := [(A_debts, .inr (2, [.int 7, .int 400, .ref A_debts_cells, .int debts_size]))]) [1] rfl
  have hDc := hD.sub (ws' := [(A_debts, .inr (2, [.int 7, .int 400, .ref A_debts_cells, .int debts_size]))]) [1] (by decide) rfl
  have hFc := va_free (wc := [(A_debts, .inr (2, [.int 7, .int 400, .ref A_debts_cells, .int debts_size]))]) hD hS hA [1] rfl
  refine va_csi (va_runVN (As := [.int a1, .int a2]) (rest := []) ⟨hx, hb, hml, hown, hts⟩ (k_X2_has_debts l D c ts s.heap.size A_debts_cells A_debts debts_size i_debts_size hi_debts_size a1 i_a1 hi_a1 a2 i_a2 hi_a2 (by omega)) ⟨va_cnB 2 hts gX6_about_X2_has_n202 rfl rfl rfl (show va_Nw (.methodLinkNest RX6 202 yX2_has RX6) _ from hAm.2.1.1 (RX6, 202, yX2_has, RX6) (mem_i 14 rfl)) (hts (.initialized RX2) (mem_i 3 rfl)) hdX2_has ⟨(show 0 + 1 ≤ 2 by decide), (show 8 + (3 + 11) + 0 ≤ 44 by decide)⟩, (hts (.instanceMethod yX2_has) (mem_i 2 rfl)), (hts (.selects RX2 yX2_has yX2_has) (mem_i 4 rfl))⟩ ⟨Pre0.blind, va_recv hK hPc (ci := 2) (q0 := 0) rfl rfl, Pre0.at hPc hDc hAm hSt hS hFc⟩ rfl rfl hl.1 rfl (lv_room (Nat.le_of_ble_eq_true rfl)) dX6_about_6 ⟨(show 0 + 0 ≤ 0 by decide), (show 0 + 0 ≤ 0 by decide)⟩) (fun r_2 hw_1 => ?_)
  rcases hw_1 with ⟨hw_1, rfl⟩ | ⟨hw_1, rfl⟩
  · skip
    refine iif_eqF (a := 1) (tgt := 24) hx hb (by decide) dX6_about_9 (by decide) (by decide) ?_
    refine lv_aload_n hx hb dX6_about_12 rfl (lv_at hl 0 rfl) ?_
    refine va_get (D := D) (ci := 6) (v := .ref A_debts) (C := RX6) (T := TX6) (N := 18) hx hb hts (fun _ h => List.mem_cons_of_mem _ (List.mem_append_left _ (List.mem_append_right _ h))) hown hK hP 0 rfl rfl 11 (by decide) (hts (.fieldLink RX6 65 "CrownTable" "debts" "LCrownTable$Rows;") (mem_i 1 rfl)) (fun _ h9 => h9) rfl dX6_about_13 ?_
    refine lv_iload_n hx hb dX6_about_16 rfl (lv_at hl 1 rfl) ?_
    refine lv_iload_n hx hb dX6_about_17 rfl (lv_at hl 2 rfl) ?_
    have hPc := hP.sub (ws' := [(A_debts, .inr (2, [.int 7, .int 400, .ref A_debts_cells, .int debts_size])), (A_debts_cells, .inl (c 1, n_debts_cells, .inl f_debts_cells))]) [1, 2] rfl
    have hDc := hD.sub (ws' := [(A_debts, .inr (2, [.int 7, .int 400, .ref A_debts_cells, .int debts_size])), (A_debts_cells, .inl (c 1, n_debts_cells, .inl f_debts_cells))]) [1, 2] (by decide) rfl
    have hFc := va_free (wc := [(A_debts, .inr (2, [.int 7, .int 400, .ref A_debts_cells, .int debts_size])), (A_debts_cells, .inl (c 1, n_debts_cells, .inl f_debts_cells))]) hD hS hA [1, 2] rfl
    refine va_csi (va_runVN (As := [.int a1, .int a2]) (rest := []) ⟨hx, hb, hml, hown, hts⟩ (k_X2_get_debts l D c ts s.heap.size A_debts_cells A_debts n_debts_cells f_debts_cells debts_size i_debts_size hi_debts_size a1 i_a1 hi_a1 a2 i_a2 hi_a2 (by omega) (by omega) (by omega)) ⟨va_cnB 2 hts gX6_about_X2_get_n139 rfl rfl rfl (show va_Nw (.methodLinkNest RX6 139 yX2_get RX6) _ from hAm.2.1.1 (RX6, 139, yX2_get, RX6) (mem_i 13 rfl)) (hts (.initialized RX2) (mem_i 3 rfl)) hdX2_get ⟨(show 1 + 1 ≤ 2 by decide), (show 8 + (3 + 11) + 22 ≤ 44 by decide)⟩, (hts (.instanceMethod yX2_get) (mem_i 8 rfl)), (hts (.selects RX2 yX2_get yX2_get) (mem_i 9 rfl))⟩ ⟨Pre0.blind, va_recv hK hPc (ci := 2) (q0 := 0) rfl rfl, Pre0.at hPc hDc hAm hSt hS hFc⟩ rfl rfl hl.1 rfl (lv_room (Nat.le_of_ble_eq_true rfl)) dX6_about_18 ⟨(show 0 + 0 ≤ 0 by decide), (show 0 + 0 ≤ 0 by decide)⟩) (fun r_4 hw_3 => ?_)
    clear hw_3
    have rg_r_4 := i32r r_4
    refine lv_goto (tgt := 26) hx hb dX6_about_21 (by decide) ?_
    exact W.iret (v := r_4) hx hb hr (fun t ht hW => ⟨_, rfl, trivial, ht⟩) (fun _ h => by cases h) dX6_about_26
  · skip
    refine iif_eqT (a := 0) (tgt := 24) hx hb (by decide) dX6_about_9 (by decide) (by decide) ?_
    refine lv_bipush (v := (-2)) hx hb dX6_about_24 (by decide) ?_
    have kzz_5 : ((-2) : Int32).toInt = (-2) := by decide
    exact W.iret (v := (-2)) hx hb hr (fun t ht hW => ⟨_, rfl, trivial, ht⟩) (fun _ h => by cases h) dX6_about_26

set_option maxHeartbeats 4000000 in
set_option maxRecDepth 100000 in
theorem k_X6_owedDebtsOf (l : Launch) (D : va_G) (c : Nat → ClassId) (ts : Nat × Nat) (sz : Nat) (A_tape : Nat) (A_reader : Nat) (A_weigher : Nat) (A_texts : Nat) (A_forces : Nat) (A_credits : Nat) (A_held : Nat) (A_cameAt : Nat) (A_farms : Nat) (A_sheriffs : Nat) (A_debts : Nat) (A_roll : Nat) (A_sticks : Nat) (A_table : Nat) (A_self : Nat) (A_debts_cells : Nat) (n_debts_cells : Nat) (f_debts_cells : Nat → Int32) (self_textsRead : Int32) (i_self_textsRead : Int) (hi_self_textsRead : self_textsRead.toInt = i_self_textsRead) (self_now : Int32) (i_self_now : Int) (hi_self_now : self_now.toInt = i_self_now) (debts_size : Int32) (i_debts_size : Int) (hi_debts_size : debts_size.toInt = i_debts_size) (a1 : Int32) (i_a1 : Int) (hi_a1 : a1.toInt = i_a1) (self_chest : Int64) (self_brought : Int64) (hv_self_textsRead : 0 ≤ i_self_textsRead ∧ i_self_textsRead ≤ 10) (hv_self_now : 0 ≤ i_self_now ∧ i_self_now ≤ 1000) (hv_debts_size : 0 ≤ i_debts_size ∧ i_debts_size ≤ 400) (hn_debts_cells : 112 ≤ n_debts_cells ∧ n_debts_cells ≤ 5600) (hm_debts_cells : 7 * i_debts_size ≤ (n_debts_cells : Int)) : Met l yX6_owedDebtsOf wsX6_owedDebtsOf ({ frames := 4, cells := 0, slots := 0, locals := 87 }) (va_Pc [.ref A_self, .int a1] (Pre0 D c ts [(A_self, .inr (6, [.ref A_tape, .ref A_reader, .ref A_weigher, .ref A_texts, .int self_textsRead, .ref A_forces, .ref A_credits, .ref A_held, .ref A_cameAt, .ref A_farms, .ref A_sheriffs, .ref A_debts, .ref A_roll, .ref A_sticks, .ref A_table, .int self_now, .long self_chest, .long self_brought])), (A_debts, .inr (2, [.int 7, .int 400, .ref A_debts_cells, .int debts_size])), (A_debts_cells, .inl (c 1, n_debts_cells, .inl f_debts_cells))] sz)) (vp_Si (fun r : Int32 => (r.toInt = owc f_debts_cells i_a1 0 (i_debts_size).toNat) ∧ (0 ≤ r.toInt ∧ r.toInt ≤ 400))) 0 0 (fun _ => False) := by
  refine Met.ofW (cc := cX6_owedDebtsOf) (maxL := 4) (ret := (some .int)) (by decide) rfl ?_
  intro p e s m args below meth cd s₁ B hml hv
  obtain ⟨rfl, hsz, hP, hD0, hAm, hSt⟩ := hv
  have hx := B.exec
  have hb := B.bytes
  have hr := B.returns
  have hts := atoms_spec (ws := wsX6_owedDebtsOf) B.pre
  have hown : s.vm.findClass RX6 = some m.cls := findClass_of_methodNamed B.named
  have hlocks := B.notSynchronized
  have hK := hAm.1
  subst hsz
  have hD := hD0.self (sz := s.heap.size)
  generalize hAe : va_A [(A_self, .inr (6, [.ref A_tape, .ref A_reader, .ref A_weigher, .ref A_texts, .int self_textsRead, .ref A_forces, .ref A_credits, .ref A_held, .ref A_cameAt, .ref A_farms, .ref A_sheriffs, .ref A_debts, .ref A_roll, .ref A_sticks, .ref A_table, .int self_now, .long self_chest, .long self_brought])), (A_debts, .inr (2, [.int 7, .int 400, .ref A_debts_cells, .int debts_size])), (A_debts_cells, .inl (c 1, n_debts_cells, .inl f_debts_cells))] s.heap.size = A at hD hSt
  have hA : ∀ q : Nat, s.heap.size ≤ q → A q := fun q h => by rw [← hAe]; exact Or.inr h
  have hS : va_S A s.heap s.heap [] := va_S.rf
  clear hD0 hAe
  have hl := lv_entry ([.ref A_self, .int a1]) (n := 4) (Nat.le_of_ble_eq_true rfl)
  rw [lg_entry_eq]
  generalize (lg_sl ([.ref A_self, .int a1]) ++ List.replicate (4 - (lg_sl ([.ref A_self, .int a1])).length) Slot.unset).toArray = ls at hl ⊢
  have hl : lv_has ls 4 [(0, .ref A_self), (1, .int a1)] := hl
  have rg_a1 := i32r a1
  refine lv_iconst (v := 0) hx hb dX6_owedDebtsOf_0 (by decide) ?_
  refine lv_istore_n (lv' := [(2, .int 0), (0, .ref A_self), (1, .int a1)]) hx hb dX6_owedDebtsOf_1 rfl hl (by decide) rfl (fun ls hl => ?_)
  refine lv_iconst (v := 0) hx hb dX6_owedDebtsOf_2 (by decide) ?_
  refine lv_istore_n (lv' := [(3, .int 0), (2, .int 0), (0, .ref A_self), (1, .int a1)]) hx hb dX6_owedDebtsOf_3 rfl hl (by decide) rfl (fun ls hl => ?_)
  have lp_4 : ∀ (N : Nat) (L2 : Int32) (L3 : Int32) (hf4_0 : 0 ≤ L2.toInt) (hf4_1 : L2.toInt ≤ 400) (hf4_2 : 0 ≤ L3.toInt) (hf4_3 : L3.toInt ≤ 400) (hf4_4 : L3.toInt ≤ i_debts_size) (hf4_5 : L2.toInt + owc f_debts_cells i_a1 L3.toInt (i_debts_size - L3.toInt).toNat = owc f_debts_cells i_a1 0 (i_debts_size).toNat) (hN4 : (400 - L3.toInt).toNat = N) (ls : Array Slot), lv_has ls 4 [(0, .ref A_self), (1, .int a1), (2, .int L2), (3, .int L3)] → W p l e (headSpec wsX6_owedDebtsOf ({ frames := 4, cells := 0, slots := 0, locals := 87 })).room s m (([.ref A_self, .int a1] : List Value).toArray) below meth cd s.heap [] 0 0 (MQ below (vp_Si (fun r : Int32 => (r.toInt = owc f_debts_cells i_a1 0 (i_debts_size).toNat) ∧ (0 ≤ r.toInt ∧ r.toInt ≤ 400))) ([.ref A_self, .int a1] : List Value).toArray s 0 0 (fun _ => False)) (F0 m 4 ls []) := by
    refine st_ind (fun N ih4 => ?_)
    intro L2 L3 hf4_0 hf4_1 hf4_2 hf4_3 hf4_4 hf4_5 hN4 ls hl
    refine lv_iload_n hx hb dX6_owedDebtsOf_4 rfl (lv_at hl 3 rfl) ?_
    refine lv_aload_n hx hb dX6_owedDebtsOf_5 rfl (lv_at hl 0 rfl) ?_
    refine va_get (D := D) (ci := 6) (v := .ref A_debts) (C := RX6) (T := TX6) (N := 18) hx hb hts (fun _ h => List.mem_cons_of_mem _ (List.mem_append_left _ (List.mem_append_right _ h))) hown hK hP 0 rfl rfl 11 (by decide) (hts (.fieldLink RX6 65 "CrownTable" "debts" "LCrownTable$Rows;") (mem_i 1 rfl)) (fun _ h9 => h9) rfl dX6_owedDebtsOf_6 ?_
    refine va_getN (D := D) (ci := 2) (v := .int debts_size) (own := RX6) (ref := "CrownTable$Rows") (host := RX6) (index := 155) (C := RX2) (T := TX2) (N := 4) hx hb hts (fun _ h => List.mem_cons_of_mem _ (List.mem_append_right _ h)) hown hK hP 1 rfl rfl 3 (by decide) (show (Cond.fieldLinkNest RX6 155 "CrownTable$Rows" "size" "I" RX6).before _ _ = true from va_Nw.use rfl (hAm.2.1.2 (RX6, 155, "CrownTable$Rows", "size", "I", RX6) (mem_i 3 rfl))) (fun _ h9 => h9) rfl dX6_owedDebtsOf_9 ?_
    refine iicmp_ge (a := L3.toInt) (b := i_debts_size) (tgt := 33) hx hb rfl hi_debts_size dX6_owedDebtsOf_12 (by decide) (fun k_1 => ?_) (fun k_1 => ?_)
    · skip
      refine lv_iload_n hx hb dX6_owedDebtsOf_33 rfl (lv_at hl 2 rfl) ?_
      exact W.iret (v := L2) hx hb hr (fun t ht hW => ⟨_, rfl, ⟨(by have e9 : (i_debts_size - L3.toInt).toNat = 0 := (by omega); rw [e9] at hf4_5; have z9 : owc f_debts_cells i_a1 L3.toInt 0 = 0 := rfl; omega), by omega⟩, ht⟩) (fun _ h => by cases h) dX6_owedDebtsOf_34
    · skip
      refine lv_aload_n hx hb dX6_owedDebtsOf_15 rfl (lv_at hl 0 rfl) ?_
      refine lv_iload_n hx hb dX6_owedDebtsOf_16 rfl (lv_at hl 3 rfl) ?_
      refine lv_iload_n hx hb dX6_owedDebtsOf_17 rfl (lv_at hl 1 rfl) ?_
      have hPc := hP.sub (ws' := [(A_self, .inr (6, [.ref A_tape, .ref A_reader, .ref A_weigher, .ref A_texts, .int self_textsRead, .ref A_forces, .ref A_credits, .ref A_held, .ref A_cameAt, .ref A_farms, .ref A_sheriffs, .ref A_debts, .ref A_roll, .ref A_sticks, .ref A_table, .int self_now, .long self_chest, .long self_brought])), (A_debts, .inr (2, [.int 7, .int 400, .ref A_debts_cells, .int debts_size])), (A_debts_cells, .inl (c 1, n_debts_cells, .inl f_debts_cells))]) [0, 1, 2] rfl
      have hDc := hD.sub (ws' := [(A_self, .inr (6, [.ref A_tape, .ref A_reader, .ref A_weigher, .ref A_texts, .int self_textsRead, .ref A_forces, .ref A_credits, .ref A_held, .ref A_cameAt, .ref A_farms, .ref A_sheriffs, .ref A_debts, .ref A_roll, .ref A_sticks, .ref A_table, .int self_now, .long self_chest, .long self_brought])), (A_debts, .inr (2, [.int 7, .int 400, .ref A_debts_cells, .int debts_size])), (A_debts_cells, .inl (c 1, n_debts_cells, .inl f_debts_cells))]) [0, 1, 2] (by decide) rfl
      have hFc := va_free (wc := [(A_self, .inr (6, [.ref A_tape, .ref A_reader, .ref A_weigher, .ref A_texts, .int self_textsRead, .ref A_forces, .ref A_credits, .ref A_held, .ref A_cameAt, .ref A_farms, .ref A_sheriffs, .ref A_debts, .ref A_roll, .ref A_sticks, .ref A_table, .int self_now, .long self_chest, .long self_brought])), (A_debts, .inr (2, [.int 7, .int 400, .ref A_debts_cells, .int debts_size])), (A_debts_cells, .inl (c 1, n_debts_cells, .inl f_debts_cells))]) hD hS hA [0, 1, 2] rfl
      refine va_csi (va_runV (As := [.int L3, .int a1]) (rest := []) ⟨hx, hb, hml, hown, hts⟩ (k_X6_isOwedBy l D c ts s.heap.size A_tape A_reader A_weigher A_texts A_forces A_credits A_held A_cameAt A_farms A_sheriffs A_debts A_roll A_sticks A_table A_self A_debts_cells n_debts_cells f_debts_cells self_textsRead i_self_textsRead hi_self_textsRead self_now i_self_now hi_self_now debts_size i_debts_size hi_debts_size L3 L3.toInt rfl a1 i_a1 hi_a1 self_chest self_brought (by omega) (by omega) (by omega) (by omega) (by omega)) (cwV 2 hts gX6_owedDebtsOf_X6_isOwedBy rfl rfl rfl ⟨rfl, hdX6_isOwedBy⟩ ⟨(show 3 + 1 ≤ 4 by decide), (show 8 + (3 + 11) + 65 ≤ 87 by decide)⟩) ⟨Pre0.blind, va_recv hK hPc (ci := 6) (q0 := 0) rfl rfl, Pre0.at hPc hDc hAm hSt hS hFc⟩ rfl rfl hl.1 rfl (lv_room (Nat.le_of_ble_eq_true rfl)) dX6_owedDebtsOf_18 ⟨(show 0 + 0 ≤ 0 by decide), (show 0 + 0 ≤ 0 by decide)⟩) (fun r_3 hw_2 => ?_)
      have ow9 := owc_step f_debts_cells i_a1 (d := L3.toInt) (n := i_debts_size) (by omega)
      have ow8 := owc_bd f_debts_cells i_a1 (L3.toInt + 1) (i_debts_size - (L3.toInt + 1)).toNat
      have ow5 := owc_bd f_debts_cells i_a1 0 (i_debts_size).toNat
      rcases hw_2 with ⟨hw_2, rfl⟩ | ⟨hw_2, rfl⟩
      · skip
        rw [if_pos ⟨hw_2.2.2.1, hw_2.2.2.2⟩] at ow9
        refine iif_eqF (a := 1) (tgt := 27) hx hb (by decide) dX6_owedDebtsOf_21 (by decide) (by decide) ?_
        obtain ⟨x_4, ex_4⟩ : ∃ y : Int32, y = L2 + 1 := ⟨_, rfl⟩
        have tx_4 : x_4.toInt = L2.toInt + 1 := by rw [ex_4]; exact add_ti (a := L2.toInt) (b := 1) rfl (by decide) (by omega) (by omega)
        refine lv_iinc (v := x_4) (lv' := [(2, .int x_4), (0, .ref A_self), (1, .int a1), (3, .int L3)]) hx hb dX6_owedDebtsOf_24 hl (k := 2) rfl (by rw [ex_4]; rfl) (by decide) rfl (fun ls hl => ?_)
        obtain ⟨x_5, ex_5⟩ : ∃ y : Int32, y = L3 + 1 := ⟨_, rfl⟩
        have tx_5 : x_5.toInt = L3.toInt + 1 := by rw [ex_5]; exact add_ti (a := L3.toInt) (b := 1) rfl (by decide) (by omega) (by omega)
        refine lv_iinc (v := x_5) (lv' := [(3, .int x_5), (2, .int x_4), (0, .ref A_self), (1, .int a1)]) hx hb dX6_owedDebtsOf_27 hl (k := 3) rfl (by rw [ex_5]; rfl) (by decide) rfl (fun ls hl => ?_)
        refine lv_goto (tgt := 4) hx hb dX6_owedDebtsOf_30 (by decide) ?_
        have ow6 : owc f_debts_cells i_a1 x_5.toInt (i_debts_size - x_5.toInt).toNat = owc f_debts_cells i_a1 (L3.toInt + 1) (i_debts_size - (L3.toInt + 1)).toNat := by rw [show x_5.toInt = L3.toInt + 1 from tx_5]
        have hl := lv_sub hl [2, 3, 1, 0] rfl
        exact (ih4 ((400 - x_5.toInt).toNat) (by omega) x_4 x_5 (by omega) (by omega) (by omega) (by omega) (by omega) (by omega) rfl _ hl)
      · skip
        rw [if_neg (fun z => hw_2 ⟨by omega, by omega, z.1, z.2⟩)] at ow9
        refine iif_eqT (a := 0) (tgt := 27) hx hb (by decide) dX6_owedDebtsOf_21 (by decide) (by decide) ?_
        obtain ⟨x_6, ex_6⟩ : ∃ y : Int32, y = L3 + 1 := ⟨_, rfl⟩
        have tx_6 : x_6.toInt = L3.toInt + 1 := by rw [ex_6]; exact add_ti (a := L3.toInt) (b := 1) rfl (by decide) (by omega) (by omega)
        refine lv_iinc (v := x_6) (lv' := [(3, .int x_6), (0, .ref A_self), (1, .int a1), (2, .int L2)]) hx hb dX6_owedDebtsOf_27 hl (k := 3) rfl (by rw [ex_6]; rfl) (by decide) rfl (fun ls hl => ?_)
        refine lv_goto (tgt := 4) hx hb dX6_owedDebtsOf_30 (by decide) ?_
        have ow6 : owc f_debts_cells i_a1 x_6.toInt (i_debts_size - x_6.toInt).toNat = owc f_debts_cells i_a1 (L3.toInt + 1) (i_debts_size - (L3.toInt + 1)).toNat := by rw [show x_6.toInt = L3.toInt + 1 from tx_6]
        have hl := lv_sub hl [1, 2, 3, 0] rfl
        exact (ih4 ((400 - x_6.toInt).toNat) (by omega) L2 x_6 (by omega) (by omega) (by omega) (by omega) (by omega) (by omega) rfl _ hl)
  have kzz_7 : (0 : Int32).toInt = 0 := by decide
  have hl := lv_sub hl [2, 3, 1, 0] rfl
  exact (lp_4 _ 0 0 (by omega) (by omega) (by omega) (by omega) (by omega) (by rw [show (0 : Int32).toInt = 0 from rfl, Int.sub_zero]; omega) rfl _ hl)

set_option maxHeartbeats 4000000 in
set_option maxRecDepth 100000 in
theorem k_X6_owe (l : Launch) (D : va_G) (c : Nat → ClassId) (ts : Nat × Nat) (sz : Nat) (A_tape : Nat) (A_reader : Nat) (A_weigher : Nat) (A_texts : Nat) (A_forces : Nat) (A_credits : Nat) (A_held : Nat) (A_cameAt : Nat) (A_farms : Nat) (A_sheriffs : Nat) (A_debts : Nat) (A_roll : Nat) (A_sticks : Nat) (A_table : Nat) (A_self : Nat) (A_debts_cells : Nat) (n_debts_cells : Nat) (f_debts_cells : Nat → Int32) (f_credits : Nat → Int64) (f_held : Nat → Int32) (f_cameAt : Nat → Int32) (self_textsRead : Int32) (i_self_textsRead : Int) (hi_self_textsRead : self_textsRead.toInt = i_self_textsRead) (self_now : Int32) (i_self_now : Int) (hi_self_now : self_now.toInt = i_self_now) (debts_size : Int32) (i_debts_size : Int) (hi_debts_size : debts_size.toInt = i_debts_size) (a1 : Int32) (i_a1 : Int) (hi_a1 : a1.toInt = i_a1) (a2 : Int32) (i_a2 : Int) (hi_a2 : a2.toInt = i_a2) (self_chest : Int64) (self_brought : Int64) (hv_self_textsRead : 0 ≤ i_self_textsRead ∧ i_self_textsRead ≤ 10) (hv_self_now : 0 ≤ i_self_now ∧ i_self_now ≤ 1000) (hv_debts_size : 0 ≤ i_debts_size ∧ i_debts_size ≤ 400) (hn_debts_cells : 112 ≤ n_debts_cells ∧ n_debts_cells ≤ 5600) (hm_debts_cells : 7 * i_debts_size ≤ (n_debts_cells : Int)) : Met l yX6_owe wsX6_owe ({ frames := 5, cells := 0, slots := 0, locals := 111 }) (va_Pc [.ref A_self, .int a1, .int a2] (Pre0 D c ts [(A_self, .inr (6, [.ref A_tape, .ref A_reader, .ref A_weigher, .ref A_texts, .int self_textsRead, .ref A_forces, .ref A_credits, .ref A_held, .ref A_cameAt, .ref A_farms, .ref A_sheriffs, .ref A_debts, .ref A_roll, .ref A_sticks, .ref A_table, .int self_now, .long self_chest, .long self_brought])), (A_debts, .inr (2, [.int 7, .int 400, .ref A_debts_cells, .int debts_size])), (A_debts_cells, .inl (c 1, n_debts_cells, .inl f_debts_cells)), (A_credits, .inl (c 2, 16, .inr (.inl f_credits))), (A_held, .inl (c 3, 16, .inl f_held)), (A_cameAt, .inl (c 1, 16, .inl f_cameAt))] sz)) (vp_Sl (fun r : Int64 => True)) 0 0 (fun _ => False) := by
  refine Met.ofW (cc := cX6_owe) (maxL := 3) (ret := (some .long)) (by decide) rfl ?_
  intro p e s m args below meth cd s₁ B hml hv
  obtain ⟨rfl, hsz, hP, hD0, hAm, hSt⟩ := hv
  have hx := B.exec
  have hb := B.bytes
  have hr := B.returns
  have hts := atoms_spec (ws := wsX6_owe) B.pre
  have hown : s.vm.findClass RX6 = some m.cls := findClass_of_methodNamed B.named
  have hlocks := B.notSynchronized
  have hK := hAm.1
  subst hsz
  have hD := hD0.self (sz := s.heap.size)
  generalize hAe : va_A [(A_self, .inr (6, [.ref A_tape, .ref A_reader, .ref A_weigher, .ref A_texts, .int self_textsRead, .ref A_forces, .ref A_credits, .ref A_held, .ref A_cameAt, .ref A_farms, .ref A_sheriffs, .ref A_debts, .ref A_roll, .ref A_sticks, .ref A_table, .int self_now, .long self_chest, .long self_brought])), (A_debts, .inr (2, [.int 7, .int 400, .ref A_debts_cells, .int debts_size])), (A_debts_cells, .inl (c 1, n_debts_cells, .inl f_debts_cells)), (A_credits, .inl (c 2, 16, .inr (.inl f_credits))), (A_held, .inl (c 3, 16, .inl f_held)), (A_cameAt, .inl (c 1, 16, .inl f_cameAt))] s.heap.size = A at hD hSt
  have hA : ∀ q : Nat, s.heap.size ≤ q → A q := fun q h => by rw [← hAe]; exact Or.inr h
  have hS : va_S A s.heap s.heap [] := va_S.rf
  clear hD0 hAe
  have hl := lv_entry ([.ref A_self, .int a1, .int a2]) (n := 3) (Nat.le_of_ble_eq_true rfl)
  rw [lg_entry_eq]
  generalize (lg_sl ([.ref A_self, .int a1, .int a2]) ++ List.replicate (3 - (lg_sl ([.ref A_self, .int a1, .int a2])).length) Slot.unset).toArray = ls at hl ⊢
  have hl : lv_has ls 3 [(0, .ref A_self), (1, .int a1), (2, .int a2)] := hl
  have rg_a1 := i32r a1
  have rg_a2 := i32r a2
  refine lv_iload_n hx hb dX6_owe_0 rfl (lv_at hl 1 rfl) ?_
  have hPc := hP.sub (ws' := []) [] rfl
  have hDc := hD.sub (ws' := []) [] (by decide) rfl
  have hFc := va_free (wc := []) hD hS hA [] rfl
  refine va_csi (va_runS (As := [.int a1]) (rest := []) ⟨hx, hb, hml, hown, hts⟩ (k_X6_isPerson l D c ts s.heap.size a1 i_a1 hi_a1) (cwS 1 hts gX6_owe_X6_isPerson rfl rfl rfl ⟨rfl, hdX6_isPerson⟩ ⟨(show 0 + 1 ≤ 5 by decide), (show 8 + (1 + 11) + 0 ≤ 111 by decide)⟩) ⟨Pre0.blind, Pre0.at hPc hDc hAm hSt hS hFc⟩ rfl rfl hl.1 rfl (lv_room (Nat.le_of_ble_eq_true rfl)) dX6_owe_1 ⟨(show 0 + 0 ≤ 0 by decide), (show 0 + 0 ≤ 0 by decide)⟩) (fun r_2 hw_1 => ?_)
  rcases hw_1 with ⟨hw_1, rfl⟩ | ⟨hw_1, rfl⟩
  · skip
    refine iif_neT (a := 1) (tgt := 11) hx hb (by decide) dX6_owe_4 (by decide) (by decide) ?_
    refine lv_iload_n hx hb dX6_owe_11 rfl (lv_at hl 2 rfl) ?_
    by_cases k_3 : i_a2 = 0
    · have ek_3 : a2.toInt = 0 := hi_a2.trans k_3
      refine lv_tableIn (tgt := 48) hx hb dX6_owe_12 (by rw [ek_3]; decide) (by rw [ek_3]; decide) (by rw [ek_3]; rfl) (by decide) ?_
      refine lv_aload_n hx hb dX6_owe_48 rfl (lv_at hl 0 rfl) ?_
      refine lv_iload_n hx hb dX6_owe_49 rfl (lv_at hl 1 rfl) ?_
      have hPc := hP.sub (ws' := [(A_self, .inr (6, [.ref A_tape, .ref A_reader, .ref A_weigher, .ref A_texts, .int self_textsRead, .ref A_forces, .ref A_credits, .ref A_held, .ref A_cameAt, .ref A_farms, .ref A_sheriffs, .ref A_debts, .ref A_roll, .ref A_sticks, .ref A_table, .int self_now, .long self_chest, .long self_brought])), (A_debts, .inr (2, [.int 7, .int 400, .ref A_debts_cells, .int debts_size])), (A_debts_cells, .inl (c 1, n_debts_cells, .inl f_debts_cells))]) [0, 1, 2] rfl
      have hDc := hD.sub (ws' := [(A_self, .inr (6, [.ref A_tape, .ref A_reader, .ref A_weigher, .ref A_texts, .int self_textsRead, .ref A_forces, .ref A_credits, .ref A_held, .ref A_cameAt, .ref A_farms, .ref A_sheriffs, .ref A_debts, .ref A_roll, .ref A_sticks, .ref A_table, .int self_now, .long self_chest, .long self_brought])), (A_debts, .inr (2, [.int 7, .int 400, .ref A_debts_cells, .int debts_size])), (A_debts_cells, .inl (c 1, n_debts_cells, .inl f_debts_cells))]) [0, 1, 2] (by decide) rfl
      have hFc := va_free (wc := [(A_self, .inr (6, [.ref A_tape, .ref A_reader, .ref A_weigher, .ref A_texts, .int self_textsRead, .ref A_forces, .ref A_credits, .ref A_held, .ref A_cameAt, .ref A_farms, .ref A_sheriffs, .ref A_debts, .ref A_roll, .ref A_sticks, .ref A_table, .int self_now, .long self_chest, .long self_brought])), (A_debts, .inr (2, [.int 7, .int 400, .ref A_debts_cells, .int debts_size])), (A_debts_cells, .inl (c 1, n_debts_cells, .inl f_debts_cells))]) hD hS hA [0, 1, 2] rfl
      refine va_csl (va_runV (As := [.int a1]) (rest := []) ⟨hx, hb, hml, hown, hts⟩ (k_X6_leftOf l D c ts s.heap.size A_tape A_reader A_weigher A_texts A_forces A_credits A_held A_cameAt A_farms A_sheriffs A_debts A_roll A_sticks A_table A_self A_debts_cells n_debts_cells f_debts_cells self_textsRead i_self_textsRead hi_self_textsRead self_now i_self_now hi_self_now debts_size i_debts_size hi_debts_size a1 i_a1 hi_a1 self_chest self_brought (by omega) (by omega) (by omega) (by omega) (by omega)) (cwV 1 hts gX6_owe_X6_leftOf rfl rfl rfl ⟨rfl, hdX6_leftOf⟩ ⟨(show 4 + 1 ≤ 5 by decide), (show 8 + (5 + 11) + 87 ≤ 111 by decide)⟩) ⟨Pre0.blind, va_recv hK hPc (ci := 6) (q0 := 0) rfl rfl, Pre0.at hPc hDc hAm hSt hS hFc⟩ rfl rfl hl.1 rfl (lv_room (Nat.le_of_ble_eq_true rfl)) dX6_owe_50 ⟨(show 0 + 0 ≤ 0 by decide), (show 0 + 0 ≤ 0 by decide)⟩) (fun r_5 hw_4 => ?_)
      exact W.lret (v := r_5) hx hb hr (fun t ht hW => ⟨_, rfl, trivial, ht⟩) (fun _ h => by cases h) dX6_owe_53
    by_cases k_6 : i_a2 = 1
    · have ek_6 : a2.toInt = 1 := hi_a2.trans k_6
      refine lv_tableIn (tgt := 54) hx hb dX6_owe_12 (by rw [ek_6]; decide) (by rw [ek_6]; decide) (by rw [ek_6]; rfl) (by decide) ?_
      refine lv_aload_n hx hb dX6_owe_54 rfl (lv_at hl 0 rfl) ?_
      refine va_get (D := D) (ci := 6) (v := .ref A_credits) (C := RX6) (T := TX6) (N := 18) hx hb hts (fun _ h => List.mem_cons_of_mem _ (List.mem_append_left _ (List.mem_append_right _ h))) hown hK hP 0 rfl rfl 6 (by decide) (hts (.fieldLink RX6 47 "CrownTable" "credits" "[J") (mem_i 2 rfl)) (fun _ h9 => h9) rfl dX6_owe_55 ?_
      refine lv_iload_n hx hb dX6_owe_58 rfl (lv_at hl 1 rfl) ?_
      refine va_lald hx hb hK hP 3 2 rfl rfl (vin (a := i_a1) hi_a1 (by omega) (by omega)) dX6_owe_59 ?_
      refine lv_topl (fun x_7 ex_7 => ?_)
      exact W.lret (v := x_7) hx hb hr (fun t ht hW => ⟨_, rfl, trivial, ht⟩) (fun _ h => by cases h) dX6_owe_60
    by_cases k_8 : i_a2 = 2
    · have ek_8 : a2.toInt = 2 := hi_a2.trans k_8
      refine lv_tableIn (tgt := 61) hx hb dX6_owe_12 (by rw [ek_8]; decide) (by rw [ek_8]; decide) (by rw [ek_8]; rfl) (by decide) ?_
      refine lv_aload_n hx hb dX6_owe_61 rfl (lv_at hl 0 rfl) ?_
      refine va_get (D := D) (ci := 6) (v := .ref A_held) (C := RX6) (T := TX6) (N := 18) hx hb hts (fun _ h => List.mem_cons_of_mem _ (List.mem_append_left _ (List.mem_append_right _ h))) hown hK hP 0 rfl rfl 7 (by decide) (hts (.fieldLink RX6 51 "CrownTable" "held" "[Z") (mem_i 3 rfl)) (fun _ h9 => h9) rfl dX6_owe_62 ?_
      refine lv_iload_n hx hb dX6_owe_65 rfl (lv_at hl 1 rfl) ?_
      refine va_zald hx hb hK hP 4 3 rfl rfl (vin (a := i_a1) hi_a1 (by omega) (by omega)) dX6_owe_66 ?_
      refine lv_topi (fun x_9 ex_9 => ?_)
      refine iif_eq (a := x_9.toInt) (tgt := 74) hx hb rfl dX6_owe_67 (by decide) (fun k_10 => ?_) (fun k_10 => ?_)
      · skip
        refine lv_lconst (v := 0) hx hb dX6_owe_74 (by decide) ?_
        exact W.lret (v := 0) hx hb hr (fun t ht hW => ⟨_, rfl, trivial, ht⟩) (fun _ h => by cases h) dX6_owe_75
      · skip
        refine lv_lconst (v := 1) hx hb dX6_owe_70 (by decide) ?_
        refine lv_goto (tgt := 75) hx hb dX6_owe_71 (by decide) ?_
        exact W.lret (v := 1) hx hb hr (fun t ht hW => ⟨_, rfl, trivial, ht⟩) (fun _ h => by cases h) dX6_owe_75
    by_cases k_11 : i_a2 = 3
    · have ek_11 : a2.toInt = 3 := hi_a2.trans k_11
      refine lv_tableIn (tgt := 76) hx hb dX6_owe_12 (by rw [ek_11]; decide) (by rw [ek_11]; decide) (by rw [ek_11]; rfl) (by decide) ?_
      refine lv_aload_n hx hb dX6_owe_76 rfl (lv_at hl 0 rfl) ?_
      refine lv_iload_n hx hb dX6_owe_77 rfl (lv_at hl 1 rfl) ?_
      have hPc := hP.sub (ws' := [(A_self, .inr (6, [.ref A_tape, .ref A_reader, .ref A_weigher, .ref A_texts, .int self_textsRead, .ref A_forces, .ref A_credits, .ref A_held, .ref A_cameAt, .ref A_farms, .ref A_sheriffs, .ref A_debts, .ref A_roll, .ref A_sticks, .ref A_table, .int self_now, .long self_chest, .long self_brought])), (A_debts, .inr (2, [.int 7, .int 400, .ref A_debts_cells, .int debts_size])), (A_debts_cells, .inl (c 1, n_debts_cells, .inl f_debts_cells))]) [0, 1, 2] rfl
      have hDc := hD.sub (ws' := [(A_self, .inr (6, [.ref A_tape, .ref A_reader, .ref A_weigher, .ref A_texts, .int self_textsRead, .ref A_forces, .ref A_credits, .ref A_held, .ref A_cameAt, .ref A_farms, .ref A_sheriffs, .ref A_debts, .ref A_roll, .ref A_sticks, .ref A_table, .int self_now, .long self_chest, .long self_brought])), (A_debts, .inr (2, [.int 7, .int 400, .ref A_debts_cells, .int debts_size])), (A_debts_cells, .inl (c 1, n_debts_cells, .inl f_debts_cells))]) [0, 1, 2] (by decide) rfl
      have hFc := va_free (wc := [(A_self, .inr (6, [.ref A_tape, .ref A_reader, .ref A_weigher, .ref A_texts, .int self_textsRead, .ref A_forces, .ref A_credits, .ref A_held, .ref A_cameAt, .ref A_farms, .ref A_sheriffs, .ref A_debts, .ref A_roll, .ref A_sticks, .ref A_table, .int self_now, .long self_chest, .long self_brought])), (A_debts, .inr (2, [.int 7, .int 400, .ref A_debts_cells, .int debts_size])), (A_debts_cells, .inl (c 1, n_debts_cells, .inl f_debts_cells))]) hD hS hA [0, 1, 2] rfl
      refine va_csi (va_runV (As := [.int a1]) (rest := []) ⟨hx, hb, hml, hown, hts⟩ (k_X6_owedDebtsOf l D c ts s.heap.size A_tape A_reader A_weigher A_texts A_forces A_credits A_held A_cameAt A_farms A_sheriffs A_debts A_roll A_sticks A_table A_self A_debts_cells n_debts_cells f_debts_cells self_textsRead i_self_textsRead hi_self_textsRead self_now i_self_now hi_self_now debts_size i_debts_size hi_debts_size a1 i_a1 hi_a1 self_chest self_brought (by omega) (by omega) (by omega) (by omega) (by omega)) (cwV 1 hts gX6_owe_X6_owedDebtsOf rfl rfl rfl ⟨rfl, hdX6_owedDebtsOf⟩ ⟨(show 4 + 1 ≤ 5 by decide), (show 8 + (4 + 11) + 87 ≤ 111 by decide)⟩) ⟨Pre0.blind, va_recv hK hPc (ci := 6) (q0 := 0) rfl rfl, Pre0.at hPc hDc hAm hSt hS hFc⟩ rfl rfl hl.1 rfl (lv_room (Nat.le_of_ble_eq_true rfl)) dX6_owe_78 ⟨(show 0 + 0 ≤ 0 by decide), (show 0 + 0 ≤ 0 by decide)⟩) (fun r_13 hw_12 => ?_)
      refine lv_i2l hx hb dX6_owe_81 rfl ?_
      exact W.lret (v := r_13.toInt64) hx hb hr (fun t ht hW => ⟨_, rfl, trivial, ht⟩) (fun _ h => by cases h) dX6_owe_82
    by_cases k_14 : i_a2 = 4
    · have ek_14 : a2.toInt = 4 := hi_a2.trans k_14
      refine lv_tableIn (tgt := 83) hx hb dX6_owe_12 (by rw [ek_14]; decide) (by rw [ek_14]; decide) (by rw [ek_14]; rfl) (by decide) ?_
      refine lv_aload_n hx hb dX6_owe_83 rfl (lv_at hl 0 rfl) ?_
      refine va_get (D := D) (ci := 6) (v := .ref A_cameAt) (C := RX6) (T := TX6) (N := 18) hx hb hts (fun _ h => List.mem_cons_of_mem _ (List.mem_append_left _ (List.mem_append_right _ h))) hown hK hP 0 rfl rfl 8 (by decide) (hts (.fieldLink RX6 55 "CrownTable" "cameAt" "[I") (mem_i 4 rfl)) (fun _ h9 => h9) rfl dX6_owe_84 ?_
      refine lv_iload_n hx hb dX6_owe_87 rfl (lv_at hl 1 rfl) ?_
      refine va_iald hx hb hK hP 5 1 rfl rfl (vin (a := i_a1) hi_a1 (by omega) (by omega)) dX6_owe_88 ?_
      refine lv_topi (fun x_15 ex_15 => ?_)
      refine lv_aload_n hx hb dX6_owe_89 rfl (lv_at hl 0 rfl) ?_
      refine va_get (D := D) (ci := 6) (v := .int self_now) (C := RX6) (T := TX6) (N := 18) hx hb hts (fun _ h => List.mem_cons_of_mem _ (List.mem_append_left _ (List.mem_append_right _ h))) hown hK hP 0 rfl rfl 15 (by decide) (hts (.fieldLink RX6 120 "CrownTable" "now" "I") (mem_i 5 rfl)) (fun _ h9 => h9) rfl dX6_owe_90 ?_
      refine iicmp_ne (a := x_15.toInt) (b := i_self_now) (tgt := 100) hx hb rfl hi_self_now dX6_owe_93 (by decide) (fun k_16 => ?_) (fun k_16 => ?_)
      · skip
        refine lv_lconst (v := 0) hx hb dX6_owe_100 (by decide) ?_
        exact W.lret (v := 0) hx hb hr (fun t ht hW => ⟨_, rfl, trivial, ht⟩) (fun _ h => by cases h) dX6_owe_101
      · skip
        refine lv_lconst (v := 1) hx hb dX6_owe_96 (by decide) ?_
        refine lv_goto (tgt := 101) hx hb dX6_owe_97 (by decide) ?_
        exact W.lret (v := 1) hx hb hr (fun t ht hW => ⟨_, rfl, trivial, ht⟩) (fun _ h => by cases h) dX6_owe_101
    refine lv_tableOut (tgt := 102) hx hb dX6_owe_12 (by rw [hi_a2]; omega) (by decide) ?_
    refine lv_ldc2 (v := (-1)) hx hb hown (hts (.constantLong RX6 205 (-1)) (mem_i 1 rfl)) dX6_owe_102 ?_
    exact W.lret (v := (-1)) hx hb hr (fun t ht hW => ⟨_, rfl, trivial, ht⟩) (fun _ h => by cases h) dX6_owe_105
  · skip
    refine iif_neF (a := 0) (tgt := 11) hx hb (by decide) dX6_owe_4 (by decide) (by decide) ?_
    refine lv_ldc2 (v := (-1)) hx hb hown (hts (.constantLong RX6 205 (-1)) (mem_i 1 rfl)) dX6_owe_7 ?_
    exact W.lret (v := (-1)) hx hb hr (fun t ht hW => ⟨_, rfl, trivial, ht⟩) (fun _ h => by cases h) dX6_owe_10

set_option maxHeartbeats 4000000 in
set_option maxRecDepth 100000 in
theorem k_X6_line (l : Launch) (D : va_G) (c : Nat → ClassId) (ts : Nat × Nat) (sz : Nat) (A_tape : Nat) (A_reader : Nat) (A_weigher : Nat) (A_texts : Nat) (A_forces : Nat) (A_credits : Nat) (A_held : Nat) (A_cameAt : Nat) (A_farms : Nat) (A_sheriffs : Nat) (A_debts : Nat) (A_roll : Nat) (A_sticks : Nat) (A_table : Nat) (A_self : Nat) (A_roll_cells : Nat) (n_roll_cells : Nat) (f_roll_cells : Nat → Int32) (self_textsRead : Int32) (i_self_textsRead : Int) (hi_self_textsRead : self_textsRead.toInt = i_self_textsRead) (self_now : Int32) (i_self_now : Int) (hi_self_now : self_now.toInt = i_self_now) (roll_size : Int32) (i_roll_size : Int) (hi_roll_size : roll_size.toInt = i_roll_size) (a1 : Int32) (i_a1 : Int) (hi_a1 : a1.toInt = i_a1) (a2 : Int32) (i_a2 : Int) (hi_a2 : a2.toInt = i_a2) (self_chest : Int64) (self_brought : Int64) (hv_self_textsRead : 0 ≤ i_self_textsRead ∧ i_self_textsRead ≤ 10) (hv_self_now : 0 ≤ i_self_now ∧ i_self_now ≤ 1000) (hv_roll_size : 0 ≤ i_roll_size ∧ i_roll_size ≤ 4000) (hn_roll_cells : 128 ≤ n_roll_cells ∧ n_roll_cells ≤ 64000) (hm_roll_cells : 8 * i_roll_size ≤ (n_roll_cells : Int)) : Met l yX6_line wsX6_line ({ frames := 2, cells := 0, slots := 0, locals := 44 }) (va_Pc [.ref A_self, .int a1, .int a2] (Pre0 D c ts [(A_self, .inr (6, [.ref A_tape, .ref A_reader, .ref A_weigher, .ref A_texts, .int self_textsRead, .ref A_forces, .ref A_credits, .ref A_held, .ref A_cameAt, .ref A_farms, .ref A_sheriffs, .ref A_debts, .ref A_roll, .ref A_sticks, .ref A_table, .int self_now, .long self_chest, .long self_brought])), (A_roll, .inr (2, [.int 8, .int 4000, .ref A_roll_cells, .int roll_size])), (A_roll_cells, .inl (c 1, n_roll_cells, .inl f_roll_cells))] sz)) (vp_Si (fun r : Int32 => True)) 0 0 (fun _ => False) := by
  refine Met.ofW (cc := cX6_line) (maxL := 3) (ret := (some .int)) (by decide) rfl ?_
  intro p e s m args below meth cd s₁ B hml hv
  obtain ⟨rfl, hsz, hP, hD0, hAm, hSt⟩ := hv
  have hx := B.exec
  have hb := B.bytes
  have hr := B.returns
  have hts := atoms_spec (ws := wsX6_line) B.pre
  have hown : s.vm.findClass RX6 = some m.cls := findClass_of_methodNamed B.named
  have hlocks := B.notSynchronized
  have hK := hAm.1
  subst hsz
  have hD := hD0.self (sz := s.heap.size)
  generalize hAe : va_A [(A_self, .inr (6, [.ref A_tape, .ref A_reader, .ref A_weigher, .ref A_texts, .int self_textsRead, .ref A_forces, .ref A_credits, .ref A_held, .ref A_cameAt, .ref A_farms, .ref A_sheriffs, .ref A_debts, .ref A_roll, .ref A_sticks, .ref A_table, .int self_now, .long self_chest, .long self_brought])), (A_roll, .inr (2, [.int 8, .int 4000, .ref A_roll_cells, .int roll_size])), (A_roll_cells, .inl (c 1, n_roll_cells, .inl f_roll_cells))] s.heap.size = A at hD hSt
  have hA : ∀ q : Nat, s.heap.size ≤ q → A q := fun q h => by rw [← hAe]; exact Or.inr h
  have hS : va_S A s.heap s.heap [] := va_S.rf
  clear hD0 hAe
  have hl := lv_entry ([.ref A_self, .int a1, .int a2]) (n := 3) (Nat.le_of_ble_eq_true rfl)
  rw [lg_entry_eq]
  generalize (lg_sl ([.ref A_self, .int a1, .int a2]) ++ List.replicate (3 - (lg_sl ([.ref A_self, .int a1, .int a2])).length) Slot.unset).toArray = ls at hl ⊢
  have hl : lv_has ls 3 [(0, .ref A_self), (1, .int a1), (2, .int a2)] := hl
  have rg_a1 := i32r a1
  have rg_a2 := i32r a2
  refine lv_aload_n hx hb dX6_line_0 rfl (lv_at hl 0 rfl) ?_
  refine va_get (D := D) (ci := 6) (v := .ref A_roll) (C := RX6) (T := TX6) (N := 18) hx hb hts (fun _ h => List.mem_cons_of_mem _ (List.mem_append_left _ (List.mem_append_right _ h))) hown hK hP 0 rfl rfl 12 (by decide) (hts (.fieldLink RX6 68 "CrownTable" "roll" "LCrownTable$Rows;") (mem_i 1 rfl)) (fun _ h9 => h9) rfl dX6_line_1 ?_
  refine lv_iload_n hx hb dX6_line_4 rfl (lv_at hl 1 rfl) ?_
  refine lv_iload_n hx hb dX6_line_5 rfl (lv_at hl 2 rfl) ?_
  have hPc := hP.sub (ws' := [(A_roll, .inr (2, [.int 8, .int 4000, .ref A_roll_cells, .int roll_size]))]) [1] rfl
  have hDc := hD.sub (ws' := [(A_roll, .inr (2, [.int 8, .int 4000, .ref A_roll_cells, .int roll_size]))]) [1] (by decide) rfl
  have hFc := va_free (wc := [(A_roll, .inr (2, [.int 8, .int 4000, .ref A_roll_cells, .int roll_size]))]) hD hS hA [1] rfl
  refine va_csi (va_runVN (As := [.int a1, .int a2]) (rest := []) ⟨hx, hb, hml, hown, hts⟩ (k_X2_has_roll l D c ts s.heap.size A_roll_cells A_roll roll_size i_roll_size hi_roll_size a1 i_a1 hi_a1 a2 i_a2 hi_a2 (by omega)) ⟨va_cnB 2 hts gX6_line_X2_has_n202 rfl rfl rfl (show va_Nw (.methodLinkNest RX6 202 yX2_has RX6) _ from hAm.2.1.1 (RX6, 202, yX2_has, RX6) (mem_i 14 rfl)) (hts (.initialized RX2) (mem_i 3 rfl)) hdX2_has ⟨(show 0 + 1 ≤ 2 by decide), (show 8 + (3 + 11) + 0 ≤ 44 by decide)⟩, (hts (.instanceMethod yX2_has) (mem_i 2 rfl)), (hts (.selects RX2 yX2_has yX2_has) (mem_i 4 rfl))⟩ ⟨Pre0.blind, va_recv hK hPc (ci := 2) (q0 := 0) rfl rfl, Pre0.at hPc hDc hAm hSt hS hFc⟩ rfl rfl hl.1 rfl (lv_room (Nat.le_of_ble_eq_true rfl)) dX6_line_6 ⟨(show 0 + 0 ≤ 0 by decide), (show 0 + 0 ≤ 0 by decide)⟩) (fun r_2 hw_1 => ?_)
  rcases hw_1 with ⟨hw_1, rfl⟩ | ⟨hw_1, rfl⟩
  · skip
    refine iif_eqF (a := 1) (tgt := 24) hx hb (by decide) dX6_line_9 (by decide) (by decide) ?_
    refine lv_aload_n hx hb dX6_line_12 rfl (lv_at hl 0 rfl) ?_
    refine va_get (D := D) (ci := 6) (v := .ref A_roll) (C := RX6) (T := TX6) (N := 18) hx hb hts (fun _ h => List.mem_cons_of_mem _ (List.mem_append_left _ (List.mem_append_right _ h))) hown hK hP 0 rfl rfl 12 (by decide) (hts (.fieldLink RX6 68 "CrownTable" "roll" "LCrownTable$Rows;") (mem_i 1 rfl)) (fun _ h9 => h9) rfl dX6_line_13 ?_
    refine lv_iload_n hx hb dX6_line_16 rfl (lv_at hl 1 rfl) ?_
    refine lv_iload_n hx hb dX6_line_17 rfl (lv_at hl 2 rfl) ?_
    have hPc := hP.sub (ws' := [(A_roll, .inr (2, [.int 8, .int 4000, .ref A_roll_cells, .int roll_size])), (A_roll_cells, .inl (c 1, n_roll_cells, .inl f_roll_cells))]) [1, 2] rfl
    have hDc := hD.sub (ws' := [(A_roll, .inr (2, [.int 8, .int 4000, .ref A_roll_cells, .int roll_size])), (A_roll_cells, .inl (c 1, n_roll_cells, .inl f_roll_cells))]) [1, 2] (by decide) rfl
    have hFc := va_free (wc := [(A_roll, .inr (2, [.int 8, .int 4000, .ref A_roll_cells, .int roll_size])), (A_roll_cells, .inl (c 1, n_roll_cells, .inl f_roll_cells))]) hD hS hA [1, 2] rfl
    refine va_csi (va_runVN (As := [.int a1, .int a2]) (rest := []) ⟨hx, hb, hml, hown, hts⟩ (k_X2_get_roll l D c ts s.heap.size A_roll_cells A_roll n_roll_cells f_roll_cells roll_size i_roll_size hi_roll_size a1 i_a1 hi_a1 a2 i_a2 hi_a2 (by omega) (by omega) (by omega)) ⟨va_cnB 2 hts gX6_line_X2_get_n139 rfl rfl rfl (show va_Nw (.methodLinkNest RX6 139 yX2_get RX6) _ from hAm.2.1.1 (RX6, 139, yX2_get, RX6) (mem_i 13 rfl)) (hts (.initialized RX2) (mem_i 3 rfl)) hdX2_get ⟨(show 1 + 1 ≤ 2 by decide), (show 8 + (3 + 11) + 22 ≤ 44 by decide)⟩, (hts (.instanceMethod yX2_get) (mem_i 8 rfl)), (hts (.selects RX2 yX2_get yX2_get) (mem_i 9 rfl))⟩ ⟨Pre0.blind, va_recv hK hPc (ci := 2) (q0 := 0) rfl rfl, Pre0.at hPc hDc hAm hSt hS hFc⟩ rfl rfl hl.1 rfl (lv_room (Nat.le_of_ble_eq_true rfl)) dX6_line_18 ⟨(show 0 + 0 ≤ 0 by decide), (show 0 + 0 ≤ 0 by decide)⟩) (fun r_4 hw_3 => ?_)
    clear hw_3
    have rg_r_4 := i32r r_4
    refine lv_goto (tgt := 26) hx hb dX6_line_21 (by decide) ?_
    exact W.iret (v := r_4) hx hb hr (fun t ht hW => ⟨_, rfl, trivial, ht⟩) (fun _ h => by cases h) dX6_line_26
  · skip
    refine iif_eqT (a := 0) (tgt := 24) hx hb (by decide) dX6_line_9 (by decide) (by decide) ?_
    refine lv_bipush (v := (-2)) hx hb dX6_line_24 (by decide) ?_
    have kzz_5 : ((-2) : Int32).toInt = (-2) := by decide
    exact W.iret (v := (-2)) hx hb hr (fun t ht hW => ⟨_, rfl, trivial, ht⟩) (fun _ h => by cases h) dX6_line_26

set_option maxHeartbeats 4000000 in
set_option maxRecDepth 100000 in
theorem k_X6_as (l : Launch) (D : va_G) (c : Nat → ClassId) (ts : Nat × Nat) (sz : Nat) (A_tape : Nat) (A_reader : Nat) (A_weigher : Nat) (A_texts : Nat) (A_forces : Nat) (A_credits : Nat) (A_held : Nat) (A_cameAt : Nat) (A_farms : Nat) (A_sheriffs : Nat) (A_debts : Nat) (A_roll : Nat) (A_sticks : Nat) (A_table : Nat) (A_self : Nat) (A_debts_cells : Nat) (n_debts_cells : Nat) (f_debts_cells : Nat → Int32) (A_roll_cells : Nat) (n_roll_cells : Nat) (f_roll_cells : Nat → Int32) (self_textsRead : Int32) (i_self_textsRead : Int) (hi_self_textsRead : self_textsRead.toInt = i_self_textsRead) (self_now : Int32) (i_self_now : Int) (hi_self_now : self_now.toInt = i_self_now) (debts_size : Int32) (i_debts_size : Int) (hi_debts_size : debts_size.toInt = i_debts_size) (roll_size : Int32) (i_roll_size : Int) (hi_roll_size : roll_size.toInt = i_roll_size) (a1 : Int32) (i_a1 : Int) (hi_a1 : a1.toInt = i_a1) (a2 : Int32) (i_a2 : Int) (hi_a2 : a2.toInt = i_a2) (self_chest : Int64) (self_brought : Int64) (hv_self_textsRead : 0 ≤ i_self_textsRead ∧ i_self_textsRead ≤ 10) (hv_self_now : 0 ≤ i_self_now ∧ i_self_now ≤ 1000) (hv_debts_size : 0 ≤ i_debts_size ∧ i_debts_size ≤ 400) (hn_debts_cells : 112 ≤ n_debts_cells ∧ n_debts_cells ≤ 5600) (hm_debts_cells : 7 * i_debts_size ≤ (n_debts_cells : Int)) (hv_roll_size : 0 ≤ i_roll_size ∧ i_roll_size ≤ 4000) (hn_roll_cells : 128 ≤ n_roll_cells ∧ n_roll_cells ≤ 64000) (hm_roll_cells : 8 * i_roll_size ≤ (n_roll_cells : Int)) : Met l yX6_as wsX6_as ({ frames := 2, cells := 0, slots := 0, locals := 44 }) (va_Pc [.ref A_self, .int a1, .int a2] (Pre0 D c ts [(A_self, .inr (6, [.ref A_tape, .ref A_reader, .ref A_weigher, .ref A_texts, .int self_textsRead, .ref A_forces, .ref A_credits, .ref A_held, .ref A_cameAt, .ref A_farms, .ref A_sheriffs, .ref A_debts, .ref A_roll, .ref A_sticks, .ref A_table, .int self_now, .long self_chest, .long self_brought])), (A_debts, .inr (2, [.int 7, .int 400, .ref A_debts_cells, .int debts_size])), (A_debts_cells, .inl (c 1, n_debts_cells, .inl f_debts_cells)), (A_roll, .inr (2, [.int 8, .int 4000, .ref A_roll_cells, .int roll_size])), (A_roll_cells, .inl (c 1, n_roll_cells, .inl f_roll_cells))] sz)) (vp_Si (fun r : Int32 => True)) 0 0 (fun _ => False) := by
  refine Met.ofW (cc := cX6_as) (maxL := 5) (ret := (some .int)) (by decide) rfl ?_
  intro p e s m args below meth cd s₁ B hml hv
  obtain ⟨rfl, hsz, hP, hD0, hAm, hSt⟩ := hv
  have hx := B.exec
  have hb := B.bytes
  have hr := B.returns
  have hts := atoms_spec (ws := wsX6_as) B.pre
  have hown : s.vm.findClass RX6 = some m.cls := findClass_of_methodNamed B.named
  have hlocks := B.notSynchronized
  have hK := hAm.1
  subst hsz
  have hD := hD0.self (sz := s.heap.size)
  generalize hAe : va_A [(A_self, .inr (6, [.ref A_tape, .ref A_reader, .ref A_weigher, .ref A_texts, .int self_textsRead, .ref A_forces, .ref A_credits, .ref A_held, .ref A_cameAt, .ref A_farms, .ref A_sheriffs, .ref A_debts, .ref A_roll, .ref A_sticks, .ref A_table, .int self_now, .long self_chest, .long self_brought])), (A_debts, .inr (2, [.int 7, .int 400, .ref A_debts_cells, .int debts_size])), (A_debts_cells, .inl (c 1, n_debts_cells, .inl f_debts_cells)), (A_roll, .inr (2, [.int 8, .int 4000, .ref A_roll_cells, .int roll_size])), (A_roll_cells, .inl (c 1, n_roll_cells, .inl f_roll_cells))] s.heap.size = A at hD hSt
  have hA : ∀ q : Nat, s.heap.size ≤ q → A q := fun q h => by rw [← hAe]; exact Or.inr h
  have hS : va_S A s.heap s.heap [] := va_S.rf
  clear hD0 hAe
  have hl := lv_entry ([.ref A_self, .int a1, .int a2]) (n := 5) (Nat.le_of_ble_eq_true rfl)
  rw [lg_entry_eq]
  generalize (lg_sl ([.ref A_self, .int a1, .int a2]) ++ List.replicate (5 - (lg_sl ([.ref A_self, .int a1, .int a2])).length) Slot.unset).toArray = ls at hl ⊢
  have hl : lv_has ls 5 [(0, .ref A_self), (1, .int a1), (2, .int a2)] := hl
  have rg_a1 := i32r a1
  have rg_a2 := i32r a2
  refine lv_aload_n hx hb dX6_as_0 rfl (lv_at hl 0 rfl) ?_
  refine va_get (D := D) (ci := 6) (v := .ref A_debts) (C := RX6) (T := TX6) (N := 18) hx hb hts (fun _ h => List.mem_cons_of_mem _ (List.mem_append_left _ (List.mem_append_right _ h))) hown hK hP 0 rfl rfl 11 (by decide) (hts (.fieldLink RX6 65 "CrownTable" "debts" "LCrownTable$Rows;") (mem_i 1 rfl)) (fun _ h9 => h9) rfl dX6_as_1 ?_
  refine lv_iload_n hx hb dX6_as_4 rfl (lv_at hl 1 rfl) ?_
  refine lv_iconst (v := 4) hx hb dX6_as_5 (by decide) ?_
  have hPc := hP.sub (ws' := [(A_debts, .inr (2, [.int 7, .int 400, .ref A_debts_cells, .int debts_size]))]) [1] rfl
  have hDc := hD.sub (ws' := [(A_debts, .inr (2, [.int 7, .int 400, .ref A_debts_cells, .int debts_size]))]) [1] (by decide) rfl
  have hFc := va_free (wc := [(A_debts, .inr (2, [.int 7, .int 400, .ref A_debts_cells, .int debts_size]))]) hD hS hA [1] rfl
  have kzz_1 : (4 : Int32).toInt = 4 := by decide
  refine va_csi (va_runVN (As := [.int a1, .int 4]) (rest := []) ⟨hx, hb, hml, hown, hts⟩ (k_X2_has_debts l D c ts s.heap.size A_debts_cells A_debts debts_size i_debts_size hi_debts_size a1 i_a1 hi_a1 4 4 (by decide) (by omega)) ⟨va_cnB 2 hts gX6_as_X2_has_n202 rfl rfl rfl (show va_Nw (.methodLinkNest RX6 202 yX2_has RX6) _ from hAm.2.1.1 (RX6, 202, yX2_has, RX6) (mem_i 14 rfl)) (hts (.initialized RX2) (mem_i 5 rfl)) hdX2_has ⟨(show 0 + 1 ≤ 2 by decide), (show 8 + (3 + 11) + 0 ≤ 44 by decide)⟩, (hts (.instanceMethod yX2_has) (mem_i 4 rfl)), (hts (.selects RX2 yX2_has yX2_has) (mem_i 6 rfl))⟩ ⟨Pre0.blind, va_recv hK hPc (ci := 2) (q0 := 0) rfl rfl, Pre0.at hPc hDc hAm hSt hS hFc⟩ rfl rfl hl.1 rfl (lv_room (Nat.le_of_ble_eq_true rfl)) dX6_as_6 ⟨(show 0 + 0 ≤ 0 by decide), (show 0 + 0 ≤ 0 by decide)⟩) (fun r_3 hw_2 => ?_)
  rcases hw_2 with ⟨hw_2, rfl⟩ | ⟨hw_2, rfl⟩
  · skip
    refine iif_eqF (a := 1) (tgt := 24) hx hb (by decide) dX6_as_9 (by decide) (by decide) ?_
    refine lv_iload_n hx hb dX6_as_12 rfl (lv_at hl 2 rfl) ?_
    refine iif_lt (a := i_a2) (tgt := 24) hx hb hi_a2 dX6_as_13 (by decide) (fun k_4 => ?_) (fun k_4 => ?_)
    · skip
      refine lv_bipush (v := (-2)) hx hb dX6_as_24 (by decide) ?_
      have kzz_5 : ((-2) : Int32).toInt = (-2) := by decide
      exact W.iret (v := (-2)) hx hb hr (fun t ht hW => ⟨_, rfl, trivial, ht⟩) (fun _ h => by cases h) dX6_as_26
    · skip
      refine lv_iload_n hx hb dX6_as_16 rfl (lv_at hl 2 rfl) ?_
      refine lv_aload_n hx hb dX6_as_17 rfl (lv_at hl 0 rfl) ?_
      refine va_get (D := D) (ci := 6) (v := .int self_now) (C := RX6) (T := TX6) (N := 18) hx hb hts (fun _ h => List.mem_cons_of_mem _ (List.mem_append_left _ (List.mem_append_right _ h))) hown hK hP 0 rfl rfl 15 (by decide) (hts (.fieldLink RX6 120 "CrownTable" "now" "I") (mem_i 2 rfl)) (fun _ h9 => h9) rfl dX6_as_18 ?_
      refine iicmp_le (a := i_a2) (b := i_self_now) (tgt := 27) hx hb hi_a2 hi_self_now dX6_as_21 (by decide) (fun k_6 => ?_) (fun k_6 => ?_)
      · skip
        refine lv_aload_n hx hb dX6_as_27 rfl (lv_at hl 0 rfl) ?_
        refine va_get (D := D) (ci := 6) (v := .ref A_debts) (C := RX6) (T := TX6) (N := 18) hx hb hts (fun _ h => List.mem_cons_of_mem _ (List.mem_append_left _ (List.mem_append_right _ h))) hown hK hP 0 rfl rfl 11 (by decide) (hts (.fieldLink RX6 65 "CrownTable" "debts" "LCrownTable$Rows;") (mem_i 1 rfl)) (fun _ h9 => h9) rfl dX6_as_28 ?_
        refine lv_iload_n hx hb dX6_as_31 rfl (lv_at hl 1 rfl) ?_
        refine lv_iconst (v := 4) hx hb dX6_as_32 (by decide) ?_
        have hPc := hP.sub (ws' := [(A_debts, .inr (2, [.int 7, .int 400, .ref A_debts_cells, .int debts_size])), (A_debts_cells, .inl (c 1, n_debts_cells, .inl f_debts_cells))]) [1, 2] rfl
        have hDc := hD.sub (ws' := [(A_debts, .inr (2, [.int 7, .int 400, .ref A_debts_cells, .int debts_size])), (A_debts_cells, .inl (c 1, n_debts_cells, .inl f_debts_cells))]) [1, 2] (by decide) rfl
        have hFc := va_free (wc := [(A_debts, .inr (2, [.int 7, .int 400, .ref A_debts_cells, .int debts_size])), (A_debts_cells, .inl (c 1, n_debts_cells, .inl f_debts_cells))]) hD hS hA [1, 2] rfl
        have kzz_7 : (4 : Int32).toInt = 4 := by decide
        refine va_csi (va_runVN (As := [.int a1, .int 4]) (rest := []) ⟨hx, hb, hml, hown, hts⟩ (k_X2_get_debts l D c ts s.heap.size A_debts_cells A_debts n_debts_cells f_debts_cells debts_size i_debts_size hi_debts_size a1 i_a1 hi_a1 4 4 (by decide) (by omega) (by omega) (by omega)) ⟨va_cnB 2 hts gX6_as_X2_get_n139 rfl rfl rfl (show va_Nw (.methodLinkNest RX6 139 yX2_get RX6) _ from hAm.2.1.1 (RX6, 139, yX2_get, RX6) (mem_i 13 rfl)) (hts (.initialized RX2) (mem_i 5 rfl)) hdX2_get ⟨(show 1 + 1 ≤ 2 by decide), (show 8 + (3 + 11) + 22 ≤ 44 by decide)⟩, (hts (.instanceMethod yX2_get) (mem_i 10 rfl)), (hts (.selects RX2 yX2_get yX2_get) (mem_i 11 rfl))⟩ ⟨Pre0.blind, va_recv hK hPc (ci := 2) (q0 := 0) rfl rfl, Pre0.at hPc hDc hAm hSt hS hFc⟩ rfl rfl hl.1 rfl (lv_room (Nat.le_of_ble_eq_true rfl)) dX6_as_33 ⟨(show 0 + 0 ≤ 0 by decide), (show 0 + 0 ≤ 0 by decide)⟩) (fun r_9 hw_8 => ?_)
        clear hw_8
        have rg_r_9 := i32r r_9
        refine lv_iload_n hx hb dX6_as_36 rfl (lv_at hl 2 rfl) ?_
        refine iicmp_le (a := r_9.toInt) (b := i_a2) (tgt := 42) hx hb rfl hi_a2 dX6_as_37 (by decide) (fun k_10 => ?_) (fun k_10 => ?_)
        · skip
          refine lv_aload_n hx hb dX6_as_42 rfl (lv_at hl 0 rfl) ?_
          refine va_get (D := D) (ci := 6) (v := .ref A_debts) (C := RX6) (T := TX6) (N := 18) hx hb hts (fun _ h => List.mem_cons_of_mem _ (List.mem_append_left _ (List.mem_append_right _ h))) hown hK hP 0 rfl rfl 11 (by decide) (hts (.fieldLink RX6 65 "CrownTable" "debts" "LCrownTable$Rows;") (mem_i 1 rfl)) (fun _ h9 => h9) rfl dX6_as_43 ?_
          refine lv_iload_n hx hb dX6_as_46 rfl (lv_at hl 1 rfl) ?_
          refine lv_iconst (v := 2) hx hb dX6_as_47 (by decide) ?_
          have hPc := hP.sub (ws' := [(A_debts, .inr (2, [.int 7, .int 400, .ref A_debts_cells, .int debts_size])), (A_debts_cells, .inl (c 1, n_debts_cells, .inl f_debts_cells))]) [1, 2] rfl
          have hDc := hD.sub (ws' := [(A_debts, .inr (2, [.int 7, .int 400, .ref A_debts_cells, .int debts_size])), (A_debts_cells, .inl (c 1, n_debts_cells, .inl f_debts_cells))]) [1, 2] (by decide) rfl
          have hFc := va_free (wc := [(A_debts, .inr (2, [.int 7, .int 400, .ref A_debts_cells, .int debts_size])), (A_debts_cells, .inl (c 1, n_debts_cells, .inl f_debts_cells))]) hD hS hA [1, 2] rfl
          have kzz_11 : (2 : Int32).toInt = 2 := by decide
          refine va_csi (va_runVN (As := [.int a1, .int 2]) (rest := []) ⟨hx, hb, hml, hown, hts⟩ (k_X2_get_debts l D c ts s.heap.size A_debts_cells A_debts n_debts_cells f_debts_cells debts_size i_debts_size hi_debts_size a1 i_a1 hi_a1 2 2 (by decide) (by omega) (by omega) (by omega)) ⟨va_cnB 2 hts gX6_as_X2_get_n139 rfl rfl rfl (show va_Nw (.methodLinkNest RX6 139 yX2_get RX6) _ from hAm.2.1.1 (RX6, 139, yX2_get, RX6) (mem_i 13 rfl)) (hts (.initialized RX2) (mem_i 5 rfl)) hdX2_get ⟨(show 1 + 1 ≤ 2 by decide), (show 8 + (3 + 11) + 22 ≤ 44 by decide)⟩, (hts (.instanceMethod yX2_get) (mem_i 10 rfl)), (hts (.selects RX2 yX2_get yX2_get) (mem_i 11 rfl))⟩ ⟨Pre0.blind, va_recv hK hPc (ci := 2) (q0 := 0) rfl rfl, Pre0.at hPc hDc hAm hSt hS hFc⟩ rfl rfl hl.1 rfl (lv_room (Nat.le_of_ble_eq_true rfl)) dX6_as_48 ⟨(show 0 + 0 ≤ 0 by decide), (show 0 + 0 ≤ 0 by decide)⟩) (fun r_13 hw_12 => ?_)
          clear hw_12
          have rg_r_13 := i32r r_13
          refine lv_istore_n (lv' := [(3, .int r_13), (0, .ref A_self), (1, .int a1), (2, .int a2)]) hx hb dX6_as_51 rfl hl (by decide) rfl (fun ls hl => ?_)
          refine lv_iconst (v := 0) hx hb dX6_as_52 (by decide) ?_
          refine lv_istore (lv' := [(4, .int 0), (3, .int r_13), (0, .ref A_self), (1, .int a1), (2, .int a2)]) hx hb dX6_as_53 hl (by decide) rfl (fun ls hl => ?_)
          have lp_55 : ∀ (N : Nat) (L3 : Int32) (L4 : Int32) (hf55_0 : 0 ≤ L4.toInt) (hf55_1 : L4.toInt ≤ 4000) (hf55_2 : L4.toInt ≤ i_roll_size) (hN55 : (4000 - L4.toInt).toNat = N) (ls : Array Slot), lv_has ls 5 [(0, .ref A_self), (1, .int a1), (2, .int a2), (3, .int L3), (4, .int L4)] → W p l e (headSpec wsX6_as ({ frames := 2, cells := 0, slots := 0, locals := 44 })).room s m (([.ref A_self, .int a1, .int a2] : List Value).toArray) below meth cd s.heap [] 0 0 (MQ below (vp_Si (fun r : Int32 => True)) ([.ref A_self, .int a1, .int a2] : List Value).toArray s 0 0 (fun _ => False)) (F0 m 55 ls []) := by
            refine st_ind (fun N ih55 => ?_)
            intro L3 L4 hf55_0 hf55_1 hf55_2 hN55 ls hl
            have rg_L3 := i32r L3
            refine lv_iload hx hb dX6_as_55 (lv_at hl 4 rfl) ?_
            refine lv_aload_n hx hb dX6_as_57 rfl (lv_at hl 0 rfl) ?_
            refine va_get (D := D) (ci := 6) (v := .ref A_roll) (C := RX6) (T := TX6) (N := 18) hx hb hts (fun _ h => List.mem_cons_of_mem _ (List.mem_append_left _ (List.mem_append_right _ h))) hown hK hP 0 rfl rfl 12 (by decide) (hts (.fieldLink RX6 68 "CrownTable" "roll" "LCrownTable$Rows;") (mem_i 3 rfl)) (fun _ h9 => h9) rfl dX6_as_58 ?_
            refine va_getN (D := D) (ci := 2) (v := .int roll_size) (own := RX6) (ref := "CrownTable$Rows") (host := RX6) (index := 155) (C := RX2) (T := TX2) (N := 4) hx hb hts (fun _ h => List.mem_cons_of_mem _ (List.mem_append_right _ h)) hown hK hP 3 rfl rfl 3 (by decide) (show (Cond.fieldLinkNest RX6 155 "CrownTable$Rows" "size" "I" RX6).before _ _ = true from va_Nw.use rfl (hAm.2.1.2 (RX6, 155, "CrownTable$Rows", "size", "I", RX6) (mem_i 3 rfl))) (fun _ h9 => h9) rfl dX6_as_61 ?_
            refine iicmp_ge (a := L4.toInt) (b := i_roll_size) (tgt := 132) hx hb rfl hi_roll_size dX6_as_64 (by decide) (fun k_14 => ?_) (fun k_14 => ?_)
            · skip
              refine lv_iload_n hx hb dX6_as_132 rfl (lv_at hl 3 rfl) ?_
              exact W.iret (v := L3) hx hb hr (fun t ht hW => ⟨_, rfl, trivial, ht⟩) (fun _ h => by cases h) dX6_as_133
            · skip
              refine lv_aload_n hx hb dX6_as_67 rfl (lv_at hl 0 rfl) ?_
              refine va_get (D := D) (ci := 6) (v := .ref A_roll) (C := RX6) (T := TX6) (N := 18) hx hb hts (fun _ h => List.mem_cons_of_mem _ (List.mem_append_left _ (List.mem_append_right _ h))) hown hK hP 0 rfl rfl 12 (by decide) (hts (.fieldLink RX6 68 "CrownTable" "roll" "LCrownTable$Rows;") (mem_i 3 rfl)) (fun _ h9 => h9) rfl dX6_as_68 ?_
              refine lv_iload hx hb dX6_as_71 (lv_at hl 4 rfl) ?_
              refine lv_iconst (v := 0) hx hb dX6_as_73 (by decide) ?_
              have hPc := hP.sub (ws' := [(A_roll, .inr (2, [.int 8, .int 4000, .ref A_roll_cells, .int roll_size])), (A_roll_cells, .inl (c 1, n_roll_cells, .inl f_roll_cells))]) [3, 4] rfl
              have hDc := hD.sub (ws' := [(A_roll, .inr (2, [.int 8, .int 4000, .ref A_roll_cells, .int roll_size])), (A_roll_cells, .inl (c 1, n_roll_cells, .inl f_roll_cells))]) [3, 4] (by decide) rfl
              have hFc := va_free (wc := [(A_roll, .inr (2, [.int 8, .int 4000, .ref A_roll_cells, .int roll_size])), (A_roll_cells, .inl (c 1, n_roll_cells, .inl f_roll_cells))]) hD hS hA [3, 4] rfl
              have kzz_15 : (0 : Int32).toInt = 0 := by decide
              refine va_csi (va_runVN (As := [.int L4, .int 0]) (rest := []) ⟨hx, hb, hml, hown, hts⟩ (k_X2_get_roll l D c ts s.heap.size A_roll_cells A_roll n_roll_cells f_roll_cells roll_size i_roll_size hi_roll_size L4 L4.toInt rfl 0 0 (by decide) (by omega) (by omega) (by omega)) ⟨va_cnB 2 hts gX6_as_X2_get_n139 rfl rfl rfl (show va_Nw (.methodLinkNest RX6 139 yX2_get RX6) _ from hAm.2.1.1 (RX6, 139, yX2_get, RX6) (mem_i 13 rfl)) (hts (.initialized RX2) (mem_i 5 rfl)) hdX2_get ⟨(show 1 + 1 ≤ 2 by decide), (show 8 + (3 + 11) + 22 ≤ 44 by decide)⟩, (hts (.instanceMethod yX2_get) (mem_i 10 rfl)), (hts (.selects RX2 yX2_get yX2_get) (mem_i 11 rfl))⟩ ⟨Pre0.blind, va_recv hK hPc (ci := 2) (q0 := 0) rfl rfl, Pre0.at hPc hDc hAm hSt hS hFc⟩ rfl rfl hl.1 rfl (lv_room (Nat.le_of_ble_eq_true rfl)) dX6_as_74 ⟨(show 0 + 0 ≤ 0 by decide), (show 0 + 0 ≤ 0 by decide)⟩) (fun r_17 hw_16 => ?_)
              clear hw_16
              have rg_r_17 := i32r r_17
              refine lv_iload_n hx hb dX6_as_77 rfl (lv_at hl 2 rfl) ?_
              refine iicmp_gt (a := r_17.toInt) (b := i_a2) (tgt := 132) hx hb rfl hi_a2 dX6_as_78 (by decide) (fun k_18 => ?_) (fun k_18 => ?_)
              · skip
                refine lv_iload_n hx hb dX6_as_132 rfl (lv_at hl 3 rfl) ?_
                exact W.iret (v := L3) hx hb hr (fun t ht hW => ⟨_, rfl, trivial, ht⟩) (fun _ h => by cases h) dX6_as_133
              · skip
                refine lv_aload_n hx hb dX6_as_81 rfl (lv_at hl 0 rfl) ?_
                refine va_get (D := D) (ci := 6) (v := .ref A_roll) (C := RX6) (T := TX6) (N := 18) hx hb hts (fun _ h => List.mem_cons_of_mem _ (List.mem_append_left _ (List.mem_append_right _ h))) hown hK hP 0 rfl rfl 12 (by decide) (hts (.fieldLink RX6 68 "CrownTable" "roll" "LCrownTable$Rows;") (mem_i 3 rfl)) (fun _ h9 => h9) rfl dX6_as_82 ?_
                refine lv_iload hx hb dX6_as_85 (lv_at hl 4 rfl) ?_
                refine lv_iconst (v := 2) hx hb dX6_as_87 (by decide) ?_
                have hPc := hP.sub (ws' := [(A_roll, .inr (2, [.int 8, .int 4000, .ref A_roll_cells, .int roll_size])), (A_roll_cells, .inl (c 1, n_roll_cells, .inl f_roll_cells))]) [3, 4] rfl
                have hDc := hD.sub (ws' := [(A_roll, .inr (2, [.int 8, .int 4000, .ref A_roll_cells, .int roll_size])), (A_roll_cells, .inl (c 1, n_roll_cells, .inl f_roll_cells))]) [3, 4] (by decide) rfl
                have hFc := va_free (wc := [(A_roll, .inr (2, [.int 8, .int 4000, .ref A_roll_cells, .int roll_size])), (A_roll_cells, .inl (c 1, n_roll_cells, .inl f_roll_cells))]) hD hS hA [3, 4] rfl
                have kzz_19 : (2 : Int32).toInt = 2 := by decide
                refine va_csi (va_runVN (As := [.int L4, .int 2]) (rest := []) ⟨hx, hb, hml, hown, hts⟩ (k_X2_get_roll l D c ts s.heap.size A_roll_cells A_roll n_roll_cells f_roll_cells roll_size i_roll_size hi_roll_size L4 L4.toInt rfl 2 2 (by decide) (by omega) (by omega) (by omega)) ⟨va_cnB 2 hts gX6_as_X2_get_n139 rfl rfl rfl (show va_Nw (.methodLinkNest RX6 139 yX2_get RX6) _ from hAm.2.1.1 (RX6, 139, yX2_get, RX6) (mem_i 13 rfl)) (hts (.initialized RX2) (mem_i 5 rfl)) hdX2_get ⟨(show 1 + 1 ≤ 2 by decide), (show 8 + (3 + 11) + 22 ≤ 44 by decide)⟩, (hts (.instanceMethod yX2_get) (mem_i 10 rfl)), (hts (.selects RX2 yX2_get yX2_get) (mem_i 11 rfl))⟩ ⟨Pre0.blind, va_recv hK hPc (ci := 2) (q0 := 0) rfl rfl, Pre0.at hPc hDc hAm hSt hS hFc⟩ rfl rfl hl.1 rfl (lv_room (Nat.le_of_ble_eq_true rfl)) dX6_as_88 ⟨(show 0 + 0 ≤ 0 by decide), (show 0 + 0 ≤ 0 by decide)⟩) (fun r_21 hw_20 => ?_)
                clear hw_20
                have rg_r_21 := i32r r_21
                refine lv_iload_n hx hb dX6_as_91 rfl (lv_at hl 1 rfl) ?_
                refine iicmp_ne (a := r_21.toInt) (b := i_a1) (tgt := 126) hx hb rfl hi_a1 dX6_as_92 (by decide) (fun k_22 => ?_) (fun k_22 => ?_)
                · skip
                  obtain ⟨x_23, ex_23⟩ : ∃ y : Int32, y = L4 + 1 := ⟨_, rfl⟩
                  have tx_23 : x_23.toInt = L4.toInt + 1 := by rw [ex_23]; exact add_ti (a := L4.toInt) (b := 1) rfl (by decide) (by omega) (by omega)
                  refine lv_iinc (v := x_23) (lv' := [(4, .int x_23), (0, .ref A_self), (1, .int a1), (2, .int a2), (3, .int L3)]) hx hb dX6_as_126 hl (k := 4) rfl (by rw [ex_23]; rfl) (by decide) rfl (fun ls hl => ?_)
                  refine lv_goto (tgt := 55) hx hb dX6_as_129 (by decide) ?_
                  have hl := lv_sub hl [1, 2, 3, 4, 0] rfl
                  exact (ih55 ((4000 - x_23.toInt).toNat) (by omega) L3 x_23 (by omega) (by omega) (by omega) rfl _ hl)
                · skip
                  have lp_125 : ∀ (K0 : Int32) (ls : Array Slot), lv_has ls 5 [(0, .ref A_self), (1, .int a1), (2, .int a2), (3, .int L3), (4, .int L4)] → W p l e (headSpec wsX6_as ({ frames := 2, cells := 0, slots := 0, locals := 44 })).room s m (([.ref A_self, .int a1, .int a2] : List Value).toArray) below meth cd s.heap [] 0 0 (MQ below (vp_Si (fun r : Int32 => True)) ([.ref A_self, .int a1, .int a2] : List Value).toArray s 0 0 (fun _ => False)) (F0 m 125 ls [.int K0]) := by
                    intro K0 ls hl
                    have rg_K0 := i32r K0
                    refine lv_istore_n (lv' := [(3, .int K0), (0, .ref A_self), (1, .int a1), (2, .int a2), (4, .int L4)]) hx hb dX6_as_125 rfl hl (by decide) rfl (fun ls hl => ?_)
                    obtain ⟨x_24, ex_24⟩ : ∃ y : Int32, y = L4 + 1 := ⟨_, rfl⟩
                    have tx_24 : x_24.toInt = L4.toInt + 1 := by rw [ex_24]; exact add_ti (a := L4.toInt) (b := 1) rfl (by decide) (by omega) (by omega)
                    refine lv_iinc (v := x_24) (lv' := [(4, .int x_24), (3, .int K0), (0, .ref A_self), (1, .int a1), (2, .int a2)]) hx hb dX6_as_126 hl (k := 4) rfl (by rw [ex_24]; rfl) (by decide) rfl (fun ls hl => ?_)
                    refine lv_goto (tgt := 55) hx hb dX6_as_129 (by decide) ?_
                    have hl := lv_sub hl [2, 3, 4, 1, 0] rfl
                    exact (ih55 ((4000 - x_24.toInt).toNat) (by omega) K0 x_24 (by omega) (by omega) (by omega) rfl _ hl)
                  refine lv_aload_n hx hb dX6_as_95 rfl (lv_at hl 0 rfl) ?_
                  refine va_get (D := D) (ci := 6) (v := .ref A_roll) (C := RX6) (T := TX6) (N := 18) hx hb hts (fun _ h => List.mem_cons_of_mem _ (List.mem_append_left _ (List.mem_append_right _ h))) hown hK hP 0 rfl rfl 12 (by decide) (hts (.fieldLink RX6 68 "CrownTable" "roll" "LCrownTable$Rows;") (mem_i 3 rfl)) (fun _ h9 => h9) rfl dX6_as_96 ?_
                  refine lv_iload hx hb dX6_as_99 (lv_at hl 4 rfl) ?_
                  refine lv_iconst (v := 3) hx hb dX6_as_101 (by decide) ?_
                  have hPc := hP.sub (ws' := [(A_roll, .inr (2, [.int 8, .int 4000, .ref A_roll_cells, .int roll_size])), (A_roll_cells, .inl (c 1, n_roll_cells, .inl f_roll_cells))]) [3, 4] rfl
                  have hDc := hD.sub (ws' := [(A_roll, .inr (2, [.int 8, .int 4000, .ref A_roll_cells, .int roll_size])), (A_roll_cells, .inl (c 1, n_roll_cells, .inl f_roll_cells))]) [3, 4] (by decide) rfl
                  have hFc := va_free (wc := [(A_roll, .inr (2, [.int 8, .int 4000, .ref A_roll_cells, .int roll_size])), (A_roll_cells, .inl (c 1, n_roll_cells, .inl f_roll_cells))]) hD hS hA [3, 4] rfl
                  have kzz_25 : (3 : Int32).toInt = 3 := by decide
                  refine va_csi (va_runVN (As := [.int L4, .int 3]) (rest := []) ⟨hx, hb, hml, hown, hts⟩ (k_X2_get_roll l D c ts s.heap.size A_roll_cells A_roll n_roll_cells f_roll_cells roll_size i_roll_size hi_roll_size L4 L4.toInt rfl 3 3 (by decide) (by omega) (by omega) (by omega)) ⟨va_cnB 2 hts gX6_as_X2_get_n139 rfl rfl rfl (show va_Nw (.methodLinkNest RX6 139 yX2_get RX6) _ from hAm.2.1.1 (RX6, 139, yX2_get, RX6) (mem_i 13 rfl)) (hts (.initialized RX2) (mem_i 5 rfl)) hdX2_get ⟨(show 1 + 1 ≤ 2 by decide), (show 8 + (3 + 11) + 22 ≤ 44 by decide)⟩, (hts (.instanceMethod yX2_get) (mem_i 10 rfl)), (hts (.selects RX2 yX2_get yX2_get) (mem_i 11 rfl))⟩ ⟨Pre0.blind, va_recv hK hPc (ci := 2) (q0 := 0) rfl rfl, Pre0.at hPc hDc hAm hSt hS hFc⟩ rfl rfl hl.1 rfl (lv_room (Nat.le_of_ble_eq_true rfl)) dX6_as_102 ⟨(show 0 + 0 ≤ 0 by decide), (show 0 + 0 ≤ 0 by decide)⟩) (fun r_27 hw_26 => ?_)
                  clear hw_26
                  have rg_r_27 := i32r r_27
                  refine lv_iconst (v := 3) hx hb dX6_as_105 (by decide) ?_
                  refine iicmp_ne (a := r_27.toInt) (b := 3) (tgt := 113) hx hb rfl (by decide) dX6_as_106 (by decide) (fun k_28 => ?_) (fun k_28 => ?_)
                  · skip
                    refine lv_iload_n hx hb dX6_as_113 rfl (lv_at hl 3 rfl) ?_
                    refine lv_aload_n hx hb dX6_as_114 rfl (lv_at hl 0 rfl) ?_
                    refine va_get (D := D) (ci := 6) (v := .ref A_roll) (C := RX6) (T := TX6) (N := 18) hx hb hts (fun _ h => List.mem_cons_of_mem _ (List.mem_append_left _ (List.mem_append_right _ h))) hown hK hP 0 rfl rfl 12 (by decide) (hts (.fieldLink RX6 68 "CrownTable" "roll" "LCrownTable$Rows;") (mem_i 3 rfl)) (fun _ h9 => h9) rfl dX6_as_115 ?_
                    refine lv_iload hx hb dX6_as_118 (lv_at hl 4 rfl) ?_
                    refine lv_iconst (v := 4) hx hb dX6_as_120 (by decide) ?_
                    have hPc := hP.sub (ws' := [(A_roll, .inr (2, [.int 8, .int 4000, .ref A_roll_cells, .int roll_size])), (A_roll_cells, .inl (c 1, n_roll_cells, .inl f_roll_cells))]) [3, 4] rfl
                    have hDc := hD.sub (ws' := [(A_roll, .inr (2, [.int 8, .int 4000, .ref A_roll_cells, .int roll_size])), (A_roll_cells, .inl (c 1, n_roll_cells, .inl f_roll_cells))]) [3, 4] (by decide) rfl
                    have hFc := va_free (wc := [(A_roll, .inr (2, [.int 8, .int 4000, .ref A_roll_cells, .int roll_size])), (A_roll_cells, .inl (c 1, n_roll_cells, .inl f_roll_cells))]) hD hS hA [3, 4] rfl
                    have kzz_29 : (4 : Int32).toInt = 4 := by decide
                    refine va_csi (va_runVN (As := [.int L4, .int 4]) (rest := [.int L3]) ⟨hx, hb, hml, hown, hts⟩ (k_X2_get_roll l D c ts s.heap.size A_roll_cells A_roll n_roll_cells f_roll_cells roll_size i_roll_size hi_roll_size L4 L4.toInt rfl 4 4 (by decide) (by omega) (by omega) (by omega)) ⟨va_cnB 2 hts gX6_as_X2_get_n139 rfl rfl rfl (show va_Nw (.methodLinkNest RX6 139 yX2_get RX6) _ from hAm.2.1.1 (RX6, 139, yX2_get, RX6) (mem_i 13 rfl)) (hts (.initialized RX2) (mem_i 5 rfl)) hdX2_get ⟨(show 1 + 1 ≤ 2 by decide), (show 8 + (3 + 11) + 22 ≤ 44 by decide)⟩, (hts (.instanceMethod yX2_get) (mem_i 10 rfl)), (hts (.selects RX2 yX2_get yX2_get) (mem_i 11 rfl))⟩ ⟨Pre0.blind, va_recv hK hPc (ci := 2) (q0 := 0) rfl rfl, Pre0.at hPc hDc hAm hSt hS hFc⟩ rfl rfl hl.1 rfl (lv_room (Nat.le_of_ble_eq_true rfl)) dX6_as_121 ⟨(show 0 + 0 ≤ 0 by decide), (show 0 + 0 ≤ 0 by decide)⟩) (fun r_31 hw_30 => ?_)
                    clear hw_30
                    have rg_r_31 := i32r r_31
                    refine lv_isub hx hb dX6_as_124 ?_
                    refine lv_topi (fun x_32 ex_32 => ?_)
                    exact lp_125 x_32 _ hl
                  · skip
                    refine lv_iconst (v := 0) hx hb dX6_as_109 (by decide) ?_
                    refine lv_goto (tgt := 125) hx hb dX6_as_110 (by decide) ?_
                    have kzz_33 : (0 : Int32).toInt = 0 := by decide
                    exact lp_125 0 _ hl
          have kzz_34 : (0 : Int32).toInt = 0 := by decide
          have hl := lv_sub hl [2, 3, 4, 1, 0] rfl
          exact (lp_55 _ r_13 0 (by omega) (by omega) (by omega) rfl _ hl)
        · skip
          refine lv_iconst (v := (-1)) hx hb dX6_as_40 (by decide) ?_
          have kzz_35 : ((-1) : Int32).toInt = (-1) := by decide
          exact W.iret (v := (-1)) hx hb hr (fun t ht hW => ⟨_, rfl, trivial, ht⟩) (fun _ h => by cases h) dX6_as_41
      · skip
        refine lv_bipush (v := (-2)) hx hb dX6_as_24 (by decide) ?_
        have kzz_36 : ((-2) : Int32).toInt = (-2) := by decide
        exact W.iret (v := (-2)) hx hb hr (fun t ht hW => ⟨_, rfl, trivial, ht⟩) (fun _ h => by cases h) dX6_as_26
  · skip
    refine iif_eqT (a := 0) (tgt := 24) hx hb (by decide) dX6_as_9 (by decide) (by decide) ?_
    refine lv_bipush (v := (-2)) hx hb dX6_as_24 (by decide) ?_
    have kzz_37 : ((-2) : Int32).toInt = (-2) := by decide
    exact W.iret (v := (-2)) hx hb hr (fun t ht hW => ⟨_, rfl, trivial, ht⟩) (fun _ h => by cases h) dX6_as_26

set_option maxHeartbeats 4000000 in
set_option maxRecDepth 100000 in
theorem k_X0_notches (l : Launch) (D : va_G) (c : Nat → ClassId) (ts : Nat × Nat) (sz : Nat)  (a1 : Int32) (i_a1 : Int) (hi_a1 : a1.toInt = i_a1) (a2 : Int32) (i_a2 : Int) (hi_a2 : a2.toInt = i_a2) : Met l yX0_notches wsX0_notches ({ frames := 0, cells := 0, slots := 0, locals := 0 }) (va_Pc [.int a1, .int a2] (Pre0 D c ts [] sz)) (vp_Si (fun r : Int32 => True)) 0 0 (fun _ => False) := by
  refine Met.ofW (cc := cX0_notches) (maxL := 2) (ret := (some .int)) (by decide) rfl ?_
  intro p e s m args below meth cd s₁ B hml hv
  obtain ⟨rfl, hsz, hP, hD0, hAm, hSt⟩ := hv
  have hx := B.exec
  have hb := B.bytes
  have hr := B.returns
  have hts := atoms_spec (ws := wsX0_notches) B.pre
  have hown : s.vm.findClass RX0 = some m.cls := findClass_of_methodNamed B.named
  have hlocks := B.notSynchronized
  have hK := hAm.1
  subst hsz
  have hD := hD0.self (sz := s.heap.size)
  generalize hAe : va_A [] s.heap.size = A at hD hSt
  have hA : ∀ q : Nat, s.heap.size ≤ q → A q := fun q h => by rw [← hAe]; exact Or.inr h
  have hS : va_S A s.heap s.heap [] := va_S.rf
  clear hD0 hAe
  have hl := lv_entry ([.int a1, .int a2]) (n := 2) (Nat.le_of_ble_eq_true rfl)
  rw [lg_entry_eq]
  generalize (lg_sl ([.int a1, .int a2]) ++ List.replicate (2 - (lg_sl ([.int a1, .int a2])).length) Slot.unset).toArray = ls at hl ⊢
  have hl : lv_has ls 2 [(0, .int a1), (1, .int a2)] := hl
  have rg_a1 := i32r a1
  have rg_a2 := i32r a2
  refine lv_iload_n hx hb dX0_notches_0 rfl (lv_at hl 1 rfl) ?_
  by_cases k_1 : i_a2 = 0
  · have ek_1 : a2.toInt = 0 := hi_a2.trans k_1
    refine lv_tableIn (tgt := 40) hx hb dX0_notches_1 (by rw [ek_1]; decide) (by rw [ek_1]; decide) (by rw [ek_1]; rfl) (by decide) ?_
    refine lv_iload_n hx hb dX0_notches_40 rfl (lv_at hl 0 rfl) ?_
    refine lv_bipush (v := 12) hx hb dX0_notches_41 (by decide) ?_
    refine lv_irem hx hb dX0_notches_43 (by decide) ?_
    refine lv_topi (fun x_2 ex_2 => ?_)
    exact W.iret (v := x_2) hx hb hr (fun t ht hW => ⟨_, rfl, trivial, ht⟩) (fun _ h => by cases h) dX0_notches_44
  by_cases k_3 : i_a2 = 1
  · have ek_3 : a2.toInt = 1 := hi_a2.trans k_3
    refine lv_tableIn (tgt := 45) hx hb dX0_notches_1 (by rw [ek_3]; decide) (by rw [ek_3]; decide) (by rw [ek_3]; rfl) (by decide) ?_
    refine lv_iload_n hx hb dX0_notches_45 rfl (lv_at hl 0 rfl) ?_
    refine lv_bipush (v := 12) hx hb dX0_notches_46 (by decide) ?_
    refine lv_idiv hx hb dX0_notches_48 (by decide) ?_
    refine lv_topi (fun x_4 ex_4 => ?_)
    refine lv_bipush (v := 20) hx hb dX0_notches_49 (by decide) ?_
    refine lv_irem hx hb dX0_notches_51 (by decide) ?_
    refine lv_topi (fun x_5 ex_5 => ?_)
    exact W.iret (v := x_5) hx hb hr (fun t ht hW => ⟨_, rfl, trivial, ht⟩) (fun _ h => by cases h) dX0_notches_52
  by_cases k_6 : i_a2 = 2
  · have ek_6 : a2.toInt = 2 := hi_a2.trans k_6
    refine lv_tableIn (tgt := 53) hx hb dX0_notches_1 (by rw [ek_6]; decide) (by rw [ek_6]; decide) (by rw [ek_6]; rfl) (by decide) ?_
    refine lv_iload_n hx hb dX0_notches_53 rfl (lv_at hl 0 rfl) ?_
    refine lv_sipush (v := 240) hx hb dX0_notches_54 (by decide) ?_
    refine lv_idiv hx hb dX0_notches_57 (by decide) ?_
    refine lv_topi (fun x_7 ex_7 => ?_)
    refine lv_bipush (v := 20) hx hb dX0_notches_58 (by decide) ?_
    refine lv_irem hx hb dX0_notches_60 (by decide) ?_
    refine lv_topi (fun x_8 ex_8 => ?_)
    exact W.iret (v := x_8) hx hb hr (fun t ht hW => ⟨_, rfl, trivial, ht⟩) (fun _ h => by cases h) dX0_notches_61
  by_cases k_9 : i_a2 = 3
  · have ek_9 : a2.toInt = 3 := hi_a2.trans k_9
    refine lv_tableIn (tgt := 62) hx hb dX0_notches_1 (by rw [ek_9]; decide) (by rw [ek_9]; decide) (by rw [ek_9]; rfl) (by decide) ?_
    refine lv_iload_n hx hb dX0_notches_62 rfl (lv_at hl 0 rfl) ?_
    refine lv_sipush (v := 4800) hx hb dX0_notches_63 (by decide) ?_
    refine lv_idiv hx hb dX0_notches_66 (by decide) ?_
    refine lv_topi (fun x_10 ex_10 => ?_)
    refine lv_iconst (v := 5) hx hb dX0_notches_67 (by decide) ?_
    refine lv_irem hx hb dX0_notches_68 (by decide) ?_
    refine lv_topi (fun x_11 ex_11 => ?_)
    exact W.iret (v := x_11) hx hb hr (fun t ht hW => ⟨_, rfl, trivial, ht⟩) (fun _ h => by cases h) dX0_notches_69
  by_cases k_12 : i_a2 = 4
  · have ek_12 : a2.toInt = 4 := hi_a2.trans k_12
    refine lv_tableIn (tgt := 70) hx hb dX0_notches_1 (by rw [ek_12]; decide) (by rw [ek_12]; decide) (by rw [ek_12]; rfl) (by decide) ?_
    refine lv_iload_n hx hb dX0_notches_70 rfl (lv_at hl 0 rfl) ?_
    refine lv_sipush (v := 24000) hx hb dX0_notches_71 (by decide) ?_
    refine lv_idiv hx hb dX0_notches_74 (by decide) ?_
    refine lv_topi (fun x_13 ex_13 => ?_)
    refine lv_bipush (v := 10) hx hb dX0_notches_75 (by decide) ?_
    refine lv_irem hx hb dX0_notches_77 (by decide) ?_
    refine lv_topi (fun x_14 ex_14 => ?_)
    exact W.iret (v := x_14) hx hb hr (fun t ht hW => ⟨_, rfl, trivial, ht⟩) (fun _ h => by cases h) dX0_notches_78
  by_cases k_15 : i_a2 = 5
  · have ek_15 : a2.toInt = 5 := hi_a2.trans k_15
    refine lv_tableIn (tgt := 79) hx hb dX0_notches_1 (by rw [ek_15]; decide) (by rw [ek_15]; decide) (by rw [ek_15]; rfl) (by decide) ?_
    refine lv_iload_n hx hb dX0_notches_79 rfl (lv_at hl 0 rfl) ?_
    refine lv_ldc (v := 240000) hx hb hown (hts (.constant RX0 15 (240000)) (mem_i 1 rfl)) dX0_notches_80 ?_
    refine lv_idiv hx hb dX0_notches_82 (by decide) ?_
    refine lv_topi (fun x_16 ex_16 => ?_)
    exact W.iret (v := x_16) hx hb hr (fun t ht hW => ⟨_, rfl, trivial, ht⟩) (fun _ h => by cases h) dX0_notches_83
  refine lv_tableOut (tgt := 84) hx hb dX0_notches_1 (by rw [hi_a2]; omega) (by decide) ?_
  refine lv_iconst (v := 0) hx hb dX0_notches_84 (by decide) ?_
  have kzz_17 : (0 : Int32).toInt = 0 := by decide
  exact W.iret (v := 0) hx hb hr (fun t ht hW => ⟨_, rfl, trivial, ht⟩) (fun _ h => by cases h) dX0_notches_85

set_option maxHeartbeats 4000000 in
set_option maxRecDepth 100000 in
theorem k_X6_stick (l : Launch) (D : va_G) (c : Nat → ClassId) (ts : Nat × Nat) (sz : Nat) (A_tape : Nat) (A_reader : Nat) (A_weigher : Nat) (A_texts : Nat) (A_forces : Nat) (A_credits : Nat) (A_held : Nat) (A_cameAt : Nat) (A_farms : Nat) (A_sheriffs : Nat) (A_debts : Nat) (A_roll : Nat) (A_sticks : Nat) (A_table : Nat) (A_self : Nat) (A_sticks_cells : Nat) (n_sticks_cells : Nat) (f_sticks_cells : Nat → Int32) (self_textsRead : Int32) (i_self_textsRead : Int) (hi_self_textsRead : self_textsRead.toInt = i_self_textsRead) (self_now : Int32) (i_self_now : Int) (hi_self_now : self_now.toInt = i_self_now) (sticks_size : Int32) (i_sticks_size : Int) (hi_sticks_size : sticks_size.toInt = i_sticks_size) (a1 : Int32) (i_a1 : Int) (hi_a1 : a1.toInt = i_a1) (a2 : Int32) (i_a2 : Int) (hi_a2 : a2.toInt = i_a2) (self_chest : Int64) (self_brought : Int64) (hv_self_textsRead : 0 ≤ i_self_textsRead ∧ i_self_textsRead ≤ 10) (hv_self_now : 0 ≤ i_self_now ∧ i_self_now ≤ 1000) (hv_sticks_size : 0 ≤ i_sticks_size ∧ i_sticks_size ≤ 2000) (hn_sticks_cells : 16 ≤ n_sticks_cells ∧ n_sticks_cells ≤ 4000) (hm_sticks_cells : 1 * i_sticks_size ≤ (n_sticks_cells : Int)) : Met l yX6_stick wsX6_stick ({ frames := 2, cells := 0, slots := 0, locals := 44 }) (va_Pc [.ref A_self, .int a1, .int a2] (Pre0 D c ts [(A_self, .inr (6, [.ref A_tape, .ref A_reader, .ref A_weigher, .ref A_texts, .int self_textsRead, .ref A_forces, .ref A_credits, .ref A_held, .ref A_cameAt, .ref A_farms, .ref A_sheriffs, .ref A_debts, .ref A_roll, .ref A_sticks, .ref A_table, .int self_now, .long self_chest, .long self_brought])), (A_sticks, .inr (2, [.int 1, .int 2000, .ref A_sticks_cells, .int sticks_size])), (A_sticks_cells, .inl (c 1, n_sticks_cells, .inl f_sticks_cells))] sz)) (vp_Si (fun r : Int32 => True)) 0 0 (fun _ => False) := by
  refine Met.ofW (cc := cX6_stick) (maxL := 4) (ret := (some .int)) (by decide) rfl ?_
  intro p e s m args below meth cd s₁ B hml hv
  obtain ⟨rfl, hsz, hP, hD0, hAm, hSt⟩ := hv
  have hx := B.exec
  have hb := B.bytes
  have hr := B.returns
  have hts := atoms_spec (ws := wsX6_stick) B.pre
  have hown : s.vm.findClass RX6 = some m.cls := findClass_of_methodNamed B.named
  have hlocks := B.notSynchronized
  have hK := hAm.1
  subst hsz
  have hD := hD0.self (sz := s.heap.size)
  generalize hAe : va_A [(A_self, .inr (6, [.ref A_tape, .ref A_reader, .ref A_weigher, .ref A_texts, .int self_textsRead, .ref A_forces, .ref A_credits, .ref A_held, .ref A_cameAt, .ref A_farms, .ref A_sheriffs, .ref A_debts, .ref A_roll, .ref A_sticks, .ref A_table, .int self_now, .long self_chest, .long self_brought])), (A_sticks, .inr (2, [.int 1, .int 2000, .ref A_sticks_cells, .int sticks_size])), (A_sticks_cells, .inl (c 1, n_sticks_cells, .inl f_sticks_cells))] s.heap.size = A at hD hSt
  have hA : ∀ q : Nat, s.heap.size ≤ q → A q := fun q h => by rw [← hAe]; exact Or.inr h
  have hS : va_S A s.heap s.heap [] := va_S.rf
  clear hD0 hAe
  have hl := lv_entry ([.ref A_self, .int a1, .int a2]) (n := 4) (Nat.le_of_ble_eq_true rfl)
  rw [lg_entry_eq]
  generalize (lg_sl ([.ref A_self, .int a1, .int a2]) ++ List.replicate (4 - (lg_sl ([.ref A_self, .int a1, .int a2])).length) Slot.unset).toArray = ls at hl ⊢
  have hl : lv_has ls 4 [(0, .ref A_self), (1, .int a1), (2, .int a2)] := hl
  have rg_a1 := i32r a1
  have rg_a2 := i32r a2
  refine lv_aload_n hx hb dX6_stick_0 rfl (lv_at hl 0 rfl) ?_
  refine va_get (D := D) (ci := 6) (v := .ref A_sticks) (C := RX6) (T := TX6) (N := 18) hx hb hts (fun _ h => List.mem_cons_of_mem _ (List.mem_append_left _ (List.mem_append_right _ h))) hown hK hP 0 rfl rfl 13 (by decide) (hts (.fieldLink RX6 71 "CrownTable" "sticks" "LCrownTable$Rows;") (mem_i 1 rfl)) (fun _ h9 => h9) rfl dX6_stick_1 ?_
  refine lv_iload_n hx hb dX6_stick_4 rfl (lv_at hl 1 rfl) ?_
  refine lv_iconst (v := 0) hx hb dX6_stick_5 (by decide) ?_
  have hPc := hP.sub (ws' := [(A_sticks, .inr (2, [.int 1, .int 2000, .ref A_sticks_cells, .int sticks_size]))]) [1] rfl
  have hDc := hD.sub (ws' := [(A_sticks, .inr (2, [.int 1, .int 2000, .ref A_sticks_cells, .int sticks_size]))]) [1] (by decide) rfl
  have hFc := va_free (wc := [(A_sticks, .inr (2, [.int 1, .int 2000, .ref A_sticks_cells, .int sticks_size]))]) hD hS hA [1] rfl
  have kzz_1 : (0 : Int32).toInt = 0 := by decide
  refine va_csi (va_runVN (As := [.int a1, .int 0]) (rest := []) ⟨hx, hb, hml, hown, hts⟩ (k_X2_has_sticks l D c ts s.heap.size A_sticks_cells A_sticks sticks_size i_sticks_size hi_sticks_size a1 i_a1 hi_a1 0 0 (by decide) (by omega)) ⟨va_cnB 2 hts gX6_stick_X2_has_n202 rfl rfl rfl (show va_Nw (.methodLinkNest RX6 202 yX2_has RX6) _ from hAm.2.1.1 (RX6, 202, yX2_has, RX6) (mem_i 14 rfl)) (hts (.initialized RX2) (mem_i 3 rfl)) hdX2_has ⟨(show 0 + 1 ≤ 2 by decide), (show 8 + (3 + 11) + 0 ≤ 44 by decide)⟩, (hts (.instanceMethod yX2_has) (mem_i 2 rfl)), (hts (.selects RX2 yX2_has yX2_has) (mem_i 4 rfl))⟩ ⟨Pre0.blind, va_recv hK hPc (ci := 2) (q0 := 0) rfl rfl, Pre0.at hPc hDc hAm hSt hS hFc⟩ rfl rfl hl.1 rfl (lv_room (Nat.le_of_ble_eq_true rfl)) dX6_stick_6 ⟨(show 0 + 0 ≤ 0 by decide), (show 0 + 0 ≤ 0 by decide)⟩) (fun r_3 hw_2 => ?_)
  rcases hw_2 with ⟨hw_2, rfl⟩ | ⟨hw_2, rfl⟩
  · skip
    refine iif_eqF (a := 1) (tgt := 23) hx hb (by decide) dX6_stick_9 (by decide) (by decide) ?_
    refine lv_iload_n hx hb dX6_stick_12 rfl (lv_at hl 2 rfl) ?_
    refine lv_iconst (v := (-1)) hx hb dX6_stick_13 (by decide) ?_
    refine iicmp_lt (a := i_a2) (b := (-1)) (tgt := 23) hx hb hi_a2 (by decide) dX6_stick_14 (by decide) (fun k_4 => ?_) (fun k_4 => ?_)
    · skip
      refine lv_iconst (v := (-1)) hx hb dX6_stick_23 (by decide) ?_
      have kzz_5 : ((-1) : Int32).toInt = (-1) := by decide
      exact W.iret (v := (-1)) hx hb hr (fun t ht hW => ⟨_, rfl, trivial, ht⟩) (fun _ h => by cases h) dX6_stick_24
    · skip
      refine lv_iload_n hx hb dX6_stick_17 rfl (lv_at hl 2 rfl) ?_
      refine lv_bipush (v := 6) hx hb dX6_stick_18 (by decide) ?_
      refine iicmp_lt (a := i_a2) (b := 6) (tgt := 25) hx hb hi_a2 (by decide) dX6_stick_20 (by decide) (fun k_6 => ?_) (fun k_6 => ?_)
      · skip
        refine lv_aload_n hx hb dX6_stick_25 rfl (lv_at hl 0 rfl) ?_
        refine va_get (D := D) (ci := 6) (v := .ref A_sticks) (C := RX6) (T := TX6) (N := 18) hx hb hts (fun _ h => List.mem_cons_of_mem _ (List.mem_append_left _ (List.mem_append_right _ h))) hown hK hP 0 rfl rfl 13 (by decide) (hts (.fieldLink RX6 71 "CrownTable" "sticks" "LCrownTable$Rows;") (mem_i 1 rfl)) (fun _ h9 => h9) rfl dX6_stick_26 ?_
        refine lv_iload_n hx hb dX6_stick_29 rfl (lv_at hl 1 rfl) ?_
        refine lv_iconst (v := 0) hx hb dX6_stick_30 (by decide) ?_
        have hPc := hP.sub (ws' := [(A_sticks, .inr (2, [.int 1, .int 2000, .ref A_sticks_cells, .int sticks_size])), (A_sticks_cells, .inl (c 1, n_sticks_cells, .inl f_sticks_cells))]) [1, 2] rfl
        have hDc := hD.sub (ws' := [(A_sticks, .inr (2, [.int 1, .int 2000, .ref A_sticks_cells, .int sticks_size])), (A_sticks_cells, .inl (c 1, n_sticks_cells, .inl f_sticks_cells))]) [1, 2] (by decide) rfl
        have hFc := va_free (wc := [(A_sticks, .inr (2, [.int 1, .int 2000, .ref A_sticks_cells, .int sticks_size])), (A_sticks_cells, .inl (c 1, n_sticks_cells, .inl f_sticks_cells))]) hD hS hA [1, 2] rfl
        have kzz_7 : (0 : Int32).toInt = 0 := by decide
        refine va_csi (va_runVN (As := [.int a1, .int 0]) (rest := []) ⟨hx, hb, hml, hown, hts⟩ (k_X2_get_sticks l D c ts s.heap.size A_sticks_cells A_sticks n_sticks_cells f_sticks_cells sticks_size i_sticks_size hi_sticks_size a1 i_a1 hi_a1 0 0 (by decide) (by omega) (by omega) (by omega)) ⟨va_cnB 2 hts gX6_stick_X2_get_n139 rfl rfl rfl (show va_Nw (.methodLinkNest RX6 139 yX2_get RX6) _ from hAm.2.1.1 (RX6, 139, yX2_get, RX6) (mem_i 13 rfl)) (hts (.initialized RX2) (mem_i 3 rfl)) hdX2_get ⟨(show 1 + 1 ≤ 2 by decide), (show 8 + (3 + 11) + 22 ≤ 44 by decide)⟩, (hts (.instanceMethod yX2_get) (mem_i 8 rfl)), (hts (.selects RX2 yX2_get yX2_get) (mem_i 9 rfl))⟩ ⟨Pre0.blind, va_recv hK hPc (ci := 2) (q0 := 0) rfl rfl, Pre0.at hPc hDc hAm hSt hS hFc⟩ rfl rfl hl.1 rfl (lv_room (Nat.le_of_ble_eq_true rfl)) dX6_stick_31 ⟨(show 0 + 0 ≤ 0 by decide), (show 0 + 0 ≤ 0 by decide)⟩) (fun r_9 hw_8 => ?_)
        clear hw_8
        have rg_r_9 := i32r r_9
        refine lv_istore_n (lv' := [(3, .int r_9), (0, .ref A_self), (1, .int a1), (2, .int a2)]) hx hb dX6_stick_34 rfl hl (by decide) rfl (fun ls hl => ?_)
        refine lv_iload_n hx hb dX6_stick_35 rfl (lv_at hl 3 rfl) ?_
        refine iif_ge (a := i_a2) (tgt := 43) hx hb hi_a2 dX6_stick_36 (by decide) (fun k_10 => ?_) (fun k_10 => ?_)
        · skip
          refine lv_iload_n hx hb dX6_stick_43 rfl (lv_at hl 0 rfl) ?_
          refine lv_iload_n hx hb dX6_stick_44 rfl (lv_at hl 3 rfl) ?_
          have hPc := hP.sub (ws' := []) [] rfl
          have hDc := hD.sub (ws' := []) [] (by decide) rfl
          have hFc := va_free (wc := []) hD hS hA [] rfl
          refine va_csi (va_runSN (As := [.int r_9, .int a2]) (rest := []) ⟨hx, hb, hml, hown, hts⟩ (k_X0_notches l D c ts s.heap.size r_9 r_9.toInt rfl a2 i_a2 hi_a2) ⟨va_cnB 2 hts gX6_stick_X0_notches_n236 rfl rfl rfl (show va_Nw (.methodLinkNest RX6 236 yX0_notches RX6) _ from hAm.2.1.1 (RX6, 236, yX0_notches, RX6) (mem_i 22 rfl)) (hts (.initialized RX0) (mem_i 14 rfl)) hdX0_notches ⟨(show 0 + 1 ≤ 2 by decide), (show 8 + (2 + 11) + 0 ≤ 44 by decide)⟩, (hts (.static yX0_notches) (mem_i 13 rfl)), trivial⟩ ⟨Pre0.blind, Pre0.at hPc hDc hAm hSt hS hFc⟩ rfl rfl hl.1 rfl (lv_room (Nat.le_of_ble_eq_true rfl)) dX6_stick_45 ⟨(show 0 + 0 ≤ 0 by decide), (show 0 + 0 ≤ 0 by decide)⟩) (fun r_12 hw_11 => ?_)
          have rg_r_12 := i32r r_12
          exact W.iret (v := r_12) hx hb hr (fun t ht hW => ⟨_, rfl, trivial, ht⟩) (fun _ h => by cases h) dX6_stick_48
        · skip
          refine lv_iload_n hx hb dX6_stick_39 rfl (lv_at hl 0 rfl) ?_
          refine lv_goto (tgt := 48) hx hb dX6_stick_40 (by decide) ?_
          exact W.iret (v := r_9) hx hb hr (fun t ht hW => ⟨_, rfl, trivial, ht⟩) (fun _ h => by cases h) dX6_stick_48
      · skip
        refine lv_iconst (v := (-1)) hx hb dX6_stick_23 (by decide) ?_
        have kzz_13 : ((-1) : Int32).toInt = (-1) := by decide
        exact W.iret (v := (-1)) hx hb hr (fun t ht hW => ⟨_, rfl, trivial, ht⟩) (fun _ h => by cases h) dX6_stick_24
  · skip
    refine iif_eqT (a := 0) (tgt := 23) hx hb (by decide) dX6_stick_9 (by decide) (by decide) ?_
    refine lv_iconst (v := (-1)) hx hb dX6_stick_23 (by decide) ?_
    have kzz_14 : ((-1) : Int32).toInt = (-1) := by decide
    exact W.iret (v := (-1)) hx hb hr (fun t ht hW => ⟨_, rfl, trivial, ht⟩) (fun _ h => by cases h) dX6_stick_24

set_option maxHeartbeats 4000000 in
set_option maxRecDepth 100000 in
theorem k_X6_fits (l : Launch) (D : va_G) (c : Nat → ClassId) (ts : Nat × Nat) (sz : Nat) (A_tape : Nat) (A_reader : Nat) (A_weigher : Nat) (A_texts : Nat) (A_forces : Nat) (A_credits : Nat) (A_held : Nat) (A_cameAt : Nat) (A_farms : Nat) (A_sheriffs : Nat) (A_debts : Nat) (A_roll : Nat) (A_sticks : Nat) (A_table : Nat) (A_self : Nat) (A_sticks_cells : Nat) (n_sticks_cells : Nat) (f_sticks_cells : Nat → Int32) (self_textsRead : Int32) (i_self_textsRead : Int) (hi_self_textsRead : self_textsRead.toInt = i_self_textsRead) (self_now : Int32) (i_self_now : Int) (hi_self_now : self_now.toInt = i_self_now) (sticks_size : Int32) (i_sticks_size : Int) (hi_sticks_size : sticks_size.toInt = i_sticks_size) (a1 : Int32) (i_a1 : Int) (hi_a1 : a1.toInt = i_a1) (a2 : Int32) (i_a2 : Int) (hi_a2 : a2.toInt = i_a2) (self_chest : Int64) (self_brought : Int64) (hv_self_textsRead : 0 ≤ i_self_textsRead ∧ i_self_textsRead ≤ 10) (hv_self_now : 0 ≤ i_self_now ∧ i_self_now ≤ 1000) (hv_sticks_size : 0 ≤ i_sticks_size ∧ i_sticks_size ≤ 2000) (hn_sticks_cells : 16 ≤ n_sticks_cells ∧ n_sticks_cells ≤ 4000) (hm_sticks_cells : 1 * i_sticks_size ≤ (n_sticks_cells : Int)) : Met l yX6_fits wsX6_fits ({ frames := 2, cells := 0, slots := 0, locals := 44 }) (va_Pc [.ref A_self, .int a1, .int a2] (Pre0 D c ts [(A_self, .inr (6, [.ref A_tape, .ref A_reader, .ref A_weigher, .ref A_texts, .int self_textsRead, .ref A_forces, .ref A_credits, .ref A_held, .ref A_cameAt, .ref A_farms, .ref A_sheriffs, .ref A_debts, .ref A_roll, .ref A_sticks, .ref A_table, .int self_now, .long self_chest, .long self_brought])), (A_sticks, .inr (2, [.int 1, .int 2000, .ref A_sticks_cells, .int sticks_size])), (A_sticks_cells, .inl (c 1, n_sticks_cells, .inl f_sticks_cells))] sz)) (vp_Si (fun r : Int32 => True)) 0 0 (fun _ => False) := by
  refine Met.ofW (cc := cX6_fits) (maxL := 5) (ret := (some .int)) (by decide) rfl ?_
  intro p e s m args below meth cd s₁ B hml hv
  obtain ⟨rfl, hsz, hP, hD0, hAm, hSt⟩ := hv
  have hx := B.exec
  have hb := B.bytes
  have hr := B.returns
  have hts := atoms_spec (ws := wsX6_fits) B.pre
  have hown : s.vm.findClass RX6 = some m.cls := findClass_of_methodNamed B.named
  have hlocks := B.notSynchronized
  have hK := hAm.1
  subst hsz
  have hD := hD0.self (sz := s.heap.size)
  generalize hAe : va_A [(A_self, .inr (6, [.ref A_tape, .ref A_reader, .ref A_weigher, .ref A_texts, .int self_textsRead, .ref A_forces, .ref A_credits, .ref A_held, .ref A_cameAt, .ref A_farms, .ref A_sheriffs, .ref A_debts, .ref A_roll, .ref A_sticks, .ref A_table, .int self_now, .long self_chest, .long self_brought])), (A_sticks, .inr (2, [.int 1, .int 2000, .ref A_sticks_cells, .int sticks_size])), (A_sticks_cells, .inl (c 1, n_sticks_cells, .inl f_sticks_cells))] s.heap.size = A at hD hSt
  have hA : ∀ q : Nat, s.heap.size ≤ q → A q := fun q h => by rw [← hAe]; exact Or.inr h
  have hS : va_S A s.heap s.heap [] := va_S.rf
  clear hD0 hAe
  have hl := lv_entry ([.ref A_self, .int a1, .int a2]) (n := 5) (Nat.le_of_ble_eq_true rfl)
  rw [lg_entry_eq]
  generalize (lg_sl ([.ref A_self, .int a1, .int a2]) ++ List.replicate (5 - (lg_sl ([.ref A_self, .int a1, .int a2])).length) Slot.unset).toArray = ls at hl ⊢
  have hl : lv_has ls 5 [(0, .ref A_self), (1, .int a1), (2, .int a2)] := hl
  have rg_a1 := i32r a1
  have rg_a2 := i32r a2
  refine lv_aload_n hx hb dX6_fits_0 rfl (lv_at hl 0 rfl) ?_
  refine va_get (D := D) (ci := 6) (v := .ref A_sticks) (C := RX6) (T := TX6) (N := 18) hx hb hts (fun _ h => List.mem_cons_of_mem _ (List.mem_append_left _ (List.mem_append_right _ h))) hown hK hP 0 rfl rfl 13 (by decide) (hts (.fieldLink RX6 71 "CrownTable" "sticks" "LCrownTable$Rows;") (mem_i 1 rfl)) (fun _ h9 => h9) rfl dX6_fits_1 ?_
  refine lv_iload_n hx hb dX6_fits_4 rfl (lv_at hl 1 rfl) ?_
  refine lv_iconst (v := 0) hx hb dX6_fits_5 (by decide) ?_
  have hPc := hP.sub (ws' := [(A_sticks, .inr (2, [.int 1, .int 2000, .ref A_sticks_cells, .int sticks_size]))]) [1] rfl
  have hDc := hD.sub (ws' := [(A_sticks, .inr (2, [.int 1, .int 2000, .ref A_sticks_cells, .int sticks_size]))]) [1] (by decide) rfl
  have hFc := va_free (wc := [(A_sticks, .inr (2, [.int 1, .int 2000, .ref A_sticks_cells, .int sticks_size]))]) hD hS hA [1] rfl
  have kzz_1 : (0 : Int32).toInt = 0 := by decide
  refine va_csi (va_runVN (As := [.int a1, .int 0]) (rest := []) ⟨hx, hb, hml, hown, hts⟩ (k_X2_has_sticks l D c ts s.heap.size A_sticks_cells A_sticks sticks_size i_sticks_size hi_sticks_size a1 i_a1 hi_a1 0 0 (by decide) (by omega)) ⟨va_cnB 2 hts gX6_fits_X2_has_n202 rfl rfl rfl (show va_Nw (.methodLinkNest RX6 202 yX2_has RX6) _ from hAm.2.1.1 (RX6, 202, yX2_has, RX6) (mem_i 14 rfl)) (hts (.initialized RX2) (mem_i 4 rfl)) hdX2_has ⟨(show 0 + 1 ≤ 2 by decide), (show 8 + (3 + 11) + 0 ≤ 44 by decide)⟩, (hts (.instanceMethod yX2_has) (mem_i 3 rfl)), (hts (.selects RX2 yX2_has yX2_has) (mem_i 5 rfl))⟩ ⟨Pre0.blind, va_recv hK hPc (ci := 2) (q0 := 0) rfl rfl, Pre0.at hPc hDc hAm hSt hS hFc⟩ rfl rfl hl.1 rfl (lv_room (Nat.le_of_ble_eq_true rfl)) dX6_fits_6 ⟨(show 0 + 0 ≤ 0 by decide), (show 0 + 0 ≤ 0 by decide)⟩) (fun r_3 hw_2 => ?_)
  rcases hw_2 with ⟨hw_2, rfl⟩ | ⟨hw_2, rfl⟩
  · skip
    refine iif_eqF (a := 1) (tgt := 22) hx hb (by decide) dX6_fits_9 (by decide) (by decide) ?_
    refine lv_iload_n hx hb dX6_fits_12 rfl (lv_at hl 2 rfl) ?_
    refine iif_lt (a := i_a2) (tgt := 22) hx hb hi_a2 dX6_fits_13 (by decide) (fun k_4 => ?_) (fun k_4 => ?_)
    · skip
      refine lv_iconst (v := (-1)) hx hb dX6_fits_22 (by decide) ?_
      have kzz_5 : ((-1) : Int32).toInt = (-1) := by decide
      exact W.iret (v := (-1)) hx hb hr (fun t ht hW => ⟨_, rfl, trivial, ht⟩) (fun _ h => by cases h) dX6_fits_23
    · skip
      refine lv_iload_n hx hb dX6_fits_16 rfl (lv_at hl 2 rfl) ?_
      refine lv_ldc (v := 10000000) hx hb hown (hts (.constant RX6 138 (10000000)) (mem_i 2 rfl)) dX6_fits_17 ?_
      refine iicmp_le (a := i_a2) (b := 10000000) (tgt := 24) hx hb hi_a2 (by decide) dX6_fits_19 (by decide) (fun k_6 => ?_) (fun k_6 => ?_)
      · skip
        refine lv_aload_n hx hb dX6_fits_24 rfl (lv_at hl 0 rfl) ?_
        refine va_get (D := D) (ci := 6) (v := .ref A_sticks) (C := RX6) (T := TX6) (N := 18) hx hb hts (fun _ h => List.mem_cons_of_mem _ (List.mem_append_left _ (List.mem_append_right _ h))) hown hK hP 0 rfl rfl 13 (by decide) (hts (.fieldLink RX6 71 "CrownTable" "sticks" "LCrownTable$Rows;") (mem_i 1 rfl)) (fun _ h9 => h9) rfl dX6_fits_25 ?_
        refine lv_iload_n hx hb dX6_fits_28 rfl (lv_at hl 1 rfl) ?_
        refine lv_iconst (v := 0) hx hb dX6_fits_29 (by decide) ?_
        have hPc := hP.sub (ws' := [(A_sticks, .inr (2, [.int 1, .int 2000, .ref A_sticks_cells, .int sticks_size])), (A_sticks_cells, .inl (c 1, n_sticks_cells, .inl f_sticks_cells))]) [1, 2] rfl
        have hDc := hD.sub (ws' := [(A_sticks, .inr (2, [.int 1, .int 2000, .ref A_sticks_cells, .int sticks_size])), (A_sticks_cells, .inl (c 1, n_sticks_cells, .inl f_sticks_cells))]) [1, 2] (by decide) rfl
        have hFc := va_free (wc := [(A_sticks, .inr (2, [.int 1, .int 2000, .ref A_sticks_cells, .int sticks_size])), (A_sticks_cells, .inl (c 1, n_sticks_cells, .inl f_sticks_cells))]) hD hS hA [1, 2] rfl
        have kzz_7 : (0 : Int32).toInt = 0 := by decide
        refine va_csi (va_runVN (As := [.int a1, .int 0]) (rest := []) ⟨hx, hb, hml, hown, hts⟩ (k_X2_get_sticks l D c ts s.heap.size A_sticks_cells A_sticks n_sticks_cells f_sticks_cells sticks_size i_sticks_size hi_sticks_size a1 i_a1 hi_a1 0 0 (by decide) (by omega) (by omega) (by omega)) ⟨va_cnB 2 hts gX6_fits_X2_get_n139 rfl rfl rfl (show va_Nw (.methodLinkNest RX6 139 yX2_get RX6) _ from hAm.2.1.1 (RX6, 139, yX2_get, RX6) (mem_i 13 rfl)) (hts (.initialized RX2) (mem_i 4 rfl)) hdX2_get ⟨(show 1 + 1 ≤ 2 by decide), (show 8 + (3 + 11) + 22 ≤ 44 by decide)⟩, (hts (.instanceMethod yX2_get) (mem_i 9 rfl)), (hts (.selects RX2 yX2_get yX2_get) (mem_i 10 rfl))⟩ ⟨Pre0.blind, va_recv hK hPc (ci := 2) (q0 := 0) rfl rfl, Pre0.at hPc hDc hAm hSt hS hFc⟩ rfl rfl hl.1 rfl (lv_room (Nat.le_of_ble_eq_true rfl)) dX6_fits_30 ⟨(show 0 + 0 ≤ 0 by decide), (show 0 + 0 ≤ 0 by decide)⟩) (fun r_9 hw_8 => ?_)
        clear hw_8
        have rg_r_9 := i32r r_9
        refine lv_istore_n (lv' := [(3, .int r_9), (0, .ref A_self), (1, .int a1), (2, .int a2)]) hx hb dX6_fits_33 rfl hl (by decide) rfl (fun ls hl => ?_)
        refine lv_iconst (v := 0) hx hb dX6_fits_34 (by decide) ?_
        refine lv_istore (lv' := [(4, .int 0), (3, .int r_9), (0, .ref A_self), (1, .int a1), (2, .int a2)]) hx hb dX6_fits_35 hl (by decide) rfl (fun ls hl => ?_)
        have lp_37 : ∀ (N : Nat) (L4 : Int32) (hf37_0 : 0 ≤ L4.toInt) (hf37_1 : L4.toInt ≤ 6) (hN37 : (6 - L4.toInt).toNat = N) (ls : Array Slot), lv_has ls 5 [(3, .int r_9), (0, .ref A_self), (1, .int a1), (2, .int a2), (4, .int L4)] → W p l e (headSpec wsX6_fits ({ frames := 2, cells := 0, slots := 0, locals := 44 })).room s m (([.ref A_self, .int a1, .int a2] : List Value).toArray) below meth cd s.heap [] 0 0 (MQ below (vp_Si (fun r : Int32 => True)) ([.ref A_self, .int a1, .int a2] : List Value).toArray s 0 0 (fun _ => False)) (F0 m 37 ls []) := by
          refine st_ind (fun N ih37 => ?_)
          intro L4 hf37_0 hf37_1 hN37 ls hl
          refine lv_iload hx hb dX6_fits_37 (lv_at hl 4 rfl) ?_
          refine lv_bipush (v := 6) hx hb dX6_fits_39 (by decide) ?_
          refine iicmp_ge (a := L4.toInt) (b := 6) (tgt := 68) hx hb rfl (by decide) dX6_fits_41 (by decide) (fun k_10 => ?_) (fun k_10 => ?_)
          · skip
            refine lv_bipush (v := 6) hx hb dX6_fits_68 (by decide) ?_
            have kzz_11 : (6 : Int32).toInt = 6 := by decide
            exact W.iret (v := 6) hx hb hr (fun t ht hW => ⟨_, rfl, trivial, ht⟩) (fun _ h => by cases h) dX6_fits_70
          · skip
            refine lv_iload_n hx hb dX6_fits_44 rfl (lv_at hl 0 rfl) ?_
            refine lv_iload hx hb dX6_fits_45 (lv_at hl 4 rfl) ?_
            have hPc := hP.sub (ws' := []) [] rfl
            have hDc := hD.sub (ws' := []) [] (by decide) rfl
            have hFc := va_free (wc := []) hD hS hA [] rfl
            refine va_csi (va_runSN (As := [.int r_9, .int L4]) (rest := []) ⟨hx, hb, hml, hown, hts⟩ (k_X0_notches l D c ts s.heap.size r_9 r_9.toInt rfl L4 L4.toInt rfl) ⟨va_cnB 2 hts gX6_fits_X0_notches_n236 rfl rfl rfl (show va_Nw (.methodLinkNest RX6 236 yX0_notches RX6) _ from hAm.2.1.1 (RX6, 236, yX0_notches, RX6) (mem_i 22 rfl)) (hts (.initialized RX0) (mem_i 15 rfl)) hdX0_notches ⟨(show 0 + 1 ≤ 2 by decide), (show 8 + (2 + 11) + 0 ≤ 44 by decide)⟩, (hts (.static yX0_notches) (mem_i 14 rfl)), trivial⟩ ⟨Pre0.blind, Pre0.at hPc hDc hAm hSt hS hFc⟩ rfl rfl hl.1 rfl (lv_room (Nat.le_of_ble_eq_true rfl)) dX6_fits_47 ⟨(show 0 + 0 ≤ 0 by decide), (show 0 + 0 ≤ 0 by decide)⟩) (fun r_13 hw_12 => ?_)
            have rg_r_13 := i32r r_13
            refine lv_iload_n hx hb dX6_fits_50 rfl (lv_at hl 3 rfl) ?_
            refine lv_iload hx hb dX6_fits_51 (lv_at hl 4 rfl) ?_
            have hPc := hP.sub (ws' := []) [] rfl
            have hDc := hD.sub (ws' := []) [] (by decide) rfl
            have hFc := va_free (wc := []) hD hS hA [] rfl
            refine va_csi (va_runSN (As := [.int a2, .int L4]) (rest := [.int r_13]) ⟨hx, hb, hml, hown, hts⟩ (k_X0_notches l D c ts s.heap.size a2 i_a2 hi_a2 L4 L4.toInt rfl) ⟨va_cnB 2 hts gX6_fits_X0_notches_n236 rfl rfl rfl (show va_Nw (.methodLinkNest RX6 236 yX0_notches RX6) _ from hAm.2.1.1 (RX6, 236, yX0_notches, RX6) (mem_i 22 rfl)) (hts (.initialized RX0) (mem_i 15 rfl)) hdX0_notches ⟨(show 0 + 1 ≤ 2 by decide), (show 8 + (2 + 11) + 0 ≤ 44 by decide)⟩, (hts (.static yX0_notches) (mem_i 14 rfl)), trivial⟩ ⟨Pre0.blind, Pre0.at hPc hDc hAm hSt hS hFc⟩ rfl rfl hl.1 rfl (lv_room (Nat.le_of_ble_eq_true rfl)) dX6_fits_53 ⟨(show 0 + 0 ≤ 0 by decide), (show 0 + 0 ≤ 0 by decide)⟩) (fun r_15 hw_14 => ?_)
            have rg_r_15 := i32r r_15
            refine iicmp_eq (a := r_13.toInt) (b := r_15.toInt) (tgt := 62) hx hb rfl rfl dX6_fits_56 (by decide) (fun k_16 => ?_) (fun k_16 => ?_)
            · skip
              obtain ⟨x_17, ex_17⟩ : ∃ y : Int32, y = L4 + 1 := ⟨_, rfl⟩
              have tx_17 : x_17.toInt = L4.toInt + 1 := by rw [ex_17]; exact add_ti (a := L4.toInt) (b := 1) rfl (by decide) (by omega) (by omega)
              refine lv_iinc (v := x_17) (lv' := [(4, .int x_17), (3, .int r_9), (0, .ref A_self), (1, .int a1), (2, .int a2)]) hx hb dX6_fits_62 hl (k := 4) rfl (by rw [ex_17]; rfl) (by decide) rfl (fun ls hl => ?_)
              refine lv_goto (tgt := 37) hx hb dX6_fits_65 (by decide) ?_
              have hl := lv_sub hl [1, 2, 3, 4, 0] rfl
              exact (ih37 ((6 - x_17.toInt).toNat) (by omega) x_17 (by omega) (by omega) rfl _ hl)
            · skip
              refine lv_iload hx hb dX6_fits_59 (lv_at hl 4 rfl) ?_
              exact W.iret (v := L4) hx hb hr (fun t ht hW => ⟨_, rfl, trivial, ht⟩) (fun _ h => by cases h) dX6_fits_61
        have kzz_18 : (0 : Int32).toInt = 0 := by decide
        have hl := lv_sub hl [1, 2, 3, 4, 0] rfl
        exact (lp_37 _ 0 (by omega) (by omega) rfl _ hl)
      · skip
        refine lv_iconst (v := (-1)) hx hb dX6_fits_22 (by decide) ?_
        have kzz_19 : ((-1) : Int32).toInt = (-1) := by decide
        exact W.iret (v := (-1)) hx hb hr (fun t ht hW => ⟨_, rfl, trivial, ht⟩) (fun _ h => by cases h) dX6_fits_23
  · skip
    refine iif_eqT (a := 0) (tgt := 22) hx hb (by decide) dX6_fits_9 (by decide) (by decide) ?_
    refine lv_iconst (v := (-1)) hx hb dX6_fits_22 (by decide) ?_
    have kzz_20 : ((-1) : Int32).toInt = (-1) := by decide
    exact W.iret (v := (-1)) hx hb hr (fun t ht hW => ⟨_, rfl, trivial, ht⟩) (fun _ h => by cases h) dX6_fits_23
