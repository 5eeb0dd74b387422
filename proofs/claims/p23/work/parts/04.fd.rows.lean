set_option maxHeartbeats 4000000 in
set_option maxRecDepth 100000 in
theorem k_X6_isSum (l : Launch) (D : va_G) (c : Nat → ClassId) (ts : Nat × Nat) (sz : Nat)  (a1 : Int32) (i_a1 : Int) (hi_a1 : a1.toInt = i_a1) : Met l yX6_isSum wsX6_isSum ({ frames := 0, cells := 0, slots := 0, locals := 0 }) (va_Pc [.int a1] (Pre0 D c ts [] sz)) (vp_Si (fun r : Int32 => (((1 ≤ i_a1 ∧ i_a1 ≤ 1000000) ∧ r = 1) ∨ ((¬ (1 ≤ i_a1 ∧ i_a1 ≤ 1000000)) ∧ r = 0)))) 0 0 (fun _ => False) := by
  refine Met.ofW (cc := cX6_isSum) (maxL := 1) (ret := (some .boolean)) (by decide) rfl ?_
  intro p e s m args below meth cd s₁ B hml hv
  obtain ⟨rfl, hsz, hP, hD0, hAm, hSt⟩ := hv
  have hx := B.exec
  have hb := B.bytes
  have hr := B.returns
  have hts := atoms_spec (ws := wsX6_isSum) B.pre
  have hown : s.vm.findClass RX6 = some m.cls := findClass_of_methodNamed B.named
  have hlocks := B.notSynchronized
  have hK := hAm.1
  subst hsz
  have hD := hD0.self (sz := s.heap.size)
  generalize hAe : va_A [] s.heap.size = A at hD hSt
  have hA : ∀ q : Nat, s.heap.size ≤ q → A q := fun q h => by rw [← hAe]; exact Or.inr h
  have hS : va_S A s.heap s.heap [] := va_S.rf
  clear hD0 hAe
  have hl := lv_entry ([.int a1]) (n := 1) (Nat.le_of_ble_eq_true rfl)
  rw [lg_entry_eq]
  generalize (lg_sl ([.int a1]) ++ List.replicate (1 - (lg_sl ([.int a1])).length) Slot.unset).toArray = ls at hl ⊢
  have hl : lv_has ls 1 [(0, .int a1)] := hl
  have rg_a1 := i32r a1
  refine lv_iload_n hx hb dX6_isSum_0 rfl (lv_at hl 0 rfl) ?_
  refine lv_iconst (v := 1) hx hb dX6_isSum_1 (by decide) ?_
  refine iicmp_lt (a := i_a1) (b := 1) (tgt := 15) hx hb hi_a1 (by decide) dX6_isSum_2 (by decide) (fun k_1 => ?_) (fun k_1 => ?_)
  · skip
    refine lv_iconst (v := 0) hx hb dX6_isSum_15 (by decide) ?_
    have kzz_2 : (0 : Int32).toInt = 0 := by decide
    exact W.zret (v := 0) hx hb hr (by decide) (fun t ht hW => ⟨_, rfl, Or.inr (⟨by omega, rfl⟩), ht⟩) (fun _ h => by cases h) dX6_isSum_16
  · skip
    refine lv_iload_n hx hb dX6_isSum_5 rfl (lv_at hl 0 rfl) ?_
    refine lv_ldc (v := 1000000) hx hb hown (hts (.constant RX6 183 (1000000)) (mem_i 1 rfl)) dX6_isSum_6 ?_
    refine iicmp_gt (a := i_a1) (b := 1000000) (tgt := 15) hx hb hi_a1 (by decide) dX6_isSum_8 (by decide) (fun k_3 => ?_) (fun k_3 => ?_)
    · skip
      refine lv_iconst (v := 0) hx hb dX6_isSum_15 (by decide) ?_
      have kzz_4 : (0 : Int32).toInt = 0 := by decide
      exact W.zret (v := 0) hx hb hr (by decide) (fun t ht hW => ⟨_, rfl, Or.inr (⟨by omega, rfl⟩), ht⟩) (fun _ h => by cases h) dX6_isSum_16
    · skip
      refine lv_iconst (v := 1) hx hb dX6_isSum_11 (by decide) ?_
      refine lv_goto (tgt := 16) hx hb dX6_isSum_12 (by decide) ?_
      have kzz_5 : (1 : Int32).toInt = 1 := by decide
      exact W.zret (v := 1) hx hb hr (by decide) (fun t ht hW => ⟨_, rfl, Or.inl ⟨by omega, rfl⟩, ht⟩) (fun _ h => by cases h) dX6_isSum_16

set_option maxHeartbeats 4000000 in
set_option maxRecDepth 100000 in
theorem k_X6_lay (l : Launch) (D : va_G) (c : Nat → ClassId) (ts : Nat × Nat) (sz : Nat) (A_tape : Nat) (A_reader : Nat) (A_weigher : Nat) (A_texts : Nat) (A_forces : Nat) (A_credits : Nat) (A_held : Nat) (A_cameAt : Nat) (A_farms : Nat) (A_sheriffs : Nat) (A_debts : Nat) (A_roll : Nat) (A_sticks : Nat) (A_table : Nat) (A_self : Nat) (A_table_counters : Nat) (f_table_counters : Nat → Int32) (self_textsRead : Int32) (i_self_textsRead : Int) (hi_self_textsRead : self_textsRead.toInt = i_self_textsRead) (self_now : Int32) (i_self_now : Int) (hi_self_now : self_now.toInt = i_self_now) (a1 : Int32) (i_a1 : Int) (hi_a1 : a1.toInt = i_a1) (self_chest : Int64) (self_brought : Int64) (hv_self_textsRead : 0 ≤ i_self_textsRead ∧ i_self_textsRead ≤ 10) (hv_self_now : 0 ≤ i_self_now ∧ i_self_now ≤ 1000) (hq0 : 0 ≤ (f_table_counters 0).toInt ∧ (f_table_counters 0).toInt ≤ 11) (hq1 : 0 ≤ (f_table_counters 1).toInt ∧ (f_table_counters 1).toInt ≤ 19) (hq2 : 0 ≤ (f_table_counters 2).toInt ∧ (f_table_counters 2).toInt ≤ 19) (hq3 : 0 ≤ (f_table_counters 3).toInt ∧ (f_table_counters 3).toInt ≤ 4) (hq4 : 0 ≤ (f_table_counters 4).toInt ∧ (f_table_counters 4).toInt ≤ 9) (hq5 : 0 ≤ (f_table_counters 5).toInt ∧ (f_table_counters 5).toInt ≤ 900000) : Met l yX6_lay wsX6_lay ({ frames := 2, cells := 0, slots := 0, locals := 44 }) (va_Pc [.ref A_self, .int a1] (Pre0 D c ts [(A_self, .inr (6, [.ref A_tape, .ref A_reader, .ref A_weigher, .ref A_texts, .int self_textsRead, .ref A_forces, .ref A_credits, .ref A_held, .ref A_cameAt, .ref A_farms, .ref A_sheriffs, .ref A_debts, .ref A_roll, .ref A_sticks, .ref A_table, .int self_now, .long self_chest, .long self_brought])), (A_table, .inr (0, [.ref A_table_counters])), (A_table_counters, .inl (c 1, 6, .inl f_table_counters))] sz)) (va_Qi (fun (r : Int32) (u : (Nat → Int32) × Unit) => ((r.toInt = -1 ∧ ¬ (1 ≤ i_a1 ∧ i_a1 ≤ 1000000) ∧ (u.1 0).toInt = (f_table_counters 0).toInt ∧ (u.1 1).toInt = (f_table_counters 1).toInt ∧ (u.1 2).toInt = (f_table_counters 2).toInt ∧ (u.1 3).toInt = (f_table_counters 3).toInt ∧ (u.1 4).toInt = (f_table_counters 4).toInt ∧ (u.1 5).toInt = (f_table_counters 5).toInt) ∨ ((1 ≤ i_a1 ∧ i_a1 ≤ 1000000) ∧ LayI (f_table_counters 0).toInt (f_table_counters 1).toInt (f_table_counters 2).toInt (f_table_counters 3).toInt (f_table_counters 4).toInt (f_table_counters 5).toInt (u.1 0).toInt (u.1 1).toInt (u.1 2).toInt (u.1 3).toInt (u.1 4).toInt (u.1 5).toInt i_a1 r.toInt ∧ (0 ≤ (u.1 0).toInt ∧ (u.1 0).toInt ≤ 11) ∧ (0 ≤ (u.1 1).toInt ∧ (u.1 1).toInt ≤ 19) ∧ (0 ≤ (u.1 2).toInt ∧ (u.1 2).toInt ≤ 19) ∧ (0 ≤ (u.1 3).toInt ∧ (u.1 3).toInt ≤ 4) ∧ (0 ≤ (u.1 4).toInt ∧ (u.1 4).toInt ≤ 9)))) (fun u t => va_P D vwCl [(A_self, .inr (6, [.ref A_tape, .ref A_reader, .ref A_weigher, .ref A_texts, .int self_textsRead, .ref A_forces, .ref A_credits, .ref A_held, .ref A_cameAt, .ref A_farms, .ref A_sheriffs, .ref A_debts, .ref A_roll, .ref A_sticks, .ref A_table, .int self_now, .long self_chest, .long self_brought])), (A_table, .inr (0, [.ref A_table_counters])), (A_table_counters, .inl (c 1, 6, .inl u.1))] t.heap ∧ va_D (va_A [(A_self, .inr (6, [.ref A_tape, .ref A_reader, .ref A_weigher, .ref A_texts, .int self_textsRead, .ref A_forces, .ref A_credits, .ref A_held, .ref A_cameAt, .ref A_farms, .ref A_sheriffs, .ref A_debts, .ref A_roll, .ref A_sticks, .ref A_table, .int self_now, .long self_chest, .long self_brought])), (A_table, .inr (0, [.ref A_table_counters])), (A_table_counters, .inl (c 1, 6, .inl f_table_counters))] sz) [(A_self, .inr (6, [.ref A_tape, .ref A_reader, .ref A_weigher, .ref A_texts, .int self_textsRead, .ref A_forces, .ref A_credits, .ref A_held, .ref A_cameAt, .ref A_farms, .ref A_sheriffs, .ref A_debts, .ref A_roll, .ref A_sticks, .ref A_table, .int self_now, .long self_chest, .long self_brought])), (A_table, .inr (0, [.ref A_table_counters])), (A_table_counters, .inl (c 1, 6, .inl u.1))]) (va_A [(A_self, .inr (6, [.ref A_tape, .ref A_reader, .ref A_weigher, .ref A_texts, .int self_textsRead, .ref A_forces, .ref A_credits, .ref A_held, .ref A_cameAt, .ref A_farms, .ref A_sheriffs, .ref A_debts, .ref A_roll, .ref A_sticks, .ref A_table, .int self_now, .long self_chest, .long self_brought])), (A_table, .inr (0, [.ref A_table_counters])), (A_table_counters, .inl (c 1, 6, .inl f_table_counters))] sz)) 0 0 (va_A [(A_self, .inr (6, [.ref A_tape, .ref A_reader, .ref A_weigher, .ref A_texts, .int self_textsRead, .ref A_forces, .ref A_credits, .ref A_held, .ref A_cameAt, .ref A_farms, .ref A_sheriffs, .ref A_debts, .ref A_roll, .ref A_sticks, .ref A_table, .int self_now, .long self_chest, .long self_brought])), (A_table, .inr (0, [.ref A_table_counters])), (A_table_counters, .inl (c 1, 6, .inl f_table_counters))] sz) := by
  refine Met.ofW (cc := cX6_lay) (maxL := 2) (ret := (some .int)) (by decide) rfl ?_
  intro p e s m args below meth cd s₁ B hml hv
  obtain ⟨rfl, hsz, hP, hD0, hAm, hSt⟩ := hv
  have hx := B.exec
  have hb := B.bytes
  have hr := B.returns
  have hts := atoms_spec (ws := wsX6_lay) B.pre
  have hown : s.vm.findClass RX6 = some m.cls := findClass_of_methodNamed B.named
  have hlocks := B.notSynchronized
  have hK := hAm.1
  subst hsz
  have hD := hD0.self (sz := s.heap.size)
  generalize hAe : va_A [(A_self, .inr (6, [.ref A_tape, .ref A_reader, .ref A_weigher, .ref A_texts, .int self_textsRead, .ref A_forces, .ref A_credits, .ref A_held, .ref A_cameAt, .ref A_farms, .ref A_sheriffs, .ref A_debts, .ref A_roll, .ref A_sticks, .ref A_table, .int self_now, .long self_chest, .long self_brought])), (A_table, .inr (0, [.ref A_table_counters])), (A_table_counters, .inl (c 1, 6, .inl f_table_counters))] s.heap.size = A at hD hSt ⊢
  have hA : ∀ q : Nat, s.heap.size ≤ q → A q := fun q h => by rw [← hAe]; exact Or.inr h
  have hS : va_S A s.heap s.heap [] := va_S.rf
  clear hD0 hAe
  have hl := lv_entry ([.ref A_self, .int a1]) (n := 2) (Nat.le_of_ble_eq_true rfl)
  rw [lg_entry_eq]
  generalize (lg_sl ([.ref A_self, .int a1]) ++ List.replicate (2 - (lg_sl ([.ref A_self, .int a1])).length) Slot.unset).toArray = ls at hl ⊢
  have hl : lv_has ls 2 [(0, .ref A_self), (1, .int a1)] := hl
  have rg_a1 := i32r a1
  refine lv_iload_n hx hb dX6_lay_0 rfl (lv_at hl 1 rfl) ?_
  have hPc := hP.sub (ws' := []) [] rfl
  have hDc := hD.sub (ws' := []) [] (by decide) rfl
  have hFc := va_free (wc := []) hD hS hA [] rfl
  refine va_csi (va_runS (As := [.int a1]) (rest := []) ⟨hx, hb, hml, hown, hts⟩ (k_X6_isSum l D c ts s.heap.size a1 i_a1 hi_a1) (cwS 1 hts gX6_lay_X6_isSum rfl rfl rfl ⟨rfl, hdX6_isSum⟩ ⟨(show 0 + 1 ≤ 2 by decide), (show 8 + (1 + 11) + 0 ≤ 44 by decide)⟩) ⟨Pre0.blind, Pre0.at hPc hDc hAm hSt hS hFc⟩ rfl rfl hl.1 rfl (lv_room (Nat.le_of_ble_eq_true rfl)) dX6_lay_1 ⟨(show 0 + 0 ≤ 0 by decide), (show 0 + 0 ≤ 0 by decide)⟩) (fun r_2 hw_1 => ?_)
  rcases hw_1 with ⟨hw_1, rfl⟩ | ⟨hw_1, rfl⟩
  · skip
    refine iif_eqF (a := 1) (tgt := 18) hx hb (by decide) dX6_lay_4 (by decide) (by decide) ?_
    refine lv_aload_n hx hb dX6_lay_7 rfl (lv_at hl 0 rfl) ?_
    refine va_get (D := D) (ci := 6) (v := .ref A_table) (C := RX6) (T := TX6) (N := 18) hx hb hts (fun _ h => List.mem_cons_of_mem _ (List.mem_append_left _ (List.mem_append_right _ h))) hown hK hP 0 rfl rfl 14 (by decide) (hts (.fieldLink RX6 77 "CrownTable" "table" "LCrownTable$Cloth;") (mem_i 1 rfl)) (fun _ h9 => h9) rfl dX6_lay_8 ?_
    refine lv_iload_n hx hb dX6_lay_11 rfl (lv_at hl 1 rfl) ?_
    have hPc := hP.sub (ws' := [(A_table, .inr (0, [.ref A_table_counters])), (A_table_counters, .inl (c 1, 6, .inl f_table_counters))]) [1, 2] rfl
    have hDc := hD.sub (ws' := [(A_table, .inr (0, [.ref A_table_counters])), (A_table_counters, .inl (c 1, 6, .inl f_table_counters))]) [1, 2] (by decide) rfl
    have hFc := va_free (wc := [(A_table, .inr (0, [.ref A_table_counters])), (A_table_counters, .inl (c 1, 6, .inl f_table_counters))]) hD hS hA [1, 2] rfl
    refine va_calli (va_runVN (As := [.int a1]) (rest := []) ⟨hx, hb, hml, hown, hts⟩ (k_X0_layDown l D c ts s.heap.size A_table_counters A_table f_table_counters a1 i_a1 hi_a1 (by omega) (by omega) (by omega) (by omega) (by omega) (by omega) (by omega)) ⟨va_cnB 1 hts gX6_lay_X0_layDown_n239 rfl rfl rfl (show va_Nw (.methodLinkNest RX6 239 yX0_layDown RX6) _ from hAm.2.1.1 (RX6, 239, yX0_layDown, RX6) (mem_i 23 rfl)) (hts (.initialized RX0) (mem_i 8 rfl)) hdX0_layDown ⟨(show 1 + 1 ≤ 2 by decide), (show 8 + (4 + 11) + 21 ≤ 44 by decide)⟩, (hts (.instanceMethod yX0_layDown) (mem_i 7 rfl)), (hts (.selects RX0 yX0_layDown yX0_layDown) (mem_i 9 rfl))⟩ ⟨Pre0.blind, va_recv hK hPc (ci := 0) (q0 := 0) rfl rfl, Pre0.at hPc hDc hAm hSt hS hFc⟩ rfl rfl hl.1 rfl (lv_room (Nat.le_of_ble_eq_true rfl)) dX6_lay_12 ⟨(show 0 + 0 ≤ 0 by decide), (show 0 + 0 ≤ 0 by decide)⟩) hS (fun q _ h => hFc q h) hFc (fun r_4 u_5 t1 H locs ht hvm hw_3 hB_9 hz1_9 hk1_9 hS => ?_)
    obtain ⟨f_6, _⟩ := u_5
    have hw_3 : (LayI (f_table_counters 0).toInt (f_table_counters 1).toInt (f_table_counters 2).toInt (f_table_counters 3).toInt (f_table_counters 4).toInt (f_table_counters 5).toInt (f_6 0).toInt (f_6 1).toInt (f_6 2).toInt (f_6 3).toInt (f_6 4).toInt (f_6 5).toInt i_a1 r_4.toInt) ∧ (0 ≤ (f_6 0).toInt ∧ (f_6 0).toInt ≤ 11) ∧ (0 ≤ (f_6 1).toInt ∧ (f_6 1).toInt ≤ 19) ∧ (0 ≤ (f_6 2).toInt ∧ (f_6 2).toInt ≤ 19) ∧ (0 ≤ (f_6 3).toInt ∧ (f_6 3).toInt ≤ 4) ∧ (0 ≤ (f_6 4).toInt ∧ (f_6 4).toInt ≤ 9) := hw_3
    obtain ⟨hw_7, hw_8, hw_9, hw_10, hw_11, hw_12⟩ := hw_3
    obtain ⟨hP1_9, hD1_9⟩ := hB_9
    rw [ht] at hP1_9
    have hP1_9 : va_P D vwCl [(A_table, .inr (0, [.ref A_table_counters])), (A_table_counters, .inl (c 1, 6, .inl f_6))] H := hP1_9
    obtain ⟨hP, hD⟩ := va_join (wr := [(A_self, .inr (6, [.ref A_tape, .ref A_reader, .ref A_weigher, .ref A_texts, .int self_textsRead, .ref A_forces, .ref A_credits, .ref A_held, .ref A_cameAt, .ref A_farms, .ref A_sheriffs, .ref A_debts, .ref A_roll, .ref A_sticks, .ref A_table, .int self_now, .long self_chest, .long self_brought]))]) (w1 := [(A_table, .inr (0, [.ref A_table_counters])), (A_table_counters, .inl (c 1, 6, .inl f_6))]) hP hD [1, 2] [0] rfl rfl (by decide) (by decide) hk1_9 hFc hP1_9 hD1_9
    have hP : va_P D vwCl [(A_self, .inr (6, [.ref A_tape, .ref A_reader, .ref A_weigher, .ref A_texts, .int self_textsRead, .ref A_forces, .ref A_credits, .ref A_held, .ref A_cameAt, .ref A_farms, .ref A_sheriffs, .ref A_debts, .ref A_roll, .ref A_sticks, .ref A_table, .int self_now, .long self_chest, .long self_brought])), (A_table, .inr (0, [.ref A_table_counters])), (A_table_counters, .inl (c 1, 6, .inl f_6))] H := hP
    have hD : va_D A [(A_self, .inr (6, [.ref A_tape, .ref A_reader, .ref A_weigher, .ref A_texts, .int self_textsRead, .ref A_forces, .ref A_credits, .ref A_held, .ref A_cameAt, .ref A_farms, .ref A_sheriffs, .ref A_debts, .ref A_roll, .ref A_sticks, .ref A_table, .int self_now, .long self_chest, .long self_brought])), (A_table, .inr (0, [.ref A_table_counters])), (A_table_counters, .inl (c 1, 6, .inl f_6))] := hD
    refine W.widen (k := 0) (n := 0) (by omega) (by omega) ?_
    have rg_r_4 := i32r r_4
    refine lv_goto (tgt := 19) hx hb dX6_lay_15 (by decide) ?_
    have hP9 := hP.sub (ws' := [(A_self, .inr (6, [.ref A_tape, .ref A_reader, .ref A_weigher, .ref A_texts, .int self_textsRead, .ref A_forces, .ref A_credits, .ref A_held, .ref A_cameAt, .ref A_farms, .ref A_sheriffs, .ref A_debts, .ref A_roll, .ref A_sticks, .ref A_table, .int self_now, .long self_chest, .long self_brought])), (A_table, .inr (0, [.ref A_table_counters])), (A_table_counters, .inl (c 1, 6, .inl f_6))]) [0, 1, 2] rfl
    have hD9 := hD.sub (ws' := [(A_self, .inr (6, [.ref A_tape, .ref A_reader, .ref A_weigher, .ref A_texts, .int self_textsRead, .ref A_forces, .ref A_credits, .ref A_held, .ref A_cameAt, .ref A_farms, .ref A_sheriffs, .ref A_debts, .ref A_roll, .ref A_sticks, .ref A_table, .int self_now, .long self_chest, .long self_brought])), (A_table, .inr (0, [.ref A_table_counters])), (A_table_counters, .inl (c 1, 6, .inl f_6))]) [0, 1, 2] (by decide) rfl
    refine W.widen (k := 0) (n := 0) (by omega) (by omega) ?_
    exact W.iret (v := r_4) hx hb hr (fun t ht hW => ⟨⟨_, (f_6, ()), rfl, (show (r_4.toInt = -1 ∧ ¬ (1 ≤ i_a1 ∧ i_a1 ≤ 1000000) ∧ (f_6 0).toInt = (f_table_counters 0).toInt ∧ (f_6 1).toInt = (f_table_counters 1).toInt ∧ (f_6 2).toInt = (f_table_counters 2).toInt ∧ (f_6 3).toInt = (f_table_counters 3).toInt ∧ (f_6 4).toInt = (f_table_counters 4).toInt ∧ (f_6 5).toInt = (f_table_counters 5).toInt) ∨ ((1 ≤ i_a1 ∧ i_a1 ≤ 1000000) ∧ LayI (f_table_counters 0).toInt (f_table_counters 1).toInt (f_table_counters 2).toInt (f_table_counters 3).toInt (f_table_counters 4).toInt (f_table_counters 5).toInt (f_6 0).toInt (f_6 1).toInt (f_6 2).toInt (f_6 3).toInt (f_6 4).toInt (f_6 5).toInt i_a1 r_4.toInt ∧ (0 ≤ (f_6 0).toInt ∧ (f_6 0).toInt ≤ 11) ∧ (0 ≤ (f_6 1).toInt ∧ (f_6 1).toInt ≤ 19) ∧ (0 ≤ (f_6 2).toInt ∧ (f_6 2).toInt ≤ 19) ∧ (0 ≤ (f_6 3).toInt ∧ (f_6 3).toInt ≤ 4) ∧ (0 ≤ (f_6 4).toInt ∧ (f_6 4).toInt ≤ 9)) from Or.inr ⟨by omega, hw_7, by omega, by omega, by omega, by omega, by omega⟩), ⟨by rw [ht]; exact hP9, hD9⟩⟩, hS.F ht⟩) hS.2.2 dX6_lay_19
  · skip
    refine iif_eqT (a := 0) (tgt := 18) hx hb (by decide) dX6_lay_4 (by decide) (by decide) ?_
    refine lv_iconst (v := (-1)) hx hb dX6_lay_18 (by decide) ?_
    have kzz_13 : ((-1) : Int32).toInt = (-1) := by decide
    have hP9 := hP.sub (ws' := [(A_self, .inr (6, [.ref A_tape, .ref A_reader, .ref A_weigher, .ref A_texts, .int self_textsRead, .ref A_forces, .ref A_credits, .ref A_held, .ref A_cameAt, .ref A_farms, .ref A_sheriffs, .ref A_debts, .ref A_roll, .ref A_sticks, .ref A_table, .int self_now, .long self_chest, .long self_brought])), (A_table, .inr (0, [.ref A_table_counters])), (A_table_counters, .inl (c 1, 6, .inl f_table_counters))]) [0, 1, 2] rfl
    have hD9 := hD.sub (ws' := [(A_self, .inr (6, [.ref A_tape, .ref A_reader, .ref A_weigher, .ref A_texts, .int self_textsRead, .ref A_forces, .ref A_credits, .ref A_held, .ref A_cameAt, .ref A_farms, .ref A_sheriffs, .ref A_debts, .ref A_roll, .ref A_sticks, .ref A_table, .int self_now, .long self_chest, .long self_brought])), (A_table, .inr (0, [.ref A_table_counters])), (A_table_counters, .inl (c 1, 6, .inl f_table_counters))]) [0, 1, 2] (by decide) rfl
    refine W.widen (k := 0) (n := 0) (by omega) (by omega) ?_
    exact W.iret (v := (-1)) hx hb hr (fun t ht hW => ⟨⟨_, (f_table_counters, ()), rfl, (show (((-1) : Int32).toInt = -1 ∧ ¬ (1 ≤ i_a1 ∧ i_a1 ≤ 1000000) ∧ (f_table_counters 0).toInt = (f_table_counters 0).toInt ∧ (f_table_counters 1).toInt = (f_table_counters 1).toInt ∧ (f_table_counters 2).toInt = (f_table_counters 2).toInt ∧ (f_table_counters 3).toInt = (f_table_counters 3).toInt ∧ (f_table_counters 4).toInt = (f_table_counters 4).toInt ∧ (f_table_counters 5).toInt = (f_table_counters 5).toInt) ∨ ((1 ≤ i_a1 ∧ i_a1 ≤ 1000000) ∧ LayI (f_table_counters 0).toInt (f_table_counters 1).toInt (f_table_counters 2).toInt (f_table_counters 3).toInt (f_table_counters 4).toInt (f_table_counters 5).toInt (f_table_counters 0).toInt (f_table_counters 1).toInt (f_table_counters 2).toInt (f_table_counters 3).toInt (f_table_counters 4).toInt (f_table_counters 5).toInt i_a1 ((-1) : Int32).toInt ∧ (0 ≤ (f_table_counters 0).toInt ∧ (f_table_counters 0).toInt ≤ 11) ∧ (0 ≤ (f_table_counters 1).toInt ∧ (f_table_counters 1).toInt ≤ 19) ∧ (0 ≤ (f_table_counters 2).toInt ∧ (f_table_counters 2).toInt ≤ 19) ∧ (0 ≤ (f_table_counters 3).toInt ∧ (f_table_counters 3).toInt ≤ 4) ∧ (0 ≤ (f_table_counters 4).toInt ∧ (f_table_counters 4).toInt ≤ 9)) from Or.inl ⟨by omega, by omega, by omega, by omega, by omega, by omega, by omega, by omega⟩), ⟨by rw [ht]; exact hP9, hD9⟩⟩, hS.F ht⟩) hS.2.2 dX6_lay_19

set_option maxHeartbeats 4000000 in
set_option maxRecDepth 100000 in
theorem k_X6_take (l : Launch) (D : va_G) (c : Nat → ClassId) (ts : Nat × Nat) (sz : Nat) (A_tape : Nat) (A_reader : Nat) (A_weigher : Nat) (A_texts : Nat) (A_forces : Nat) (A_credits : Nat) (A_held : Nat) (A_cameAt : Nat) (A_farms : Nat) (A_sheriffs : Nat) (A_debts : Nat) (A_roll : Nat) (A_sticks : Nat) (A_table : Nat) (A_self : Nat) (A_table_counters : Nat) (f_table_counters : Nat → Int32) (self_textsRead : Int32) (i_self_textsRead : Int) (hi_self_textsRead : self_textsRead.toInt = i_self_textsRead) (self_now : Int32) (i_self_now : Int) (hi_self_now : self_now.toInt = i_self_now) (a1 : Int32) (i_a1 : Int) (hi_a1 : a1.toInt = i_a1) (self_chest : Int64) (self_brought : Int64) (hv_self_textsRead : 0 ≤ i_self_textsRead ∧ i_self_textsRead ≤ 10) (hv_self_now : 0 ≤ i_self_now ∧ i_self_now ≤ 1000) (hq0 : 0 ≤ (f_table_counters 0).toInt ∧ (f_table_counters 0).toInt ≤ 11) (hq1 : 0 ≤ (f_table_counters 1).toInt ∧ (f_table_counters 1).toInt ≤ 19) (hq2 : 0 ≤ (f_table_counters 2).toInt ∧ (f_table_counters 2).toInt ≤ 19) (hq3 : 0 ≤ (f_table_counters 3).toInt ∧ (f_table_counters 3).toInt ≤ 4) (hq4 : 0 ≤ (f_table_counters 4).toInt ∧ (f_table_counters 4).toInt ≤ 9) (hq5 : 0 ≤ (f_table_counters 5).toInt ∧ (f_table_counters 5).toInt ≤ 900000) : Met l yX6_take wsX6_take ({ frames := 2, cells := 0, slots := 0, locals := 47 }) (va_Pc [.ref A_self, .int a1] (Pre0 D c ts [(A_self, .inr (6, [.ref A_tape, .ref A_reader, .ref A_weigher, .ref A_texts, .int self_textsRead, .ref A_forces, .ref A_credits, .ref A_held, .ref A_cameAt, .ref A_farms, .ref A_sheriffs, .ref A_debts, .ref A_roll, .ref A_sticks, .ref A_table, .int self_now, .long self_chest, .long self_brought])), (A_table, .inr (0, [.ref A_table_counters])), (A_table_counters, .inl (c 1, 6, .inl f_table_counters))] sz)) (va_Qi (fun (r : Int32) (u : (Nat → Int32) × Unit) => ((r.toInt = -1 ∧ ¬ (1 ≤ i_a1 ∧ i_a1 ≤ 1000000) ∧ (u.1 0).toInt = (f_table_counters 0).toInt ∧ (u.1 1).toInt = (f_table_counters 1).toInt ∧ (u.1 2).toInt = (f_table_counters 2).toInt ∧ (u.1 3).toInt = (f_table_counters 3).toInt ∧ (u.1 4).toInt = (f_table_counters 4).toInt ∧ (u.1 5).toInt = (f_table_counters 5).toInt) ∨ ((1 ≤ i_a1 ∧ i_a1 ≤ 1000000) ∧ r.toInt = -2 ∧ (f_table_counters 0).toInt + 12 * (f_table_counters 1).toInt + 240 * (f_table_counters 2).toInt + 4800 * (f_table_counters 3).toInt + 24000 * (f_table_counters 4).toInt + 240000 * (f_table_counters 5).toInt < i_a1 ∧ (u.1 0).toInt = (f_table_counters 0).toInt ∧ (u.1 1).toInt = (f_table_counters 1).toInt ∧ (u.1 2).toInt = (f_table_counters 2).toInt ∧ (u.1 3).toInt = (f_table_counters 3).toInt ∧ (u.1 4).toInt = (f_table_counters 4).toInt ∧ (u.1 5).toInt = (f_table_counters 5).toInt) ∨ ((1 ≤ i_a1 ∧ i_a1 ≤ 1000000) ∧ i_a1 ≤ (f_table_counters 0).toInt + 12 * (f_table_counters 1).toInt + 240 * (f_table_counters 2).toInt + 4800 * (f_table_counters 3).toInt + 24000 * (f_table_counters 4).toInt + 240000 * (f_table_counters 5).toInt ∧ TakI (f_table_counters 0).toInt (f_table_counters 1).toInt (f_table_counters 2).toInt (f_table_counters 3).toInt (f_table_counters 4).toInt (f_table_counters 5).toInt (u.1 0).toInt (u.1 1).toInt (u.1 2).toInt (u.1 3).toInt (u.1 4).toInt (u.1 5).toInt i_a1 r.toInt ∧ (0 ≤ (u.1 0).toInt ∧ (u.1 0).toInt ≤ 11) ∧ (0 ≤ (u.1 1).toInt ∧ (u.1 1).toInt ≤ 19) ∧ (0 ≤ (u.1 2).toInt ∧ (u.1 2).toInt ≤ 19) ∧ (0 ≤ (u.1 3).toInt ∧ (u.1 3).toInt ≤ 4) ∧ (0 ≤ (u.1 4).toInt ∧ (u.1 4).toInt ≤ 9)))) (fun u t => va_P D vwCl [(A_self, .inr (6, [.ref A_tape, .ref A_reader, .ref A_weigher, .ref A_texts, .int self_textsRead, .ref A_forces, .ref A_credits, .ref A_held, .ref A_cameAt, .ref A_farms, .ref A_sheriffs, .ref A_debts, .ref A_roll, .ref A_sticks, .ref A_table, .int self_now, .long self_chest, .long self_brought])), (A_table, .inr (0, [.ref A_table_counters])), (A_table_counters, .inl (c 1, 6, .inl u.1))] t.heap ∧ va_D (va_A [(A_self, .inr (6, [.ref A_tape, .ref A_reader, .ref A_weigher, .ref A_texts, .int self_textsRead, .ref A_forces, .ref A_credits, .ref A_held, .ref A_cameAt, .ref A_farms, .ref A_sheriffs, .ref A_debts, .ref A_roll, .ref A_sticks, .ref A_table, .int self_now, .long self_chest, .long self_brought])), (A_table, .inr (0, [.ref A_table_counters])), (A_table_counters, .inl (c 1, 6, .inl f_table_counters))] sz) [(A_self, .inr (6, [.ref A_tape, .ref A_reader, .ref A_weigher, .ref A_texts, .int self_textsRead, .ref A_forces, .ref A_credits, .ref A_held, .ref A_cameAt, .ref A_farms, .ref A_sheriffs, .ref A_debts, .ref A_roll, .ref A_sticks, .ref A_table, .int self_now, .long self_chest, .long self_brought])), (A_table, .inr (0, [.ref A_table_counters])), (A_table_counters, .inl (c 1, 6, .inl u.1))]) (va_A [(A_self, .inr (6, [.ref A_tape, .ref A_reader, .ref A_weigher, .ref A_texts, .int self_textsRead, .ref A_forces, .ref A_credits, .ref A_held, .ref A_cameAt, .ref A_farms, .ref A_sheriffs, .ref A_debts, .ref A_roll, .ref A_sticks, .ref A_table, .int self_now, .long self_chest, .long self_brought])), (A_table, .inr (0, [.ref A_table_counters])), (A_table_counters, .inl (c 1, 6, .inl f_table_counters))] sz)) 0 0 (va_A [(A_self, .inr (6, [.ref A_tape, .ref A_reader, .ref A_weigher, .ref A_texts, .int self_textsRead, .ref A_forces, .ref A_credits, .ref A_held, .ref A_cameAt, .ref A_farms, .ref A_sheriffs, .ref A_debts, .ref A_roll, .ref A_sticks, .ref A_table, .int self_now, .long self_chest, .long self_brought])), (A_table, .inr (0, [.ref A_table_counters])), (A_table_counters, .inl (c 1, 6, .inl f_table_counters))] sz) := by
  refine Met.ofW (cc := cX6_take) (maxL := 2) (ret := (some .int)) (by decide) rfl ?_
  intro p e s m args below meth cd s₁ B hml hv
  obtain ⟨rfl, hsz, hP, hD0, hAm, hSt⟩ := hv
  have hx := B.exec
  have hb := B.bytes
  have hr := B.returns
  have hts := atoms_spec (ws := wsX6_take) B.pre
  have hown : s.vm.findClass RX6 = some m.cls := findClass_of_methodNamed B.named
  have hlocks := B.notSynchronized
  have hK := hAm.1
  subst hsz
  have hD := hD0.self (sz := s.heap.size)
  generalize hAe : va_A [(A_self, .inr (6, [.ref A_tape, .ref A_reader, .ref A_weigher, .ref A_texts, .int self_textsRead, .ref A_forces, .ref A_credits, .ref A_held, .ref A_cameAt, .ref A_farms, .ref A_sheriffs, .ref A_debts, .ref A_roll, .ref A_sticks, .ref A_table, .int self_now, .long self_chest, .long self_brought])), (A_table, .inr (0, [.ref A_table_counters])), (A_table_counters, .inl (c 1, 6, .inl f_table_counters))] s.heap.size = A at hD hSt ⊢
  have hA : ∀ q : Nat, s.heap.size ≤ q → A q := fun q h => by rw [← hAe]; exact Or.inr h
  have hS : va_S A s.heap s.heap [] := va_S.rf
  clear hD0 hAe
  have hl := lv_entry ([.ref A_self, .int a1]) (n := 2) (Nat.le_of_ble_eq_true rfl)
  rw [lg_entry_eq]
  generalize (lg_sl ([.ref A_self, .int a1]) ++ List.replicate (2 - (lg_sl ([.ref A_self, .int a1])).length) Slot.unset).toArray = ls at hl ⊢
  have hl : lv_has ls 2 [(0, .ref A_self), (1, .int a1)] := hl
  have rg_a1 := i32r a1
  refine lv_iload_n hx hb dX6_take_0 rfl (lv_at hl 1 rfl) ?_
  have hPc := hP.sub (ws' := []) [] rfl
  have hDc := hD.sub (ws' := []) [] (by decide) rfl
  have hFc := va_free (wc := []) hD hS hA [] rfl
  refine va_csi (va_runS (As := [.int a1]) (rest := []) ⟨hx, hb, hml, hown, hts⟩ (k_X6_isSum l D c ts s.heap.size a1 i_a1 hi_a1) (cwS 1 hts gX6_take_X6_isSum rfl rfl rfl ⟨rfl, hdX6_isSum⟩ ⟨(show 0 + 1 ≤ 2 by decide), (show 8 + (1 + 11) + 0 ≤ 47 by decide)⟩) ⟨Pre0.blind, Pre0.at hPc hDc hAm hSt hS hFc⟩ rfl rfl hl.1 rfl (lv_room (Nat.le_of_ble_eq_true rfl)) dX6_take_1 ⟨(show 0 + 0 ≤ 0 by decide), (show 0 + 0 ≤ 0 by decide)⟩) (fun r_2 hw_1 => ?_)
  rcases hw_1 with ⟨hw_1, rfl⟩ | ⟨hw_1, rfl⟩
  · skip
    refine iif_neT (a := 1) (tgt := 9) hx hb (by decide) dX6_take_4 (by decide) (by decide) ?_
    refine lv_iload_n hx hb dX6_take_9 rfl (lv_at hl 1 rfl) ?_
    refine lv_i2l hx hb dX6_take_10 rfl ?_
    refine lv_aload_n hx hb dX6_take_11 rfl (lv_at hl 0 rfl) ?_
    refine va_get (D := D) (ci := 6) (v := .ref A_table) (C := RX6) (T := TX6) (N := 18) hx hb hts (fun _ h => List.mem_cons_of_mem _ (List.mem_append_left _ (List.mem_append_right _ h))) hown hK hP 0 rfl rfl 14 (by decide) (hts (.fieldLink RX6 77 "CrownTable" "table" "LCrownTable$Cloth;") (mem_i 1 rfl)) (fun _ h9 => h9) rfl dX6_take_12 ?_
    have hPc := hP.sub (ws' := [(A_table, .inr (0, [.ref A_table_counters])), (A_table_counters, .inl (c 1, 6, .inl f_table_counters))]) [1, 2] rfl
    have hDc := hD.sub (ws' := [(A_table, .inr (0, [.ref A_table_counters])), (A_table_counters, .inl (c 1, 6, .inl f_table_counters))]) [1, 2] (by decide) rfl
    have hFc := va_free (wc := [(A_table, .inr (0, [.ref A_table_counters])), (A_table_counters, .inl (c 1, 6, .inl f_table_counters))]) hD hS hA [1, 2] rfl
    refine va_csl (va_runVN (As := []) (rest := [.long a1.toInt64]) ⟨hx, hb, hml, hown, hts⟩ (k_X0_lies l D c ts s.heap.size A_table_counters A_table f_table_counters (by omega) (by omega) (by omega) (by omega) (by omega) (by omega)) ⟨va_cnB 0 hts gX6_take_X0_lies_n242 rfl rfl rfl (show va_Nw (.methodLinkNest RX6 242 yX0_lies RX6) _ from hAm.2.1.1 (RX6, 242, yX0_lies, RX6) (mem_i 24 rfl)) (hts (.initialized RX0) (mem_i 8 rfl)) hdX0_lies ⟨(show 0 + 1 ≤ 2 by decide), (show 8 + (4 + 11) + 0 ≤ 47 by decide)⟩, (hts (.instanceMethod yX0_lies) (mem_i 7 rfl)), (hts (.selects RX0 yX0_lies yX0_lies) (mem_i 9 rfl))⟩ ⟨Pre0.blind, va_recv hK hPc (ci := 0) (q0 := 0) rfl rfl, Pre0.at hPc hDc hAm hSt hS hFc⟩ rfl rfl hl.1 rfl (lv_room (Nat.le_of_ble_eq_true rfl)) dX6_take_15 ⟨(show 0 + 0 ≤ 0 by decide), (show 0 + 0 ≤ 0 by decide)⟩) (fun r_4 hw_3 => ?_)
    refine W.lcmp hx hb dX6_take_18 ?_
    refine lv_topi (fun x_5 ex_5 => ?_)
    have tx_5 := lcg_fact (n := x_5) ex_5 (show (a1.toInt64 : Int64).toInt = i_a1 from (ti_i2l hi_a1)) (show (r_4 : Int64).toInt = r_4.toInt from rfl)
    refine iif_le (a := x_5.toInt) (tgt := 27) hx hb rfl dX6_take_19 (by decide) (fun k_6 => ?_) (fun k_6 => ?_)
    · skip
      refine lv_aload_n hx hb dX6_take_27 rfl (lv_at hl 0 rfl) ?_
      refine va_get (D := D) (ci := 6) (v := .ref A_table) (C := RX6) (T := TX6) (N := 18) hx hb hts (fun _ h => List.mem_cons_of_mem _ (List.mem_append_left _ (List.mem_append_right _ h))) hown hK hP 0 rfl rfl 14 (by decide) (hts (.fieldLink RX6 77 "CrownTable" "table" "LCrownTable$Cloth;") (mem_i 1 rfl)) (fun _ h9 => h9) rfl dX6_take_28 ?_
      refine lv_iload_n hx hb dX6_take_31 rfl (lv_at hl 1 rfl) ?_
      have hPc := hP.sub (ws' := [(A_table, .inr (0, [.ref A_table_counters])), (A_table_counters, .inl (c 1, 6, .inl f_table_counters))]) [1, 2] rfl
      have hDc := hD.sub (ws' := [(A_table, .inr (0, [.ref A_table_counters])), (A_table_counters, .inl (c 1, 6, .inl f_table_counters))]) [1, 2] (by decide) rfl
      have hFc := va_free (wc := [(A_table, .inr (0, [.ref A_table_counters])), (A_table_counters, .inl (c 1, 6, .inl f_table_counters))]) hD hS hA [1, 2] rfl
      refine va_calli (va_runVN (As := [.int a1]) (rest := []) ⟨hx, hb, hml, hown, hts⟩ (k_X0_takeUp l D c ts s.heap.size A_table_counters A_table f_table_counters a1 i_a1 hi_a1 (by omega) (by omega) (by omega) (by omega) (by omega) (by omega) (by omega) (by omega)) ⟨va_cnB 1 hts gX6_take_X0_takeUp_n246 rfl rfl rfl (show va_Nw (.methodLinkNest RX6 246 yX0_takeUp RX6) _ from hAm.2.1.1 (RX6, 246, yX0_takeUp, RX6) (mem_i 25 rfl)) (hts (.initialized RX0) (mem_i 8 rfl)) hdX0_takeUp ⟨(show 1 + 1 ≤ 2 by decide), (show 8 + (5 + 11) + 23 ≤ 47 by decide)⟩, (hts (.instanceMethod yX0_takeUp) (mem_i 13 rfl)), (hts (.selects RX0 yX0_takeUp yX0_takeUp) (mem_i 14 rfl))⟩ ⟨Pre0.blind, va_recv hK hPc (ci := 0) (q0 := 0) rfl rfl, Pre0.at hPc hDc hAm hSt hS hFc⟩ rfl rfl hl.1 rfl (lv_room (Nat.le_of_ble_eq_true rfl)) dX6_take_32 ⟨(show 0 + 0 ≤ 0 by decide), (show 0 + 0 ≤ 0 by decide)⟩) hS (fun q _ h => hFc q h) hFc (fun r_8 u_9 t1 H locs ht hvm hw_7 hB_9 hz1_9 hk1_9 hS => ?_)
      obtain ⟨f_10, _⟩ := u_9
      have hw_7 : (TakI (f_table_counters 0).toInt (f_table_counters 1).toInt (f_table_counters 2).toInt (f_table_counters 3).toInt (f_table_counters 4).toInt (f_table_counters 5).toInt (f_10 0).toInt (f_10 1).toInt (f_10 2).toInt (f_10 3).toInt (f_10 4).toInt (f_10 5).toInt i_a1 r_8.toInt) ∧ (0 ≤ (f_10 0).toInt ∧ (f_10 0).toInt ≤ 11) ∧ (0 ≤ (f_10 1).toInt ∧ (f_10 1).toInt ≤ 19) ∧ (0 ≤ (f_10 2).toInt ∧ (f_10 2).toInt ≤ 19) ∧ (0 ≤ (f_10 3).toInt ∧ (f_10 3).toInt ≤ 4) ∧ (0 ≤ (f_10 4).toInt ∧ (f_10 4).toInt ≤ 9) := hw_7
      obtain ⟨hw_11, hw_12, hw_13, hw_14, hw_15, hw_16⟩ := hw_7
      obtain ⟨hP1_9, hD1_9⟩ := hB_9
      rw [ht] at hP1_9
      have hP1_9 : va_P D vwCl [(A_table, .inr (0, [.ref A_table_counters])), (A_table_counters, .inl (c 1, 6, .inl f_10))] H := hP1_9
      obtain ⟨hP, hD⟩ := va_join (wr := [(A_self, .inr (6, [.ref A_tape, .ref A_reader, .ref A_weigher, .ref A_texts, .int self_textsRead, .ref A_forces, .ref A_credits, .ref A_held, .ref A_cameAt, .ref A_farms, .ref A_sheriffs, .ref A_debts, .ref A_roll, .ref A_sticks, .ref A_table, .int self_now, .long self_chest, .long self_brought]))]) (w1 := [(A_table, .inr (0, [.ref A_table_counters])), (A_table_counters, .inl (c 1, 6, .inl f_10))]) hP hD [1, 2] [0] rfl rfl (by decide) (by decide) hk1_9 hFc hP1_9 hD1_9
      have hP : va_P D vwCl [(A_self, .inr (6, [.ref A_tape, .ref A_reader, .ref A_weigher, .ref A_texts, .int self_textsRead, .ref A_forces, .ref A_credits, .ref A_held, .ref A_cameAt, .ref A_farms, .ref A_sheriffs, .ref A_debts, .ref A_roll, .ref A_sticks, .ref A_table, .int self_now, .long self_chest, .long self_brought])), (A_table, .inr (0, [.ref A_table_counters])), (A_table_counters, .inl (c 1, 6, .inl f_10))] H := hP
      have hD : va_D A [(A_self, .inr (6, [.ref A_tape, .ref A_reader, .ref A_weigher, .ref A_texts, .int self_textsRead, .ref A_forces, .ref A_credits, .ref A_held, .ref A_cameAt, .ref A_farms, .ref A_sheriffs, .ref A_debts, .ref A_roll, .ref A_sticks, .ref A_table, .int self_now, .long self_chest, .long self_brought])), (A_table, .inr (0, [.ref A_table_counters])), (A_table_counters, .inl (c 1, 6, .inl f_10))] := hD
      refine W.widen (k := 0) (n := 0) (by omega) (by omega) ?_
      have rg_r_8 := i32r r_8
      have hP9 := hP.sub (ws' := [(A_self, .inr (6, [.ref A_tape, .ref A_reader, .ref A_weigher, .ref A_texts, .int self_textsRead, .ref A_forces, .ref A_credits, .ref A_held, .ref A_cameAt, .ref A_farms, .ref A_sheriffs, .ref A_debts, .ref A_roll, .ref A_sticks, .ref A_table, .int self_now, .long self_chest, .long self_brought])), (A_table, .inr (0, [.ref A_table_counters])), (A_table_counters, .inl (c 1, 6, .inl f_10))]) [0, 1, 2] rfl
      have hD9 := hD.sub (ws' := [(A_self, .inr (6, [.ref A_tape, .ref A_reader, .ref A_weigher, .ref A_texts, .int self_textsRead, .ref A_forces, .ref A_credits, .ref A_held, .ref A_cameAt, .ref A_farms, .ref A_sheriffs, .ref A_debts, .ref A_roll, .ref A_sticks, .ref A_table, .int self_now, .long self_chest, .long self_brought])), (A_table, .inr (0, [.ref A_table_counters])), (A_table_counters, .inl (c 1, 6, .inl f_10))]) [0, 1, 2] (by decide) rfl
      refine W.widen (k := 0) (n := 0) (by omega) (by omega) ?_
      exact W.iret (v := r_8) hx hb hr (fun t ht hW => ⟨⟨_, (f_10, ()), rfl, (show (r_8.toInt = -1 ∧ ¬ (1 ≤ i_a1 ∧ i_a1 ≤ 1000000) ∧ (f_10 0).toInt = (f_table_counters 0).toInt ∧ (f_10 1).toInt = (f_table_counters 1).toInt ∧ (f_10 2).toInt = (f_table_counters 2).toInt ∧ (f_10 3).toInt = (f_table_counters 3).toInt ∧ (f_10 4).toInt = (f_table_counters 4).toInt ∧ (f_10 5).toInt = (f_table_counters 5).toInt) ∨ ((1 ≤ i_a1 ∧ i_a1 ≤ 1000000) ∧ r_8.toInt = -2 ∧ (f_table_counters 0).toInt + 12 * (f_table_counters 1).toInt + 240 * (f_table_counters 2).toInt + 4800 * (f_table_counters 3).toInt + 24000 * (f_table_counters 4).toInt + 240000 * (f_table_counters 5).toInt < i_a1 ∧ (f_10 0).toInt = (f_table_counters 0).toInt ∧ (f_10 1).toInt = (f_table_counters 1).toInt ∧ (f_10 2).toInt = (f_table_counters 2).toInt ∧ (f_10 3).toInt = (f_table_counters 3).toInt ∧ (f_10 4).toInt = (f_table_counters 4).toInt ∧ (f_10 5).toInt = (f_table_counters 5).toInt) ∨ ((1 ≤ i_a1 ∧ i_a1 ≤ 1000000) ∧ i_a1 ≤ (f_table_counters 0).toInt + 12 * (f_table_counters 1).toInt + 240 * (f_table_counters 2).toInt + 4800 * (f_table_counters 3).toInt + 24000 * (f_table_counters 4).toInt + 240000 * (f_table_counters 5).toInt ∧ TakI (f_table_counters 0).toInt (f_table_counters 1).toInt (f_table_counters 2).toInt (f_table_counters 3).toInt (f_table_counters 4).toInt (f_table_counters 5).toInt (f_10 0).toInt (f_10 1).toInt (f_10 2).toInt (f_10 3).toInt (f_10 4).toInt (f_10 5).toInt i_a1 r_8.toInt ∧ (0 ≤ (f_10 0).toInt ∧ (f_10 0).toInt ≤ 11) ∧ (0 ≤ (f_10 1).toInt ∧ (f_10 1).toInt ≤ 19) ∧ (0 ≤ (f_10 2).toInt ∧ (f_10 2).toInt ≤ 19) ∧ (0 ≤ (f_10 3).toInt ∧ (f_10 3).toInt ≤ 4) ∧ (0 ≤ (f_10 4).toInt ∧ (f_10 4).toInt ≤ 9)) from Or.inr (Or.inr ⟨by omega, by omega, hw_11, by omega, by omega, by omega, by omega, by omega⟩)), ⟨by rw [ht]; exact hP9, hD9⟩⟩, hS.F ht⟩) hS.2.2 dX6_take_35
    · skip
      refine lv_bipush (v := (-2)) hx hb dX6_take_22 (by decide) ?_
      refine lv_goto (tgt := 35) hx hb dX6_take_24 (by decide) ?_
      have kzz_17 : ((-2) : Int32).toInt = (-2) := by decide
      have hP9 := hP.sub (ws' := [(A_self, .inr (6, [.ref A_tape, .ref A_reader, .ref A_weigher, .ref A_texts, .int self_textsRead, .ref A_forces, .ref A_credits, .ref A_held, .ref A_cameAt, .ref A_farms, .ref A_sheriffs, .ref A_debts, .ref A_roll, .ref A_sticks, .ref A_table, .int self_now, .long self_chest, .long self_brought])), (A_table, .inr (0, [.ref A_table_counters])), (A_table_counters, .inl (c 1, 6, .inl f_table_counters))]) [0, 1, 2] rfl
      have hD9 := hD.sub (ws' := [(A_self, .inr (6, [.ref A_tape, .ref A_reader, .ref A_weigher, .ref A_texts, .int self_textsRead, .ref A_forces, .ref A_credits, .ref A_held, .ref A_cameAt, .ref A_farms, .ref A_sheriffs, .ref A_debts, .ref A_roll, .ref A_sticks, .ref A_table, .int self_now, .long self_chest, .long self_brought])), (A_table, .inr (0, [.ref A_table_counters])), (A_table_counters, .inl (c 1, 6, .inl f_table_counters))]) [0, 1, 2] (by decide) rfl
      refine W.widen (k := 0) (n := 0) (by omega) (by omega) ?_
      exact W.iret (v := (-2)) hx hb hr (fun t ht hW => ⟨⟨_, (f_table_counters, ()), rfl, (show (((-2) : Int32).toInt = -1 ∧ ¬ (1 ≤ i_a1 ∧ i_a1 ≤ 1000000) ∧ (f_table_counters 0).toInt = (f_table_counters 0).toInt ∧ (f_table_counters 1).toInt = (f_table_counters 1).toInt ∧ (f_table_counters 2).toInt = (f_table_counters 2).toInt ∧ (f_table_counters 3).toInt = (f_table_counters 3).toInt ∧ (f_table_counters 4).toInt = (f_table_counters 4).toInt ∧ (f_table_counters 5).toInt = (f_table_counters 5).toInt) ∨ ((1 ≤ i_a1 ∧ i_a1 ≤ 1000000) ∧ ((-2) : Int32).toInt = -2 ∧ (f_table_counters 0).toInt + 12 * (f_table_counters 1).toInt + 240 * (f_table_counters 2).toInt + 4800 * (f_table_counters 3).toInt + 24000 * (f_table_counters 4).toInt + 240000 * (f_table_counters 5).toInt < i_a1 ∧ (f_table_counters 0).toInt = (f_table_counters 0).toInt ∧ (f_table_counters 1).toInt = (f_table_counters 1).toInt ∧ (f_table_counters 2).toInt = (f_table_counters 2).toInt ∧ (f_table_counters 3).toInt = (f_table_counters 3).toInt ∧ (f_table_counters 4).toInt = (f_table_counters 4).toInt ∧ (f_table_counters 5).toInt = (f_table_counters 5).toInt) ∨ ((1 ≤ i_a1 ∧ i_a1 ≤ 1000000) ∧ i_a1 ≤ (f_table_counters 0).toInt + 12 * (f_table_counters 1).toInt + 240 * (f_table_counters 2).toInt + 4800 * (f_table_counters 3).toInt + 24000 * (f_table_counters 4).toInt + 240000 * (f_table_counters 5).toInt ∧ TakI (f_table_counters 0).toInt (f_table_counters 1).toInt (f_table_counters 2).toInt (f_table_counters 3).toInt (f_table_counters 4).toInt (f_table_counters 5).toInt (f_table_counters 0).toInt (f_table_counters 1).toInt (f_table_counters 2).toInt (f_table_counters 3).toInt (f_table_counters 4).toInt (f_table_counters 5).toInt i_a1 ((-2) : Int32).toInt ∧ (0 ≤ (f_table_counters 0).toInt ∧ (f_table_counters 0).toInt ≤ 11) ∧ (0 ≤ (f_table_counters 1).toInt ∧ (f_table_counters 1).toInt ≤ 19) ∧ (0 ≤ (f_table_counters 2).toInt ∧ (f_table_counters 2).toInt ≤ 19) ∧ (0 ≤ (f_table_counters 3).toInt ∧ (f_table_counters 3).toInt ≤ 4) ∧ (0 ≤ (f_table_counters 4).toInt ∧ (f_table_counters 4).toInt ≤ 9)) from Or.inr (Or.inl ⟨by omega, by omega, by omega, by omega, by omega, by omega, by omega, by omega, by omega⟩)), ⟨by rw [ht]; exact hP9, hD9⟩⟩, hS.F ht⟩) hS.2.2 dX6_take_35
  · skip
    refine iif_neF (a := 0) (tgt := 9) hx hb (by decide) dX6_take_4 (by decide) (by decide) ?_
    refine lv_iconst (v := (-1)) hx hb dX6_take_7 (by decide) ?_
    have kzz_18 : ((-1) : Int32).toInt = (-1) := by decide
    have hP9 := hP.sub (ws' := [(A_self, .inr (6, [.ref A_tape, .ref A_reader, .ref A_weigher, .ref A_texts, .int self_textsRead, .ref A_forces, .ref A_credits, .ref A_held, .ref A_cameAt, .ref A_farms, .ref A_sheriffs, .ref A_debts, .ref A_roll, .ref A_sticks, .ref A_table, .int self_now, .long self_chest, .long self_brought])), (A_table, .inr (0, [.ref A_table_counters])), (A_table_counters, .inl (c 1, 6, .inl f_table_counters))]) [0, 1, 2] rfl
    have hD9 := hD.sub (ws' := [(A_self, .inr (6, [.ref A_tape, .ref A_reader, .ref A_weigher, .ref A_texts, .int self_textsRead, .ref A_forces, .ref A_credits, .ref A_held, .ref A_cameAt, .ref A_farms, .ref A_sheriffs, .ref A_debts, .ref A_roll, .ref A_sticks, .ref A_table, .int self_now, .long self_chest, .long self_brought])), (A_table, .inr (0, [.ref A_table_counters])), (A_table_counters, .inl (c 1, 6, .inl f_table_counters))]) [0, 1, 2] (by decide) rfl
    refine W.widen (k := 0) (n := 0) (by omega) (by omega) ?_
    exact W.iret (v := (-1)) hx hb hr (fun t ht hW => ⟨⟨_, (f_table_counters, ()), rfl, (show (((-1) : Int32).toInt = -1 ∧ ¬ (1 ≤ i_a1 ∧ i_a1 ≤ 1000000) ∧ (f_table_counters 0).toInt = (f_table_counters 0).toInt ∧ (f_table_counters 1).toInt = (f_table_counters 1).toInt ∧ (f_table_counters 2).toInt = (f_table_counters 2).toInt ∧ (f_table_counters 3).toInt = (f_table_counters 3).toInt ∧ (f_table_counters 4).toInt = (f_table_counters 4).toInt ∧ (f_table_counters 5).toInt = (f_table_counters 5).toInt) ∨ ((1 ≤ i_a1 ∧ i_a1 ≤ 1000000) ∧ ((-1) : Int32).toInt = -2 ∧ (f_table_counters 0).toInt + 12 * (f_table_counters 1).toInt + 240 * (f_table_counters 2).toInt + 4800 * (f_table_counters 3).toInt + 24000 * (f_table_counters 4).toInt + 240000 * (f_table_counters 5).toInt < i_a1 ∧ (f_table_counters 0).toInt = (f_table_counters 0).toInt ∧ (f_table_counters 1).toInt = (f_table_counters 1).toInt ∧ (f_table_counters 2).toInt = (f_table_counters 2).toInt ∧ (f_table_counters 3).toInt = (f_table_counters 3).toInt ∧ (f_table_counters 4).toInt = (f_table_counters 4).toInt ∧ (f_table_counters 5).toInt = (f_table_counters 5).toInt) ∨ ((1 ≤ i_a1 ∧ i_a1 ≤ 1000000) ∧ i_a1 ≤ (f_table_counters 0).toInt + 12 * (f_table_counters 1).toInt + 240 * (f_table_counters 2).toInt + 4800 * (f_table_counters 3).toInt + 24000 * (f_table_counters 4).toInt + 240000 * (f_table_counters 5).toInt ∧ TakI (f_table_counters 0).toInt (f_table_counters 1).toInt (f_table_counters 2).toInt (f_table_counters 3).toInt (f_table_counters 4).toInt (f_table_counters 5).toInt (f_table_counters 0).toInt (f_table_counters 1).toInt (f_table_counters 2).toInt (f_table_counters 3).toInt (f_table_counters 4).toInt (f_table_counters 5).toInt i_a1 ((-1) : Int32).toInt ∧ (0 ≤ (f_table_counters 0).toInt ∧ (f_table_counters 0).toInt ≤ 11) ∧ (0 ≤ (f_table_counters 1).toInt ∧ (f_table_counters 1).toInt ≤ 19) ∧ (0 ≤ (f_table_counters 2).toInt ∧ (f_table_counters 2).toInt ≤ 19) ∧ (0 ≤ (f_table_counters 3).toInt ∧ (f_table_counters 3).toInt ≤ 4) ∧ (0 ≤ (f_table_counters 4).toInt ∧ (f_table_counters 4).toInt ≤ 9)) from Or.inl ⟨by omega, by omega, by omega, by omega, by omega, by omega, by omega, by omega⟩), ⟨by rw [ht]; exact hP9, hD9⟩⟩, hS.F ht⟩) hS.2.2 dX6_take_8

set_option maxHeartbeats 4000000 in
set_option maxRecDepth 100000 in
theorem k_X6_cloth (l : Launch) (D : va_G) (c : Nat → ClassId) (ts : Nat × Nat) (sz : Nat) (A_tape : Nat) (A_reader : Nat) (A_weigher : Nat) (A_texts : Nat) (A_forces : Nat) (A_credits : Nat) (A_held : Nat) (A_cameAt : Nat) (A_farms : Nat) (A_sheriffs : Nat) (A_debts : Nat) (A_roll : Nat) (A_sticks : Nat) (A_table : Nat) (A_self : Nat) (A_table_counters : Nat) (f_table_counters : Nat → Int32) (self_textsRead : Int32) (i_self_textsRead : Int) (hi_self_textsRead : self_textsRead.toInt = i_self_textsRead) (self_now : Int32) (i_self_now : Int) (hi_self_now : self_now.toInt = i_self_now) (a1 : Int32) (i_a1 : Int) (hi_a1 : a1.toInt = i_a1) (self_chest : Int64) (self_brought : Int64) (hv_self_textsRead : 0 ≤ i_self_textsRead ∧ i_self_textsRead ≤ 10) (hv_self_now : 0 ≤ i_self_now ∧ i_self_now ≤ 1000) : Met l yX6_cloth wsX6_cloth ({ frames := 0, cells := 0, slots := 0, locals := 0 }) (va_Pc [.ref A_self, .int a1] (Pre0 D c ts [(A_self, .inr (6, [.ref A_tape, .ref A_reader, .ref A_weigher, .ref A_texts, .int self_textsRead, .ref A_forces, .ref A_credits, .ref A_held, .ref A_cameAt, .ref A_farms, .ref A_sheriffs, .ref A_debts, .ref A_roll, .ref A_sticks, .ref A_table, .int self_now, .long self_chest, .long self_brought])), (A_table, .inr (0, [.ref A_table_counters])), (A_table_counters, .inl (c 1, 6, .inl f_table_counters))] sz)) (vp_Si (fun r : Int32 => ((¬ (0 ≤ i_a1 ∧ i_a1 ≤ 5) ∧ r.toInt = -1) ∨ ((0 ≤ i_a1 ∧ i_a1 ≤ 5) ∧ r.toInt = (f_table_counters i_a1.toNat).toInt)))) 0 0 (fun _ => False) := by
  refine Met.ofW (cc := cX6_cloth) (maxL := 2) (ret := (some .int)) (by decide) rfl ?_
  intro p e s m args below meth cd s₁ B hml hv
  obtain ⟨rfl, hsz, hP, hD0, hAm, hSt⟩ := hv
  have hx := B.exec
  have hb := B.bytes
  have hr := B.returns
  have hts := atoms_spec (ws := wsX6_cloth) B.pre
  have hown : s.vm.findClass RX6 = some m.cls := findClass_of_methodNamed B.named
  have hlocks := B.notSynchronized
  have hK := hAm.1
  subst hsz
  have hD := hD0.self (sz := s.heap.size)
  generalize hAe : va_A [(A_self, .inr (6, [.ref A_tape, .ref A_reader, .ref A_weigher, .ref A_texts, .int self_textsRead, .ref A_forces, .ref A_credits, .ref A_held, .ref A_cameAt, .ref A_farms, .ref A_sheriffs, .ref A_debts, .ref A_roll, .ref A_sticks, .ref A_table, .int self_now, .long self_chest, .long self_brought])), (A_table, .inr (0, [.ref A_table_counters])), (A_table_counters, .inl (c 1, 6, .inl f_table_counters))] s.heap.size = A at hD hSt
  have hA : ∀ q : Nat, s.heap.size ≤ q → A q := fun q h => by rw [← hAe]; exact Or.inr h
  have hS : va_S A s.heap s.heap [] := va_S.rf
  clear hD0 hAe
  have hl := lv_entry ([.ref A_self, .int a1]) (n := 2) (Nat.le_of_ble_eq_true rfl)
  rw [lg_entry_eq]
  generalize (lg_sl ([.ref A_self, .int a1]) ++ List.replicate (2 - (lg_sl ([.ref A_self, .int a1])).length) Slot.unset).toArray = ls at hl ⊢
  have hl : lv_has ls 2 [(0, .ref A_self), (1, .int a1)] := hl
  have rg_a1 := i32r a1
  refine lv_iload_n hx hb dX6_cloth_0 rfl (lv_at hl 1 rfl) ?_
  refine iif_lt (a := i_a1) (tgt := 10) hx hb hi_a1 dX6_cloth_1 (by decide) (fun k_1 => ?_) (fun k_1 => ?_)
  · skip
    refine lv_iconst (v := (-1)) hx hb dX6_cloth_10 (by decide) ?_
    refine lv_goto (tgt := 23) hx hb dX6_cloth_11 (by decide) ?_
    have kzz_2 : ((-1) : Int32).toInt = (-1) := by decide
    exact W.iret (v := (-1)) hx hb hr (fun t ht hW => ⟨_, rfl, (by omega), ht⟩) (fun _ h => by cases h) dX6_cloth_23
  · skip
    refine lv_iload_n hx hb dX6_cloth_4 rfl (lv_at hl 1 rfl) ?_
    refine lv_bipush (v := 6) hx hb dX6_cloth_5 (by decide) ?_
    refine iicmp_lt (a := i_a1) (b := 6) (tgt := 14) hx hb hi_a1 (by decide) dX6_cloth_7 (by decide) (fun k_3 => ?_) (fun k_3 => ?_)
    · skip
      refine lv_aload_n hx hb dX6_cloth_14 rfl (lv_at hl 0 rfl) ?_
      refine va_get (D := D) (ci := 6) (v := .ref A_table) (C := RX6) (T := TX6) (N := 18) hx hb hts (fun _ h => List.mem_cons_of_mem _ (List.mem_append_left _ (List.mem_append_right _ h))) hown hK hP 0 rfl rfl 14 (by decide) (hts (.fieldLink RX6 77 "CrownTable" "table" "LCrownTable$Cloth;") (mem_i 1 rfl)) (fun _ h9 => h9) rfl dX6_cloth_15 ?_
      refine va_getN (D := D) (ci := 0) (v := .ref A_table_counters) (own := RX6) (ref := "CrownTable$Cloth") (host := RX6) (index := 249) (C := RX0) (T := TX0) (N := 1) hx hb hts (fun _ h => List.mem_cons_of_mem _ (List.mem_append_right _ h)) hown hK hP 1 rfl rfl 0 (by decide) (show (Cond.fieldLinkNest RX6 249 "CrownTable$Cloth" "counters" "[I" RX6).before _ _ = true from va_Nw.use rfl (hAm.2.1.2 (RX6, 249, "CrownTable$Cloth", "counters", "[I", RX6) (mem_i 4 rfl))) (fun _ h9 => h9) rfl dX6_cloth_18 ?_
      refine lv_iload_n hx hb dX6_cloth_21 rfl (lv_at hl 1 rfl) ?_
      refine va_iald hx hb hK hP 2 1 rfl rfl (vin (a := i_a1) hi_a1 (by omega) (by omega)) dX6_cloth_22 ?_
      refine lv_topi (fun x_4 ex_4 => ?_)
      have lf_5 : (f_table_counters i_a1.toNat).toInt = x_4.toInt := by rw [ex_4, clampN (x := a1) hi_a1]
      exact W.iret (v := x_4) hx hb hr (fun t ht hW => ⟨_, rfl, (by omega), ht⟩) (fun _ h => by cases h) dX6_cloth_23
    · skip
      refine lv_iconst (v := (-1)) hx hb dX6_cloth_10 (by decide) ?_
      refine lv_goto (tgt := 23) hx hb dX6_cloth_11 (by decide) ?_
      have kzz_6 : ((-1) : Int32).toInt = (-1) := by decide
      exact W.iret (v := (-1)) hx hb hr (fun t ht hW => ⟨_, rfl, (by omega), ht⟩) (fun _ h => by cases h) dX6_cloth_23
