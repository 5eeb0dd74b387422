set_option maxHeartbeats 4000000 in
set_option maxRecDepth 100000 in
theorem k_X6_allCredits (l : Launch) (D : va_G) (c : Nat → ClassId) (ts : Nat × Nat) (sz : Nat) (A_tape : Nat) (A_reader : Nat) (A_weigher : Nat) (A_texts : Nat) (A_forces : Nat) (A_credits : Nat) (A_held : Nat) (A_cameAt : Nat) (A_farms : Nat) (A_sheriffs : Nat) (A_debts : Nat) (A_roll : Nat) (A_sticks : Nat) (A_table : Nat) (A_self : Nat) (f_credits : Nat → Int64) (self_textsRead : Int32) (i_self_textsRead : Int) (hi_self_textsRead : self_textsRead.toInt = i_self_textsRead) (self_now : Int32) (i_self_now : Int) (hi_self_now : self_now.toInt = i_self_now) (self_chest : Int64) (self_brought : Int64) (hv_self_textsRead : 0 ≤ i_self_textsRead ∧ i_self_textsRead ≤ 10) (hv_self_now : 0 ≤ i_self_now ∧ i_self_now ≤ 1000) : Met l yX6_allCredits wsX6_allCredits ({ frames := 0, cells := 0, slots := 0, locals := 0 }) (va_Pc [.ref A_self] (Pre0 D c ts [(A_self, .inr (6, [.ref A_tape, .ref A_reader, .ref A_weigher, .ref A_texts, .int self_textsRead, .ref A_forces, .ref A_credits, .ref A_held, .ref A_cameAt, .ref A_farms, .ref A_sheriffs, .ref A_debts, .ref A_roll, .ref A_sticks, .ref A_table, .int self_now, .long self_chest, .long self_brought])), (A_credits, .inl (c 2, 16, .inr (.inl f_credits)))] sz)) (vp_Sl (fun r : Int64 => True)) 0 0 (fun _ => False) := by
  refine Met.ofW (cc := cX6_allCredits) (maxL := 4) (ret := (some .long)) (by decide) rfl ?_
  intro p e s m args below meth cd s₁ B hml hv
  obtain ⟨rfl, hsz, hP, hD0, hAm, hSt⟩ := hv
  have hx := B.exec
  have hb := B.bytes
  have hr := B.returns
  have hts := atoms_spec (ws := wsX6_allCredits) B.pre
  have hown : s.vm.findClass RX6 = some m.cls := findClass_of_methodNamed B.named
  have hlocks := B.notSynchronized
  have hK := hAm.1
  subst hsz
  have hD := hD0.self (sz := s.heap.size)
  generalize hAe : va_A [(A_self, .inr (6, [.ref A_tape, .ref A_reader, .ref A_weigher, .ref A_texts, .int self_textsRead, .ref A_forces, .ref A_credits, .ref A_held, .ref A_cameAt, .ref A_farms, .ref A_sheriffs, .ref A_debts, .ref A_roll, .ref A_sticks, .ref A_table, .int self_now, .long self_chest, .long self_brought])), (A_credits, .inl (c 2, 16, .inr (.inl f_credits)))] s.heap.size = A at hD hSt
  have hA : ∀ q : Nat, s.heap.size ≤ q → A q := fun q h => by rw [← hAe]; exact Or.inr h
  have hS : va_S A s.heap s.heap [] := va_S.rf
  clear hD0 hAe
  have hl := lv_entry ([.ref A_self]) (n := 4) (Nat.le_of_ble_eq_true rfl)
  rw [lg_entry_eq]
  generalize (lg_sl ([.ref A_self]) ++ List.replicate (4 - (lg_sl ([.ref A_self])).length) Slot.unset).toArray = ls at hl ⊢
  have hl : lv_has ls 4 [(0, .ref A_self)] := hl
  refine lv_lconst (v := 0) hx hb dX6_allCredits_0 (by decide) ?_
  refine lv_lstore_n (lv' := [(1, .long 0), (0, .ref A_self)]) hx hb dX6_allCredits_1 rfl hl (by decide) rfl (fun ls hl => ?_)
  refine lv_iconst (v := 0) hx hb dX6_allCredits_2 (by decide) ?_
  refine lv_istore_n (lv' := [(3, .int 0), (1, .long 0), (0, .ref A_self)]) hx hb dX6_allCredits_3 rfl hl (by decide) rfl (fun ls hl => ?_)
  have lp_4 : ∀ (N : Nat) (L1 : Int64) (L3 : Int32) (hf4_0 : 0 ≤ L3.toInt) (hf4_1 : L3.toInt ≤ 16) (hN4 : (16 - L3.toInt).toNat = N) (ls : Array Slot), lv_has ls 4 [(0, .ref A_self), (1, .long L1), (3, .int L3)] → W p l e (headSpec wsX6_allCredits ({ frames := 0, cells := 0, slots := 0, locals := 0 })).room s m (([.ref A_self] : List Value).toArray) below meth cd s.heap [] 0 0 (MQ below (vp_Sl (fun r : Int64 => True)) ([.ref A_self] : List Value).toArray s 0 0 (fun _ => False)) (F0 m 4 ls []) := by
    refine st_ind (fun N ih4 => ?_)
    intro L1 L3 hf4_0 hf4_1 hN4 ls hl
    refine lv_iload_n hx hb dX6_allCredits_4 rfl (lv_at hl 2 rfl) ?_
    refine lv_bipush (v := 16) hx hb dX6_allCredits_5 (by decide) ?_
    refine iicmp_ge (a := L3.toInt) (b := 16) (tgt := 25) hx hb rfl (by decide) dX6_allCredits_7 (by decide) (fun k_1 => ?_) (fun k_1 => ?_)
    · skip
      refine lv_lload_n hx hb dX6_allCredits_25 rfl (lv_at hl 1 rfl) ?_
      exact W.lret (v := L1) hx hb hr (fun t ht hW => ⟨_, rfl, trivial, ht⟩) (fun _ h => by cases h) dX6_allCredits_26
    · skip
      refine lv_lload_n hx hb dX6_allCredits_10 rfl (lv_at hl 1 rfl) ?_
      refine lv_aload_n hx hb dX6_allCredits_11 rfl (lv_at hl 0 rfl) ?_
      refine va_get (D := D) (ci := 6) (v := .ref A_credits) (C := RX6) (T := TX6) (N := 18) hx hb hts (fun _ h => List.mem_cons_of_mem _ (List.mem_append_right _ h)) hown hK hP 0 rfl rfl 6 (by decide) (hts (.fieldLink RX6 47 "CrownTable" "credits" "[J") (mem_i 1 rfl)) (fun _ h9 => h9) rfl dX6_allCredits_12 ?_
      refine lv_iload_n hx hb dX6_allCredits_15 rfl (lv_at hl 2 rfl) ?_
      refine va_lald hx hb hK hP 1 2 rfl rfl (vin (a := L3.toInt) rfl (by omega) (by omega)) dX6_allCredits_16 ?_
      refine lv_topl (fun x_2 ex_2 => ?_)
      refine lv_ladd hx hb dX6_allCredits_17 ?_
      refine lv_topl (fun x_3 ex_3 => ?_)
      refine lv_lstore_n (lv' := [(1, .long x_3), (0, .ref A_self), (3, .int L3)]) hx hb dX6_allCredits_18 rfl hl (by decide) rfl (fun ls hl => ?_)
      obtain ⟨x_4, ex_4⟩ : ∃ y : Int32, y = L3 + 1 := ⟨_, rfl⟩
      have tx_4 : x_4.toInt = L3.toInt + 1 := by rw [ex_4]; exact add_ti (a := L3.toInt) (b := 1) rfl (by decide) (by omega) (by omega)
      refine lv_iinc (v := x_4) (lv' := [(3, .int x_4), (1, .long x_3), (0, .ref A_self)]) hx hb dX6_allCredits_19 hl (k := 2) rfl (by rw [ex_4]; rfl) (by decide) rfl (fun ls hl => ?_)
      refine lv_goto (tgt := 4) hx hb dX6_allCredits_22 (by decide) ?_
      have hl := lv_sub hl [2, 1, 0] rfl
      exact (ih4 ((16 - x_4.toInt).toNat) (by omega) x_3 x_4 (by omega) (by omega) rfl _ hl)
  have kzz_5 : (0 : Int32).toInt = 0 := by decide
  have hl := lv_sub hl [2, 1, 0] rfl
  exact (lp_4 _ 0 0 (by omega) (by omega) rfl _ hl)

set_option maxHeartbeats 4000000 in
set_option maxRecDepth 100000 in
theorem k_X6_sum (l : Launch) (D : va_G) (c : Nat → ClassId) (ts : Nat × Nat) (sz : Nat) (A_tape : Nat) (A_reader : Nat) (A_weigher : Nat) (A_texts : Nat) (A_forces : Nat) (A_credits : Nat) (A_held : Nat) (A_cameAt : Nat) (A_farms : Nat) (A_sheriffs : Nat) (A_debts : Nat) (A_roll : Nat) (A_sticks : Nat) (A_table : Nat) (A_self : Nat) (A_debts_cells : Nat) (n_debts_cells : Nat) (f_debts_cells : Nat → Int32) (A_table_counters : Nat) (f_table_counters : Nat → Int32) (f_credits : Nat → Int64) (self_textsRead : Int32) (i_self_textsRead : Int) (hi_self_textsRead : self_textsRead.toInt = i_self_textsRead) (self_now : Int32) (i_self_now : Int) (hi_self_now : self_now.toInt = i_self_now) (debts_size : Int32) (i_debts_size : Int) (hi_debts_size : debts_size.toInt = i_debts_size) (a1 : Int32) (i_a1 : Int) (hi_a1 : a1.toInt = i_a1) (self_chest : Int64) (self_brought : Int64) (hv_self_textsRead : 0 ≤ i_self_textsRead ∧ i_self_textsRead ≤ 10) (hv_self_now : 0 ≤ i_self_now ∧ i_self_now ≤ 1000) (hv_debts_size : 0 ≤ i_debts_size ∧ i_debts_size ≤ 400) (hn_debts_cells : 112 ≤ n_debts_cells ∧ n_debts_cells ≤ 5600) (hm_debts_cells : 7 * i_debts_size ≤ (n_debts_cells : Int)) (hq0 : 0 ≤ (f_table_counters 0).toInt ∧ (f_table_counters 0).toInt ≤ 11) (hq1 : 0 ≤ (f_table_counters 1).toInt ∧ (f_table_counters 1).toInt ≤ 19) (hq2 : 0 ≤ (f_table_counters 2).toInt ∧ (f_table_counters 2).toInt ≤ 19) (hq3 : 0 ≤ (f_table_counters 3).toInt ∧ (f_table_counters 3).toInt ≤ 4) (hq4 : 0 ≤ (f_table_counters 4).toInt ∧ (f_table_counters 4).toInt ≤ 9) (hq5 : 0 ≤ (f_table_counters 5).toInt ∧ (f_table_counters 5).toInt ≤ 900000) : Met l yX6_sum wsX6_sum ({ frames := 3, cells := 0, slots := 0, locals := 68 }) (va_Pc [.ref A_self, .int a1] (Pre0 D c ts [(A_self, .inr (6, [.ref A_tape, .ref A_reader, .ref A_weigher, .ref A_texts, .int self_textsRead, .ref A_forces, .ref A_credits, .ref A_held, .ref A_cameAt, .ref A_farms, .ref A_sheriffs, .ref A_debts, .ref A_roll, .ref A_sticks, .ref A_table, .int self_now, .long self_chest, .long self_brought])), (A_debts, .inr (2, [.int 7, .int 400, .ref A_debts_cells, .int debts_size])), (A_debts_cells, .inl (c 1, n_debts_cells, .inl f_debts_cells)), (A_table, .inr (0, [.ref A_table_counters])), (A_table_counters, .inl (c 1, 6, .inl f_table_counters)), (A_credits, .inl (c 2, 16, .inr (.inl f_credits)))] sz)) (vp_Sl (fun r : Int64 => True)) 0 0 (fun _ => False) := by
  refine Met.ofW (cc := cX6_sum) (maxL := 2) (ret := (some .long)) (by decide) rfl ?_
  intro p e s m args below meth cd s₁ B hml hv
  obtain ⟨rfl, hsz, hP, hD0, hAm, hSt⟩ := hv
  have hx := B.exec
  have hb := B.bytes
  have hr := B.returns
  have hts := atoms_spec (ws := wsX6_sum) B.pre
  have hown : s.vm.findClass RX6 = some m.cls := findClass_of_methodNamed B.named
  have hlocks := B.notSynchronized
  have hK := hAm.1
  subst hsz
  have hD := hD0.self (sz := s.heap.size)
  generalize hAe : va_A [(A_self, .inr (6, [.ref A_tape, .ref A_reader, .ref A_weigher, .ref A_texts, .int self_textsRead, .ref A_forces, .ref A_credits, .ref A_held, .ref A_cameAt, .ref A_farms, .ref A_sheriffs, .ref A_debts, .ref A_roll, .ref A_sticks, .ref A_table, .int self_now, .long self_chest, .long self_brought])), (A_debts, .inr (2, [.int 7, .int 400, .ref A_debts_cells, .int debts_size])), (A_debts_cells, .inl (c 1, n_debts_cells, .inl f_debts_cells)), (A_table, .inr (0, [.ref A_table_counters])), (A_table_counters, .inl (c 1, 6, .inl f_table_counters)), (A_credits, .inl (c 2, 16, .inr (.inl f_credits)))] s.heap.size = A at hD hSt
  have hA : ∀ q : Nat, s.heap.size ≤ q → A q := fun q h => by rw [← hAe]; exact Or.inr h
  have hS : va_S A s.heap s.heap [] := va_S.rf
  clear hD0 hAe
  have hl := lv_entry ([.ref A_self, .int a1]) (n := 2) (Nat.le_of_ble_eq_true rfl)
  rw [lg_entry_eq]
  generalize (lg_sl ([.ref A_self, .int a1]) ++ List.replicate (2 - (lg_sl ([.ref A_self, .int a1])).length) Slot.unset).toArray = ls at hl ⊢
  have hl : lv_has ls 2 [(0, .ref A_self), (1, .int a1)] := hl
  have rg_a1 := i32r a1
  refine lv_iload_n hx hb dX6_sum_0 rfl (lv_at hl 1 rfl) ?_
  by_cases k_1 : i_a1 = 0
  · have ek_1 : a1.toInt = 0 := hi_a1.trans k_1
    refine lv_tableIn (tgt := 44) hx hb dX6_sum_1 (by rw [ek_1]; decide) (by rw [ek_1]; decide) (by rw [ek_1]; rfl) (by decide) ?_
    refine lv_aload_n hx hb dX6_sum_44 rfl (lv_at hl 0 rfl) ?_
    refine va_get (D := D) (ci := 6) (v := .ref A_table) (C := RX6) (T := TX6) (N := 18) hx hb hts (fun _ h => List.mem_cons_of_mem _ (List.mem_append_left _ (List.mem_append_left _ (List.mem_append_right _ h)))) hown hK hP 0 rfl rfl 14 (by decide) (hts (.fieldLink RX6 77 "CrownTable" "table" "LCrownTable$Cloth;") (mem_i 1 rfl)) (fun _ h9 => h9) rfl dX6_sum_45 ?_
    have hPc := hP.sub (ws' := [(A_table, .inr (0, [.ref A_table_counters])), (A_table_counters, .inl (c 1, 6, .inl f_table_counters))]) [3, 4] rfl
    have hDc := hD.sub (ws' := [(A_table, .inr (0, [.ref A_table_counters])), (A_table_counters, .inl (c 1, 6, .inl f_table_counters))]) [3, 4] (by decide) rfl
    have hFc := va_free (wc := [(A_table, .inr (0, [.ref A_table_counters])), (A_table_counters, .inl (c 1, 6, .inl f_table_counters))]) hD hS hA [3, 4] rfl
    refine va_csl (va_runVN (As := []) (rest := []) ⟨hx, hb, hml, hown, hts⟩ (k_X0_lies l D c ts s.heap.size A_table_counters A_table f_table_counters (by omega) (by omega) (by omega) (by omega) (by omega) (by omega)) ⟨va_cnB 0 hts gX6_sum_X0_lies_n242 rfl rfl rfl (show va_Nw (.methodLinkNest RX6 242 yX0_lies RX6) _ from hAm.2.1.1 (RX6, 242, yX0_lies, RX6) (mem_i 24 rfl)) (hts (.initialized RX0) (mem_i 7 rfl)) hdX0_lies ⟨(show 0 + 1 ≤ 3 by decide), (show 8 + (4 + 11) + 0 ≤ 68 by decide)⟩, (hts (.instanceMethod yX0_lies) (mem_i 6 rfl)), (hts (.selects RX0 yX0_lies yX0_lies) (mem_i 8 rfl))⟩ ⟨Pre0.blind, va_recv hK hPc (ci := 0) (q0 := 0) rfl rfl, Pre0.at hPc hDc hAm hSt hS hFc⟩ rfl rfl hl.1 rfl (lv_room (Nat.le_of_ble_eq_true rfl)) dX6_sum_48 ⟨(show 0 + 0 ≤ 0 by decide), (show 0 + 0 ≤ 0 by decide)⟩) (fun r_3 hw_2 => ?_)
    exact W.lret (v := r_3) hx hb hr (fun t ht hW => ⟨_, rfl, trivial, ht⟩) (fun _ h => by cases h) dX6_sum_51
  by_cases k_4 : i_a1 = 1
  · have ek_4 : a1.toInt = 1 := hi_a1.trans k_4
    refine lv_tableIn (tgt := 52) hx hb dX6_sum_1 (by rw [ek_4]; decide) (by rw [ek_4]; decide) (by rw [ek_4]; rfl) (by decide) ?_
    refine lv_aload_n hx hb dX6_sum_52 rfl (lv_at hl 0 rfl) ?_
    refine va_get (D := D) (ci := 6) (v := .long self_chest) (C := RX6) (T := TX6) (N := 18) hx hb hts (fun _ h => List.mem_cons_of_mem _ (List.mem_append_left _ (List.mem_append_left _ (List.mem_append_right _ h)))) hown hK hP 0 rfl rfl 16 (by decide) (hts (.fieldLink RX6 233 "CrownTable" "chest" "J") (mem_i 2 rfl)) (fun _ h9 => h9) rfl dX6_sum_53 ?_
    exact W.lret (v := self_chest) hx hb hr (fun t ht hW => ⟨_, rfl, trivial, ht⟩) (fun _ h => by cases h) dX6_sum_56
  by_cases k_5 : i_a1 = 2
  · have ek_5 : a1.toInt = 2 := hi_a1.trans k_5
    refine lv_tableIn (tgt := 57) hx hb dX6_sum_1 (by rw [ek_5]; decide) (by rw [ek_5]; decide) (by rw [ek_5]; rfl) (by decide) ?_
    refine lv_aload_n hx hb dX6_sum_57 rfl (lv_at hl 0 rfl) ?_
    have hPc := hP.sub (ws' := [(A_self, .inr (6, [.ref A_tape, .ref A_reader, .ref A_weigher, .ref A_texts, .int self_textsRead, .ref A_forces, .ref A_credits, .ref A_held, .ref A_cameAt, .ref A_farms, .ref A_sheriffs, .ref A_debts, .ref A_roll, .ref A_sticks, .ref A_table, .int self_now, .long self_chest, .long self_brought])), (A_credits, .inl (c 2, 16, .inr (.inl f_credits)))]) [0, 5] rfl
    have hDc := hD.sub (ws' := [(A_self, .inr (6, [.ref A_tape, .ref A_reader, .ref A_weigher, .ref A_texts, .int self_textsRead, .ref A_forces, .ref A_credits, .ref A_held, .ref A_cameAt, .ref A_farms, .ref A_sheriffs, .ref A_debts, .ref A_roll, .ref A_sticks, .ref A_table, .int self_now, .long self_chest, .long self_brought])), (A_credits, .inl (c 2, 16, .inr (.inl f_credits)))]) [0, 5] (by decide) rfl
    have hFc := va_free (wc := [(A_self, .inr (6, [.ref A_tape, .ref A_reader, .ref A_weigher, .ref A_texts, .int self_textsRead, .ref A_forces, .ref A_credits, .ref A_held, .ref A_cameAt, .ref A_farms, .ref A_sheriffs, .ref A_debts, .ref A_roll, .ref A_sticks, .ref A_table, .int self_now, .long self_chest, .long self_brought])), (A_credits, .inl (c 2, 16, .inr (.inl f_credits)))]) hD hS hA [0, 5] rfl
    refine va_csl (va_runV (As := []) (rest := []) ⟨hx, hb, hml, hown, hts⟩ (k_X6_allCredits l D c ts s.heap.size A_tape A_reader A_weigher A_texts A_forces A_credits A_held A_cameAt A_farms A_sheriffs A_debts A_roll A_sticks A_table A_self f_credits self_textsRead i_self_textsRead hi_self_textsRead self_now i_self_now hi_self_now self_chest self_brought (by omega) (by omega)) (cwV 0 hts gX6_sum_X6_allCredits rfl rfl rfl ⟨rfl, hdX6_allCredits⟩ ⟨(show 0 + 1 ≤ 3 by decide), (show 8 + (4 + 11) + 0 ≤ 68 by decide)⟩) ⟨Pre0.blind, va_recv hK hPc (ci := 6) (q0 := 0) rfl rfl, Pre0.at hPc hDc hAm hSt hS hFc⟩ rfl rfl hl.1 rfl (lv_room (Nat.le_of_ble_eq_true rfl)) dX6_sum_58 ⟨(show 0 + 0 ≤ 0 by decide), (show 0 + 0 ≤ 0 by decide)⟩) (fun r_7 hw_6 => ?_)
    exact W.lret (v := r_7) hx hb hr (fun t ht hW => ⟨_, rfl, trivial, ht⟩) (fun _ h => by cases h) dX6_sum_61
  by_cases k_8 : i_a1 = 3
  · have ek_8 : a1.toInt = 3 := hi_a1.trans k_8
    refine lv_tableIn (tgt := 62) hx hb dX6_sum_1 (by rw [ek_8]; decide) (by rw [ek_8]; decide) (by rw [ek_8]; rfl) (by decide) ?_
    refine lv_aload_n hx hb dX6_sum_62 rfl (lv_at hl 0 rfl) ?_
    refine va_get (D := D) (ci := 6) (v := .ref A_debts) (C := RX6) (T := TX6) (N := 18) hx hb hts (fun _ h => List.mem_cons_of_mem _ (List.mem_append_left _ (List.mem_append_left _ (List.mem_append_right _ h)))) hown hK hP 0 rfl rfl 11 (by decide) (hts (.fieldLink RX6 65 "CrownTable" "debts" "LCrownTable$Rows;") (mem_i 3 rfl)) (fun _ h9 => h9) rfl dX6_sum_63 ?_
    refine lv_iconst (v := 3) hx hb dX6_sum_66 (by decide) ?_
    have hPc := hP.sub (ws' := [(A_debts, .inr (2, [.int 7, .int 400, .ref A_debts_cells, .int debts_size])), (A_debts_cells, .inl (c 1, n_debts_cells, .inl f_debts_cells))]) [1, 2] rfl
    have hDc := hD.sub (ws' := [(A_debts, .inr (2, [.int 7, .int 400, .ref A_debts_cells, .int debts_size])), (A_debts_cells, .inl (c 1, n_debts_cells, .inl f_debts_cells))]) [1, 2] (by decide) rfl
    have hFc := va_free (wc := [(A_debts, .inr (2, [.int 7, .int 400, .ref A_debts_cells, .int debts_size])), (A_debts_cells, .inl (c 1, n_debts_cells, .inl f_debts_cells))]) hD hS hA [1, 2] rfl
    have kzz_9 : (3 : Int32).toInt = 3 := by decide
    refine va_csl (va_runVN (As := [.int 3]) (rest := []) ⟨hx, hb, hml, hown, hts⟩ (k_X2_total_debts l D c ts s.heap.size A_debts_cells A_debts n_debts_cells f_debts_cells debts_size i_debts_size hi_debts_size 3 3 (by decide) (by omega) (by omega) (by omega)) ⟨va_cnB 1 hts gX6_sum_X2_total_n255 rfl rfl rfl (show va_Nw (.methodLinkNest RX6 255 yX2_total RX6) _ from hAm.2.1.1 (RX6, 255, yX2_total, RX6) (mem_i 26 rfl)) (hts (.initialized RX2) (mem_i 19 rfl)) hdX2_total ⟨(show 2 + 1 ≤ 3 by decide), (show 8 + (5 + 11) + 44 ≤ 68 by decide)⟩, (hts (.instanceMethod yX2_total) (mem_i 18 rfl)), (hts (.selects RX2 yX2_total yX2_total) (mem_i 20 rfl))⟩ ⟨Pre0.blind, va_recv hK hPc (ci := 2) (q0 := 0) rfl rfl, Pre0.at hPc hDc hAm hSt hS hFc⟩ rfl rfl hl.1 rfl (lv_room (Nat.le_of_ble_eq_true rfl)) dX6_sum_67 ⟨(show 0 + 0 ≤ 0 by decide), (show 0 + 0 ≤ 0 by decide)⟩) (fun r_11 hw_10 => ?_)
    exact W.lret (v := r_11) hx hb hr (fun t ht hW => ⟨_, rfl, trivial, ht⟩) (fun _ h => by cases h) dX6_sum_70
  by_cases k_12 : i_a1 = 4
  · have ek_12 : a1.toInt = 4 := hi_a1.trans k_12
    refine lv_tableIn (tgt := 71) hx hb dX6_sum_1 (by rw [ek_12]; decide) (by rw [ek_12]; decide) (by rw [ek_12]; rfl) (by decide) ?_
    refine lv_aload_n hx hb dX6_sum_71 rfl (lv_at hl 0 rfl) ?_
    refine va_get (D := D) (ci := 6) (v := .ref A_debts) (C := RX6) (T := TX6) (N := 18) hx hb hts (fun _ h => List.mem_cons_of_mem _ (List.mem_append_left _ (List.mem_append_left _ (List.mem_append_right _ h)))) hown hK hP 0 rfl rfl 11 (by decide) (hts (.fieldLink RX6 65 "CrownTable" "debts" "LCrownTable$Rows;") (mem_i 3 rfl)) (fun _ h9 => h9) rfl dX6_sum_72 ?_
    refine lv_bipush (v := 6) hx hb dX6_sum_75 (by decide) ?_
    have hPc := hP.sub (ws' := [(A_debts, .inr (2, [.int 7, .int 400, .ref A_debts_cells, .int debts_size])), (A_debts_cells, .inl (c 1, n_debts_cells, .inl f_debts_cells))]) [1, 2] rfl
    have hDc := hD.sub (ws' := [(A_debts, .inr (2, [.int 7, .int 400, .ref A_debts_cells, .int debts_size])), (A_debts_cells, .inl (c 1, n_debts_cells, .inl f_debts_cells))]) [1, 2] (by decide) rfl
    have hFc := va_free (wc := [(A_debts, .inr (2, [.int 7, .int 400, .ref A_debts_cells, .int debts_size])), (A_debts_cells, .inl (c 1, n_debts_cells, .inl f_debts_cells))]) hD hS hA [1, 2] rfl
    have kzz_13 : (6 : Int32).toInt = 6 := by decide
    refine va_csl (va_runVN (As := [.int 6]) (rest := []) ⟨hx, hb, hml, hown, hts⟩ (k_X2_total_debts l D c ts s.heap.size A_debts_cells A_debts n_debts_cells f_debts_cells debts_size i_debts_size hi_debts_size 6 6 (by decide) (by omega) (by omega) (by omega)) ⟨va_cnB 1 hts gX6_sum_X2_total_n255 rfl rfl rfl (show va_Nw (.methodLinkNest RX6 255 yX2_total RX6) _ from hAm.2.1.1 (RX6, 255, yX2_total, RX6) (mem_i 26 rfl)) (hts (.initialized RX2) (mem_i 19 rfl)) hdX2_total ⟨(show 2 + 1 ≤ 3 by decide), (show 8 + (5 + 11) + 44 ≤ 68 by decide)⟩, (hts (.instanceMethod yX2_total) (mem_i 18 rfl)), (hts (.selects RX2 yX2_total yX2_total) (mem_i 20 rfl))⟩ ⟨Pre0.blind, va_recv hK hPc (ci := 2) (q0 := 0) rfl rfl, Pre0.at hPc hDc hAm hSt hS hFc⟩ rfl rfl hl.1 rfl (lv_room (Nat.le_of_ble_eq_true rfl)) dX6_sum_77 ⟨(show 0 + 0 ≤ 0 by decide), (show 0 + 0 ≤ 0 by decide)⟩) (fun r_15 hw_14 => ?_)
    exact W.lret (v := r_15) hx hb hr (fun t ht hW => ⟨_, rfl, trivial, ht⟩) (fun _ h => by cases h) dX6_sum_80
  by_cases k_16 : i_a1 = 5
  · have ek_16 : a1.toInt = 5 := hi_a1.trans k_16
    refine lv_tableIn (tgt := 81) hx hb dX6_sum_1 (by rw [ek_16]; decide) (by rw [ek_16]; decide) (by rw [ek_16]; rfl) (by decide) ?_
    refine lv_aload_n hx hb dX6_sum_81 rfl (lv_at hl 0 rfl) ?_
    refine va_get (D := D) (ci := 6) (v := .ref A_debts) (C := RX6) (T := TX6) (N := 18) hx hb hts (fun _ h => List.mem_cons_of_mem _ (List.mem_append_left _ (List.mem_append_left _ (List.mem_append_right _ h)))) hown hK hP 0 rfl rfl 11 (by decide) (hts (.fieldLink RX6 65 "CrownTable" "debts" "LCrownTable$Rows;") (mem_i 3 rfl)) (fun _ h9 => h9) rfl dX6_sum_82 ?_
    refine lv_iconst (v := 2) hx hb dX6_sum_85 (by decide) ?_
    have hPc := hP.sub (ws' := [(A_debts, .inr (2, [.int 7, .int 400, .ref A_debts_cells, .int debts_size])), (A_debts_cells, .inl (c 1, n_debts_cells, .inl f_debts_cells))]) [1, 2] rfl
    have hDc := hD.sub (ws' := [(A_debts, .inr (2, [.int 7, .int 400, .ref A_debts_cells, .int debts_size])), (A_debts_cells, .inl (c 1, n_debts_cells, .inl f_debts_cells))]) [1, 2] (by decide) rfl
    have hFc := va_free (wc := [(A_debts, .inr (2, [.int 7, .int 400, .ref A_debts_cells, .int debts_size])), (A_debts_cells, .inl (c 1, n_debts_cells, .inl f_debts_cells))]) hD hS hA [1, 2] rfl
    have kzz_17 : (2 : Int32).toInt = 2 := by decide
    refine va_csl (va_runVN (As := [.int 2]) (rest := []) ⟨hx, hb, hml, hown, hts⟩ (k_X2_total_debts l D c ts s.heap.size A_debts_cells A_debts n_debts_cells f_debts_cells debts_size i_debts_size hi_debts_size 2 2 (by decide) (by omega) (by omega) (by omega)) ⟨va_cnB 1 hts gX6_sum_X2_total_n255 rfl rfl rfl (show va_Nw (.methodLinkNest RX6 255 yX2_total RX6) _ from hAm.2.1.1 (RX6, 255, yX2_total, RX6) (mem_i 26 rfl)) (hts (.initialized RX2) (mem_i 19 rfl)) hdX2_total ⟨(show 2 + 1 ≤ 3 by decide), (show 8 + (5 + 11) + 44 ≤ 68 by decide)⟩, (hts (.instanceMethod yX2_total) (mem_i 18 rfl)), (hts (.selects RX2 yX2_total yX2_total) (mem_i 20 rfl))⟩ ⟨Pre0.blind, va_recv hK hPc (ci := 2) (q0 := 0) rfl rfl, Pre0.at hPc hDc hAm hSt hS hFc⟩ rfl rfl hl.1 rfl (lv_room (Nat.le_of_ble_eq_true rfl)) dX6_sum_86 ⟨(show 0 + 0 ≤ 0 by decide), (show 0 + 0 ≤ 0 by decide)⟩) (fun r_19 hw_18 => ?_)
    exact W.lret (v := r_19) hx hb hr (fun t ht hW => ⟨_, rfl, trivial, ht⟩) (fun _ h => by cases h) dX6_sum_89
  by_cases k_20 : i_a1 = 6
  · have ek_20 : a1.toInt = 6 := hi_a1.trans k_20
    refine lv_tableIn (tgt := 90) hx hb dX6_sum_1 (by rw [ek_20]; decide) (by rw [ek_20]; decide) (by rw [ek_20]; rfl) (by decide) ?_
    refine lv_aload_n hx hb dX6_sum_90 rfl (lv_at hl 0 rfl) ?_
    refine va_get (D := D) (ci := 6) (v := .long self_brought) (C := RX6) (T := TX6) (N := 18) hx hb hts (fun _ h => List.mem_cons_of_mem _ (List.mem_append_left _ (List.mem_append_left _ (List.mem_append_right _ h)))) hown hK hP 0 rfl rfl 17 (by decide) (hts (.fieldLink RX6 187 "CrownTable" "brought" "J") (mem_i 4 rfl)) (fun _ h9 => h9) rfl dX6_sum_91 ?_
    exact W.lret (v := self_brought) hx hb hr (fun t ht hW => ⟨_, rfl, trivial, ht⟩) (fun _ h => by cases h) dX6_sum_94
  refine lv_tableOut (tgt := 95) hx hb dX6_sum_1 (by rw [hi_a1]; omega) (by decide) ?_
  refine lv_ldc2 (v := (-1)) hx hb hown (hts (.constantLong RX6 205 (-1)) (mem_i 5 rfl)) dX6_sum_95 ?_
  exact W.lret (v := (-1)) hx hb hr (fun t ht hW => ⟨_, rfl, trivial, ht⟩) (fun _ h => by cases h) dX6_sum_98

set_option maxHeartbeats 4000000 in
set_option maxRecDepth 100000 in
theorem k_X6_count (l : Launch) (D : va_G) (c : Nat → ClassId) (ts : Nat × Nat) (sz : Nat) (A_tape : Nat) (A_reader : Nat) (A_weigher : Nat) (A_texts : Nat) (A_forces : Nat) (A_credits : Nat) (A_held : Nat) (A_cameAt : Nat) (A_farms : Nat) (A_sheriffs : Nat) (A_debts : Nat) (A_roll : Nat) (A_sticks : Nat) (A_table : Nat) (A_self : Nat) (A_debts_cells : Nat) (A_roll_cells : Nat) (A_sticks_cells : Nat) (A_tape_bytes : Nat) (self_textsRead : Int32) (i_self_textsRead : Int) (hi_self_textsRead : self_textsRead.toInt = i_self_textsRead) (self_now : Int32) (i_self_now : Int) (hi_self_now : self_now.toInt = i_self_now) (debts_size : Int32) (i_debts_size : Int) (hi_debts_size : debts_size.toInt = i_debts_size) (roll_size : Int32) (i_roll_size : Int) (hi_roll_size : roll_size.toInt = i_roll_size) (sticks_size : Int32) (i_sticks_size : Int) (hi_sticks_size : sticks_size.toInt = i_sticks_size) (tape_length : Int32) (i_tape_length : Int) (hi_tape_length : tape_length.toInt = i_tape_length) (a1 : Int32) (i_a1 : Int) (hi_a1 : a1.toInt = i_a1) (self_chest : Int64) (self_brought : Int64) (hv_self_textsRead : 0 ≤ i_self_textsRead ∧ i_self_textsRead ≤ 10) (hv_self_now : 0 ≤ i_self_now ∧ i_self_now ≤ 1000) (hv_debts_size : 0 ≤ i_debts_size ∧ i_debts_size ≤ 400) (hv_roll_size : 0 ≤ i_roll_size ∧ i_roll_size ≤ 4000) (hv_sticks_size : 0 ≤ i_sticks_size ∧ i_sticks_size ≤ 2000) (hv_tape_length : 0 ≤ i_tape_length ∧ i_tape_length ≤ 800) : Met l yX6_count wsX6_count ({ frames := 0, cells := 0, slots := 0, locals := 0 }) (va_Pc [.ref A_self, .int a1] (Pre0 D c ts [(A_self, .inr (6, [.ref A_tape, .ref A_reader, .ref A_weigher, .ref A_texts, .int self_textsRead, .ref A_forces, .ref A_credits, .ref A_held, .ref A_cameAt, .ref A_farms, .ref A_sheriffs, .ref A_debts, .ref A_roll, .ref A_sticks, .ref A_table, .int self_now, .long self_chest, .long self_brought])), (A_debts, .inr (2, [.int 7, .int 400, .ref A_debts_cells, .int debts_size])), (A_roll, .inr (2, [.int 8, .int 4000, .ref A_roll_cells, .int roll_size])), (A_sticks, .inr (2, [.int 1, .int 2000, .ref A_sticks_cells, .int sticks_size])), (A_tape, .inr (3, [.ref A_tape_bytes, .int tape_length]))] sz)) (vp_Si (fun r : Int32 => True)) 0 0 (fun _ => False) := by
  refine Met.ofW (cc := cX6_count) (maxL := 2) (ret := (some .int)) (by decide) rfl ?_
  intro p e s m args below meth cd s₁ B hml hv
  obtain ⟨rfl, hsz, hP, hD0, hAm, hSt⟩ := hv
  have hx := B.exec
  have hb := B.bytes
  have hr := B.returns
  have hts := atoms_spec (ws := wsX6_count) B.pre
  have hown : s.vm.findClass RX6 = some m.cls := findClass_of_methodNamed B.named
  have hlocks := B.notSynchronized
  have hK := hAm.1
  subst hsz
  have hD := hD0.self (sz := s.heap.size)
  generalize hAe : va_A [(A_self, .inr (6, [.ref A_tape, .ref A_reader, .ref A_weigher, .ref A_texts, .int self_textsRead, .ref A_forces, .ref A_credits, .ref A_held, .ref A_cameAt, .ref A_farms, .ref A_sheriffs, .ref A_debts, .ref A_roll, .ref A_sticks, .ref A_table, .int self_now, .long self_chest, .long self_brought])), (A_debts, .inr (2, [.int 7, .int 400, .ref A_debts_cells, .int debts_size])), (A_roll, .inr (2, [.int 8, .int 4000, .ref A_roll_cells, .int roll_size])), (A_sticks, .inr (2, [.int 1, .int 2000, .ref A_sticks_cells, .int sticks_size])), (A_tape, .inr (3, [.ref A_tape_bytes, .int tape_length]))] s.heap.size = A at hD hSt
  have hA : ∀ q : Nat, s.heap.size ≤ q → A q := fun q h => by rw [← hAe]; exact Or.inr h
  have hS : va_S A s.heap s.heap [] := va_S.rf
  clear hD0 hAe
  have hl := lv_entry ([.ref A_self, .int a1]) (n := 2) (Nat.le_of_ble_eq_true rfl)
  rw [lg_entry_eq]
  generalize (lg_sl ([.ref A_self, .int a1]) ++ List.replicate (2 - (lg_sl ([.ref A_self, .int a1])).length) Slot.unset).toArray = ls at hl ⊢
  have hl : lv_has ls 2 [(0, .ref A_self), (1, .int a1)] := hl
  have rg_a1 := i32r a1
  refine lv_iload_n hx hb dX6_count_0 rfl (lv_at hl 1 rfl) ?_
  by_cases k_1 : i_a1 = 0
  · have ek_1 : a1.toInt = 0 := hi_a1.trans k_1
    refine lv_tableIn (tgt := 40) hx hb dX6_count_1 (by rw [ek_1]; decide) (by rw [ek_1]; decide) (by rw [ek_1]; rfl) (by decide) ?_
    refine lv_aload_n hx hb dX6_count_40 rfl (lv_at hl 0 rfl) ?_
    refine va_get (D := D) (ci := 6) (v := .ref A_debts) (C := RX6) (T := TX6) (N := 18) hx hb hts (fun _ h => List.mem_cons_of_mem _ (List.mem_append_left _ (List.mem_append_left _ (List.mem_append_right _ h)))) hown hK hP 0 rfl rfl 11 (by decide) (hts (.fieldLink RX6 65 "CrownTable" "debts" "LCrownTable$Rows;") (mem_i 1 rfl)) (fun _ h9 => h9) rfl dX6_count_41 ?_
    refine va_getN (D := D) (ci := 2) (v := .int debts_size) (own := RX6) (ref := "CrownTable$Rows") (host := RX6) (index := 155) (C := RX2) (T := TX2) (N := 4) hx hb hts (fun _ h => List.mem_cons_of_mem _ (List.mem_append_left _ (List.mem_append_right _ h))) hown hK hP 1 rfl rfl 3 (by decide) (show (Cond.fieldLinkNest RX6 155 "CrownTable$Rows" "size" "I" RX6).before _ _ = true from va_Nw.use rfl (hAm.2.1.2 (RX6, 155, "CrownTable$Rows", "size", "I", RX6) (mem_i 3 rfl))) (fun _ h9 => h9) rfl dX6_count_44 ?_
    exact W.iret (v := debts_size) hx hb hr (fun t ht hW => ⟨_, rfl, trivial, ht⟩) (fun _ h => by cases h) dX6_count_47
  by_cases k_2 : i_a1 = 1
  · have ek_2 : a1.toInt = 1 := hi_a1.trans k_2
    refine lv_tableIn (tgt := 48) hx hb dX6_count_1 (by rw [ek_2]; decide) (by rw [ek_2]; decide) (by rw [ek_2]; rfl) (by decide) ?_
    refine lv_aload_n hx hb dX6_count_48 rfl (lv_at hl 0 rfl) ?_
    refine va_get (D := D) (ci := 6) (v := .ref A_roll) (C := RX6) (T := TX6) (N := 18) hx hb hts (fun _ h => List.mem_cons_of_mem _ (List.mem_append_left _ (List.mem_append_left _ (List.mem_append_right _ h)))) hown hK hP 0 rfl rfl 12 (by decide) (hts (.fieldLink RX6 68 "CrownTable" "roll" "LCrownTable$Rows;") (mem_i 2 rfl)) (fun _ h9 => h9) rfl dX6_count_49 ?_
    refine va_getN (D := D) (ci := 2) (v := .int roll_size) (own := RX6) (ref := "CrownTable$Rows") (host := RX6) (index := 155) (C := RX2) (T := TX2) (N := 4) hx hb hts (fun _ h => List.mem_cons_of_mem _ (List.mem_append_left _ (List.mem_append_right _ h))) hown hK hP 2 rfl rfl 3 (by decide) (show (Cond.fieldLinkNest RX6 155 "CrownTable$Rows" "size" "I" RX6).before _ _ = true from va_Nw.use rfl (hAm.2.1.2 (RX6, 155, "CrownTable$Rows", "size", "I", RX6) (mem_i 3 rfl))) (fun _ h9 => h9) rfl dX6_count_52 ?_
    exact W.iret (v := roll_size) hx hb hr (fun t ht hW => ⟨_, rfl, trivial, ht⟩) (fun _ h => by cases h) dX6_count_55
  by_cases k_3 : i_a1 = 2
  · have ek_3 : a1.toInt = 2 := hi_a1.trans k_3
    refine lv_tableIn (tgt := 56) hx hb dX6_count_1 (by rw [ek_3]; decide) (by rw [ek_3]; decide) (by rw [ek_3]; rfl) (by decide) ?_
    refine lv_aload_n hx hb dX6_count_56 rfl (lv_at hl 0 rfl) ?_
    refine va_get (D := D) (ci := 6) (v := .ref A_sticks) (C := RX6) (T := TX6) (N := 18) hx hb hts (fun _ h => List.mem_cons_of_mem _ (List.mem_append_left _ (List.mem_append_left _ (List.mem_append_right _ h)))) hown hK hP 0 rfl rfl 13 (by decide) (hts (.fieldLink RX6 71 "CrownTable" "sticks" "LCrownTable$Rows;") (mem_i 3 rfl)) (fun _ h9 => h9) rfl dX6_count_57 ?_
    refine va_getN (D := D) (ci := 2) (v := .int sticks_size) (own := RX6) (ref := "CrownTable$Rows") (host := RX6) (index := 155) (C := RX2) (T := TX2) (N := 4) hx hb hts (fun _ h => List.mem_cons_of_mem _ (List.mem_append_left _ (List.mem_append_right _ h))) hown hK hP 3 rfl rfl 3 (by decide) (show (Cond.fieldLinkNest RX6 155 "CrownTable$Rows" "size" "I" RX6).before _ _ = true from va_Nw.use rfl (hAm.2.1.2 (RX6, 155, "CrownTable$Rows", "size", "I", RX6) (mem_i 3 rfl))) (fun _ h9 => h9) rfl dX6_count_60 ?_
    exact W.iret (v := sticks_size) hx hb hr (fun t ht hW => ⟨_, rfl, trivial, ht⟩) (fun _ h => by cases h) dX6_count_63
  by_cases k_4 : i_a1 = 3
  · have ek_4 : a1.toInt = 3 := hi_a1.trans k_4
    refine lv_tableIn (tgt := 64) hx hb dX6_count_1 (by rw [ek_4]; decide) (by rw [ek_4]; decide) (by rw [ek_4]; rfl) (by decide) ?_
    refine lv_aload_n hx hb dX6_count_64 rfl (lv_at hl 0 rfl) ?_
    refine va_get (D := D) (ci := 6) (v := .int self_textsRead) (C := RX6) (T := TX6) (N := 18) hx hb hts (fun _ h => List.mem_cons_of_mem _ (List.mem_append_left _ (List.mem_append_left _ (List.mem_append_right _ h)))) hown hK hP 0 rfl rfl 4 (by decide) (hts (.fieldLink RX6 99 "CrownTable" "textsRead" "I") (mem_i 4 rfl)) (fun _ h9 => h9) rfl dX6_count_65 ?_
    exact W.iret (v := self_textsRead) hx hb hr (fun t ht hW => ⟨_, rfl, trivial, ht⟩) (fun _ h => by cases h) dX6_count_68
  by_cases k_5 : i_a1 = 4
  · have ek_5 : a1.toInt = 4 := hi_a1.trans k_5
    refine lv_tableIn (tgt := 69) hx hb dX6_count_1 (by rw [ek_5]; decide) (by rw [ek_5]; decide) (by rw [ek_5]; rfl) (by decide) ?_
    refine lv_aload_n hx hb dX6_count_69 rfl (lv_at hl 0 rfl) ?_
    refine va_get (D := D) (ci := 6) (v := .int self_now) (C := RX6) (T := TX6) (N := 18) hx hb hts (fun _ h => List.mem_cons_of_mem _ (List.mem_append_left _ (List.mem_append_left _ (List.mem_append_right _ h)))) hown hK hP 0 rfl rfl 15 (by decide) (hts (.fieldLink RX6 120 "CrownTable" "now" "I") (mem_i 5 rfl)) (fun _ h9 => h9) rfl dX6_count_70 ?_
    exact W.iret (v := self_now) hx hb hr (fun t ht hW => ⟨_, rfl, trivial, ht⟩) (fun _ h => by cases h) dX6_count_73
  by_cases k_6 : i_a1 = 5
  · have ek_6 : a1.toInt = 5 := hi_a1.trans k_6
    refine lv_tableIn (tgt := 74) hx hb dX6_count_1 (by rw [ek_6]; decide) (by rw [ek_6]; decide) (by rw [ek_6]; rfl) (by decide) ?_
    refine lv_aload_n hx hb dX6_count_74 rfl (lv_at hl 0 rfl) ?_
    refine va_get (D := D) (ci := 6) (v := .ref A_tape) (C := RX6) (T := TX6) (N := 18) hx hb hts (fun _ h => List.mem_cons_of_mem _ (List.mem_append_left _ (List.mem_append_left _ (List.mem_append_right _ h)))) hown hK hP 0 rfl rfl 0 (by decide) (hts (.fieldLink RX6 10 "CrownTable" "tape" "LCrownTable$Tape;") (mem_i 6 rfl)) (fun _ h9 => h9) rfl dX6_count_75 ?_
    refine va_getN (D := D) (ci := 3) (v := .int tape_length) (own := RX6) (ref := "CrownTable$Tape") (host := RX6) (index := 95) (C := RX3) (T := TX3) (N := 2) hx hb hts (fun _ h => List.mem_cons_of_mem _ (List.mem_append_right _ h)) hown hK hP 4 rfl rfl 1 (by decide) (show (Cond.fieldLinkNest RX6 95 "CrownTable$Tape" "length" "I" RX6).before _ _ = true from va_Nw.use rfl (hAm.2.1.2 (RX6, 95, "CrownTable$Tape", "length", "I", RX6) (mem_i 0 rfl))) (fun _ h9 => h9) rfl dX6_count_78 ?_
    exact W.iret (v := tape_length) hx hb hr (fun t ht hW => ⟨_, rfl, trivial, ht⟩) (fun _ h => by cases h) dX6_count_81
  refine lv_tableOut (tgt := 82) hx hb dX6_count_1 (by rw [hi_a1]; omega) (by decide) ?_
  refine lv_iconst (v := (-1)) hx hb dX6_count_82 (by decide) ?_
  have kzz_7 : ((-1) : Int32).toInt = (-1) := by decide
  exact W.iret (v := (-1)) hx hb hr (fun t ht hW => ⟨_, rfl, trivial, ht⟩) (fun _ h => by cases h) dX6_count_83

set_option maxHeartbeats 4000000 in
set_option maxRecDepth 100000 in
theorem k_X6_feed (l : Launch) (D : va_G) (c : Nat → ClassId) (ts : Nat × Nat) (sz : Nat) (A_tape : Nat) (A_reader : Nat) (A_weigher : Nat) (A_texts : Nat) (A_forces : Nat) (A_credits : Nat) (A_held : Nat) (A_cameAt : Nat) (A_farms : Nat) (A_sheriffs : Nat) (A_debts : Nat) (A_roll : Nat) (A_sticks : Nat) (A_table : Nat) (A_self : Nat) (A_tape_bytes : Nat) (f_tape_bytes : Nat → Int32) (self_textsRead : Int32) (i_self_textsRead : Int) (hi_self_textsRead : self_textsRead.toInt = i_self_textsRead) (self_now : Int32) (i_self_now : Int) (hi_self_now : self_now.toInt = i_self_now) (tape_length : Int32) (i_tape_length : Int) (hi_tape_length : tape_length.toInt = i_tape_length) (a1 : Int32) (i_a1 : Int) (hi_a1 : a1.toInt = i_a1) (a2 : Int32) (i_a2 : Int) (hi_a2 : a2.toInt = i_a2) (a3 : Int32) (i_a3 : Int) (hi_a3 : a3.toInt = i_a3) (a4 : Int32) (i_a4 : Int) (hi_a4 : a4.toInt = i_a4) (a5 : Int32) (i_a5 : Int) (hi_a5 : a5.toInt = i_a5) (self_chest : Int64) (self_brought : Int64) (hv_self_textsRead : 0 ≤ i_self_textsRead ∧ i_self_textsRead ≤ 10) (hv_self_now : 0 ≤ i_self_now ∧ i_self_now ≤ 1000) (hv_tape_length : 0 ≤ i_tape_length ∧ i_tape_length ≤ 800) : Met l yX6_feed wsX6_feed ({ frames := 2, cells := 0, slots := 0, locals := 43 }) (va_Pc [.ref A_self, .int a1, .int a2, .int a3, .int a4, .int a5] (Pre0 D c ts [(A_self, .inr (6, [.ref A_tape, .ref A_reader, .ref A_weigher, .ref A_texts, .int self_textsRead, .ref A_forces, .ref A_credits, .ref A_held, .ref A_cameAt, .ref A_farms, .ref A_sheriffs, .ref A_debts, .ref A_roll, .ref A_sticks, .ref A_table, .int self_now, .long self_chest, .long self_brought])), (A_tape, .inr (3, [.ref A_tape_bytes, .int tape_length])), (A_tape_bytes, .inl (c 0, 800, .inl f_tape_bytes))] sz)) (va_Qi (fun (r : Int32) (u : Int32 × (Nat → Int32) × Unit) => (0 ≤ u.1.toInt ∧ u.1.toInt ≤ 800)) (fun u t => va_P D vwCl [(A_self, .inr (6, [.ref A_tape, .ref A_reader, .ref A_weigher, .ref A_texts, .int self_textsRead, .ref A_forces, .ref A_credits, .ref A_held, .ref A_cameAt, .ref A_farms, .ref A_sheriffs, .ref A_debts, .ref A_roll, .ref A_sticks, .ref A_table, .int self_now, .long self_chest, .long self_brought])), (A_tape, .inr (3, [.ref A_tape_bytes, .int u.1])), (A_tape_bytes, .inl (c 0, 800, .inl u.2.1))] t.heap ∧ va_D (va_A [(A_self, .inr (6, [.ref A_tape, .ref A_reader, .ref A_weigher, .ref A_texts, .int self_textsRead, .ref A_forces, .ref A_credits, .ref A_held, .ref A_cameAt, .ref A_farms, .ref A_sheriffs, .ref A_debts, .ref A_roll, .ref A_sticks, .ref A_table, .int self_now, .long self_chest, .long self_brought])), (A_tape, .inr (3, [.ref A_tape_bytes, .int tape_length])), (A_tape_bytes, .inl (c 0, 800, .inl f_tape_bytes))] sz) [(A_self, .inr (6, [.ref A_tape, .ref A_reader, .ref A_weigher, .ref A_texts, .int self_textsRead, .ref A_forces, .ref A_credits, .ref A_held, .ref A_cameAt, .ref A_farms, .ref A_sheriffs, .ref A_debts, .ref A_roll, .ref A_sticks, .ref A_table, .int self_now, .long self_chest, .long self_brought])), (A_tape, .inr (3, [.ref A_tape_bytes, .int u.1])), (A_tape_bytes, .inl (c 0, 800, .inl u.2.1))]) (va_A [(A_self, .inr (6, [.ref A_tape, .ref A_reader, .ref A_weigher, .ref A_texts, .int self_textsRead, .ref A_forces, .ref A_credits, .ref A_held, .ref A_cameAt, .ref A_farms, .ref A_sheriffs, .ref A_debts, .ref A_roll, .ref A_sticks, .ref A_table, .int self_now, .long self_chest, .long self_brought])), (A_tape, .inr (3, [.ref A_tape_bytes, .int tape_length])), (A_tape_bytes, .inl (c 0, 800, .inl f_tape_bytes))] sz)) 0 0 (va_A [(A_self, .inr (6, [.ref A_tape, .ref A_reader, .ref A_weigher, .ref A_texts, .int self_textsRead, .ref A_forces, .ref A_credits, .ref A_held, .ref A_cameAt, .ref A_farms, .ref A_sheriffs, .ref A_debts, .ref A_roll, .ref A_sticks, .ref A_table, .int self_now, .long self_chest, .long self_brought])), (A_tape, .inr (3, [.ref A_tape_bytes, .int tape_length])), (A_tape_bytes, .inl (c 0, 800, .inl f_tape_bytes))] sz) := by
  refine Met.ofW (cc := cX6_feed) (maxL := 6) (ret := (some .int)) (by decide) rfl ?_
  intro p e s m args below meth cd s₁ B hml hv
  obtain ⟨rfl, hsz, hP, hD0, hAm, hSt⟩ := hv
  have hx := B.exec
  have hb := B.bytes
  have hr := B.returns
  have hts := atoms_spec (ws := wsX6_feed) B.pre
  have hown : s.vm.findClass RX6 = some m.cls := findClass_of_methodNamed B.named
  have hlocks := B.notSynchronized
  have hK := hAm.1
  subst hsz
  have hD := hD0.self (sz := s.heap.size)
  generalize hAe : va_A [(A_self, .inr (6, [.ref A_tape, .ref A_reader, .ref A_weigher, .ref A_texts, .int self_textsRead, .ref A_forces, .ref A_credits, .ref A_held, .ref A_cameAt, .ref A_farms, .ref A_sheriffs, .ref A_debts, .ref A_roll, .ref A_sticks, .ref A_table, .int self_now, .long self_chest, .long self_brought])), (A_tape, .inr (3, [.ref A_tape_bytes, .int tape_length])), (A_tape_bytes, .inl (c 0, 800, .inl f_tape_bytes))] s.heap.size = A at hD hSt ⊢
  have hA : ∀ q : Nat, s.heap.size ≤ q → A q := fun q h => by rw [← hAe]; exact Or.inr h
  have hS : va_S A s.heap s.heap [] := va_S.rf
  clear hD0 hAe
  have hl := lv_entry ([.ref A_self, .int a1, .int a2, .int a3, .int a4, .int a5]) (n := 6) (Nat.le_of_ble_eq_true rfl)
  rw [lg_entry_eq]
  generalize (lg_sl ([.ref A_self, .int a1, .int a2, .int a3, .int a4, .int a5]) ++ List.replicate (6 - (lg_sl ([.ref A_self, .int a1, .int a2, .int a3, .int a4, .int a5])).length) Slot.unset).toArray = ls at hl ⊢
  have hl : lv_has ls 6 [(0, .ref A_self), (1, .int a1), (2, .int a2), (3, .int a3), (4, .int a4), (5, .int a5)] := hl
  have rg_a1 := i32r a1
  have rg_a2 := i32r a2
  have rg_a3 := i32r a3
  have rg_a4 := i32r a4
  have rg_a5 := i32r a5
  refine lv_aload_n hx hb dX6_feed_0 rfl (lv_at hl 0 rfl) ?_
  refine va_get (D := D) (ci := 6) (v := .ref A_tape) (C := RX6) (T := TX6) (N := 18) hx hb hts (fun _ h => List.mem_cons_of_mem _ (List.mem_append_left _ (List.mem_append_right _ h))) hown hK hP 0 rfl rfl 0 (by decide) (hts (.fieldLink RX6 10 "CrownTable" "tape" "LCrownTable$Tape;") (mem_i 1 rfl)) (fun _ h9 => h9) rfl dX6_feed_1 ?_
  refine lv_bipush (v := 20) hx hb dX6_feed_4 (by decide) ?_
  have hPc := hP.sub (ws' := [(A_tape, .inr (3, [.ref A_tape_bytes, .int tape_length]))]) [1] rfl
  have hDc := hD.sub (ws' := [(A_tape, .inr (3, [.ref A_tape_bytes, .int tape_length]))]) [1] (by decide) rfl
  have hFc := va_free (wc := [(A_tape, .inr (3, [.ref A_tape_bytes, .int tape_length]))]) hD hS hA [1] rfl
  have kzz_1 : (20 : Int32).toInt = 20 := by decide
  refine va_csi (va_runVN (As := [.int 20]) (rest := []) ⟨hx, hb, hml, hown, hts⟩ (k_X3_hasRoom l D c ts s.heap.size A_tape_bytes A_tape tape_length i_tape_length hi_tape_length 20 20 (by decide) (by omega) (by omega)) ⟨va_cnB 1 hts gX6_feed_X3_hasRoom_n87 rfl rfl rfl (show va_Nw (.methodLinkNest RX6 87 yX3_hasRoom RX6) _ from hAm.2.1.1 (RX6, 87, yX3_hasRoom, RX6) (mem_i 5 rfl)) (hts (.initialized RX3) (mem_i 3 rfl)) hdX3_hasRoom ⟨(show 0 + 1 ≤ 2 by decide), (show 8 + (2 + 11) + 0 ≤ 43 by decide)⟩, (hts (.instanceMethod yX3_hasRoom) (mem_i 2 rfl)), (hts (.selects RX3 yX3_hasRoom yX3_hasRoom) (mem_i 4 rfl))⟩ ⟨Pre0.blind, va_recv hK hPc (ci := 3) (q0 := 0) rfl rfl, Pre0.at hPc hDc hAm hSt hS hFc⟩ rfl rfl hl.1 rfl (lv_room (Nat.le_of_ble_eq_true rfl)) dX6_feed_6 ⟨(show 0 + 0 ≤ 0 by decide), (show 0 + 0 ≤ 0 by decide)⟩) (fun r_3 hw_2 => ?_)
  rcases hw_2 with ⟨hw_2, rfl⟩ | ⟨hw_2, rfl⟩
  · skip
    refine iif_neT (a := 1) (tgt := 15) hx hb (by decide) dX6_feed_9 (by decide) (by decide) ?_
    refine lv_aload_n hx hb dX6_feed_15 rfl (lv_at hl 0 rfl) ?_
    refine va_get (D := D) (ci := 6) (v := .ref A_tape) (C := RX6) (T := TX6) (N := 18) hx hb hts (fun _ h => List.mem_cons_of_mem _ (List.mem_append_left _ (List.mem_append_right _ h))) hown hK hP 0 rfl rfl 0 (by decide) (hts (.fieldLink RX6 10 "CrownTable" "tape" "LCrownTable$Tape;") (mem_i 1 rfl)) (fun _ h9 => h9) rfl dX6_feed_16 ?_
    refine lv_iload_n hx hb dX6_feed_19 rfl (lv_at hl 1 rfl) ?_
    have hPc := hP.sub (ws' := [(A_tape, .inr (3, [.ref A_tape_bytes, .int tape_length])), (A_tape_bytes, .inl (c 0, 800, .inl f_tape_bytes))]) [1, 2] rfl
    have hDc := hD.sub (ws' := [(A_tape, .inr (3, [.ref A_tape_bytes, .int tape_length])), (A_tape_bytes, .inl (c 0, 800, .inl f_tape_bytes))]) [1, 2] (by decide) rfl
    have hFc := va_free (wc := [(A_tape, .inr (3, [.ref A_tape_bytes, .int tape_length])), (A_tape_bytes, .inl (c 0, 800, .inl f_tape_bytes))]) hD hS hA [1, 2] rfl
    refine va_callv (va_runVN (As := [.int a1]) (rest := []) ⟨hx, hb, hml, hown, hts⟩ (k_X3_addFour l D c ts s.heap.size A_tape_bytes A_tape f_tape_bytes tape_length i_tape_length hi_tape_length a1 i_a1 hi_a1 (by omega)) ⟨va_cnB 1 hts gX6_feed_X3_addFour_n91 rfl rfl rfl (show va_Nw (.methodLinkNest RX6 91 yX3_addFour RX6) _ from hAm.2.1.1 (RX6, 91, yX3_addFour, RX6) (mem_i 6 rfl)) (hts (.initialized RX3) (mem_i 3 rfl)) hdX3_addFour ⟨(show 1 + 1 ≤ 2 by decide), (show 8 + (3 + 11) + 21 ≤ 43 by decide)⟩, (hts (.instanceMethod yX3_addFour) (mem_i 7 rfl)), (hts (.selects RX3 yX3_addFour yX3_addFour) (mem_i 8 rfl))⟩ ⟨Pre0.blind, va_recv hK hPc (ci := 3) (q0 := 0) rfl rfl, Pre0.at hPc hDc hAm hSt hS hFc⟩ rfl rfl hl.1 rfl (lv_room (Nat.le_of_ble_eq_true rfl)) dX6_feed_20 ⟨(show 0 + 0 ≤ 0 by decide), (show 0 + 0 ≤ 0 by decide)⟩) hS (fun q _ h => hFc q h) hFc (fun u_6 t1 H locs ht hvm hw_4 hB_9 hz1_9 hk1_9 hS => ?_)
    obtain ⟨y_7, f_8, _⟩ := u_6
    have hw_4 : (0 ≤ y_7.toInt ∧ y_7.toInt ≤ 800) := hw_4
    obtain ⟨hP1_9, hD1_9⟩ := hB_9
    rw [ht] at hP1_9
    have hP1_9 : va_P D vwCl [(A_tape, .inr (3, [.ref A_tape_bytes, .int y_7])), (A_tape_bytes, .inl (c 0, 800, .inl f_8))] H := hP1_9
    obtain ⟨hP, hD⟩ := va_join (wr := [(A_self, .inr (6, [.ref A_tape, .ref A_reader, .ref A_weigher, .ref A_texts, .int self_textsRead, .ref A_forces, .ref A_credits, .ref A_held, .ref A_cameAt, .ref A_farms, .ref A_sheriffs, .ref A_debts, .ref A_roll, .ref A_sticks, .ref A_table, .int self_now, .long self_chest, .long self_brought]))]) (w1 := [(A_tape, .inr (3, [.ref A_tape_bytes, .int y_7])), (A_tape_bytes, .inl (c 0, 800, .inl f_8))]) hP hD [1, 2] [0] rfl rfl (by decide) (by decide) hk1_9 hFc hP1_9 hD1_9
    have hP : va_P D vwCl [(A_self, .inr (6, [.ref A_tape, .ref A_reader, .ref A_weigher, .ref A_texts, .int self_textsRead, .ref A_forces, .ref A_credits, .ref A_held, .ref A_cameAt, .ref A_farms, .ref A_sheriffs, .ref A_debts, .ref A_roll, .ref A_sticks, .ref A_table, .int self_now, .long self_chest, .long self_brought])), (A_tape, .inr (3, [.ref A_tape_bytes, .int y_7])), (A_tape_bytes, .inl (c 0, 800, .inl f_8))] H := hP
    have hD : va_D A [(A_self, .inr (6, [.ref A_tape, .ref A_reader, .ref A_weigher, .ref A_texts, .int self_textsRead, .ref A_forces, .ref A_credits, .ref A_held, .ref A_cameAt, .ref A_farms, .ref A_sheriffs, .ref A_debts, .ref A_roll, .ref A_sticks, .ref A_table, .int self_now, .long self_chest, .long self_brought])), (A_tape, .inr (3, [.ref A_tape_bytes, .int y_7])), (A_tape_bytes, .inl (c 0, 800, .inl f_8))] := hD
    refine W.widen (k := 0) (n := 0) (by omega) (by omega) ?_
    refine lv_aload_n hx hb dX6_feed_23 rfl (lv_at hl 0 rfl) ?_
    refine va_get (D := D) (ci := 6) (v := .ref A_tape) (C := RX6) (T := TX6) (N := 18) hx hb hts (fun _ h => List.mem_cons_of_mem _ (List.mem_append_left _ (List.mem_append_right _ h))) hown hK hP 0 rfl rfl 0 (by decide) (hts (.fieldLink RX6 10 "CrownTable" "tape" "LCrownTable$Tape;") (mem_i 1 rfl)) (fun _ h9 => h9) rfl dX6_feed_24 ?_
    refine lv_iload_n hx hb dX6_feed_27 rfl (lv_at hl 2 rfl) ?_
    have hPc := hP.sub (ws' := [(A_tape, .inr (3, [.ref A_tape_bytes, .int y_7])), (A_tape_bytes, .inl (c 0, 800, .inl f_8))]) [1, 2] rfl
    have hDc := hD.sub (ws' := [(A_tape, .inr (3, [.ref A_tape_bytes, .int y_7])), (A_tape_bytes, .inl (c 0, 800, .inl f_8))]) [1, 2] (by decide) rfl
    have hFc := va_free (wc := [(A_tape, .inr (3, [.ref A_tape_bytes, .int y_7])), (A_tape_bytes, .inl (c 0, 800, .inl f_8))]) hD hS hA [1, 2] rfl
    refine va_callv (va_runVN (As := [.int a2]) (rest := []) ⟨hx, hb, hml, hown, hts⟩ (k_X3_addFour l D c ts H.size A_tape_bytes A_tape f_8 y_7 y_7.toInt rfl a2 i_a2 hi_a2 (by omega)) ⟨va_cnB 1 hts gX6_feed_X3_addFour_n91 rfl rfl rfl (show va_Nw (.methodLinkNest RX6 91 yX3_addFour RX6) _ from hAm.2.1.1 (RX6, 91, yX3_addFour, RX6) (mem_i 6 rfl)) (hts (.initialized RX3) (mem_i 3 rfl)) hdX3_addFour ⟨(show 1 + 1 ≤ 2 by decide), (show 8 + (3 + 11) + 21 ≤ 43 by decide)⟩, (hts (.instanceMethod yX3_addFour) (mem_i 7 rfl)), (hts (.selects RX3 yX3_addFour yX3_addFour) (mem_i 8 rfl))⟩ ⟨Pre0.blind, va_recv hK hPc (ci := 3) (q0 := 0) rfl rfl, Pre0.at hPc hDc hAm hSt hS hFc⟩ rfl rfl hl.1 rfl (lv_room (Nat.le_of_ble_eq_true rfl)) dX6_feed_28 ⟨(show 0 + 0 ≤ 0 by decide), (show 0 + 0 ≤ 0 by decide)⟩) hS (fun q _ h => hFc q h) hFc (fun u_11 t1 H locs ht hvm hw_9 hB_9 hz1_9 hk1_9 hS => ?_)
    obtain ⟨y_12, f_13, _⟩ := u_11
    have hw_9 : (0 ≤ y_12.toInt ∧ y_12.toInt ≤ 800) := hw_9
    obtain ⟨hP1_9, hD1_9⟩ := hB_9
    rw [ht] at hP1_9
    have hP1_9 : va_P D vwCl [(A_tape, .inr (3, [.ref A_tape_bytes, .int y_12])), (A_tape_bytes, .inl (c 0, 800, .inl f_13))] H := hP1_9
    obtain ⟨hP, hD⟩ := va_join (wr := [(A_self, .inr (6, [.ref A_tape, .ref A_reader, .ref A_weigher, .ref A_texts, .int self_textsRead, .ref A_forces, .ref A_credits, .ref A_held, .ref A_cameAt, .ref A_farms, .ref A_sheriffs, .ref A_debts, .ref A_roll, .ref A_sticks, .ref A_table, .int self_now, .long self_chest, .long self_brought]))]) (w1 := [(A_tape, .inr (3, [.ref A_tape_bytes, .int y_12])), (A_tape_bytes, .inl (c 0, 800, .inl f_13))]) hP hD [1, 2] [0] rfl rfl (by decide) (by decide) hk1_9 hFc hP1_9 hD1_9
    have hP : va_P D vwCl [(A_self, .inr (6, [.ref A_tape, .ref A_reader, .ref A_weigher, .ref A_texts, .int self_textsRead, .ref A_forces, .ref A_credits, .ref A_held, .ref A_cameAt, .ref A_farms, .ref A_sheriffs, .ref A_debts, .ref A_roll, .ref A_sticks, .ref A_table, .int self_now, .long self_chest, .long self_brought])), (A_tape, .inr (3, [.ref A_tape_bytes, .int y_12])), (A_tape_bytes, .inl (c 0, 800, .inl f_13))] H := hP
    have hD : va_D A [(A_self, .inr (6, [.ref A_tape, .ref A_reader, .ref A_weigher, .ref A_texts, .int self_textsRead, .ref A_forces, .ref A_credits, .ref A_held, .ref A_cameAt, .ref A_farms, .ref A_sheriffs, .ref A_debts, .ref A_roll, .ref A_sticks, .ref A_table, .int self_now, .long self_chest, .long self_brought])), (A_tape, .inr (3, [.ref A_tape_bytes, .int y_12])), (A_tape_bytes, .inl (c 0, 800, .inl f_13))] := hD
    refine W.widen (k := 0) (n := 0) (by omega) (by omega) ?_
    refine lv_aload_n hx hb dX6_feed_31 rfl (lv_at hl 0 rfl) ?_
    refine va_get (D := D) (ci := 6) (v := .ref A_tape) (C := RX6) (T := TX6) (N := 18) hx hb hts (fun _ h => List.mem_cons_of_mem _ (List.mem_append_left _ (List.mem_append_right _ h))) hown hK hP 0 rfl rfl 0 (by decide) (hts (.fieldLink RX6 10 "CrownTable" "tape" "LCrownTable$Tape;") (mem_i 1 rfl)) (fun _ h9 => h9) rfl dX6_feed_32 ?_
    refine lv_iload_n hx hb dX6_feed_35 rfl (lv_at hl 3 rfl) ?_
    have hPc := hP.sub (ws' := [(A_tape, .inr (3, [.ref A_tape_bytes, .int y_12])), (A_tape_bytes, .inl (c 0, 800, .inl f_13))]) [1, 2] rfl
    have hDc := hD.sub (ws' := [(A_tape, .inr (3, [.ref A_tape_bytes, .int y_12])), (A_tape_bytes, .inl (c 0, 800, .inl f_13))]) [1, 2] (by decide) rfl
    have hFc := va_free (wc := [(A_tape, .inr (3, [.ref A_tape_bytes, .int y_12])), (A_tape_bytes, .inl (c 0, 800, .inl f_13))]) hD hS hA [1, 2] rfl
    refine va_callv (va_runVN (As := [.int a3]) (rest := []) ⟨hx, hb, hml, hown, hts⟩ (k_X3_addFour l D c ts H.size A_tape_bytes A_tape f_13 y_12 y_12.toInt rfl a3 i_a3 hi_a3 (by omega)) ⟨va_cnB 1 hts gX6_feed_X3_addFour_n91 rfl rfl rfl (show va_Nw (.methodLinkNest RX6 91 yX3_addFour RX6) _ from hAm.2.1.1 (RX6, 91, yX3_addFour, RX6) (mem_i 6 rfl)) (hts (.initialized RX3) (mem_i 3 rfl)) hdX3_addFour ⟨(show 1 + 1 ≤ 2 by decide), (show 8 + (3 + 11) + 21 ≤ 43 by decide)⟩, (hts (.instanceMethod yX3_addFour) (mem_i 7 rfl)), (hts (.selects RX3 yX3_addFour yX3_addFour) (mem_i 8 rfl))⟩ ⟨Pre0.blind, va_recv hK hPc (ci := 3) (q0 := 0) rfl rfl, Pre0.at hPc hDc hAm hSt hS hFc⟩ rfl rfl hl.1 rfl (lv_room (Nat.le_of_ble_eq_true rfl)) dX6_feed_36 ⟨(show 0 + 0 ≤ 0 by decide), (show 0 + 0 ≤ 0 by decide)⟩) hS (fun q _ h => hFc q h) hFc (fun u_16 t1 H locs ht hvm hw_14 hB_9 hz1_9 hk1_9 hS => ?_)
    obtain ⟨y_17, f_18, _⟩ := u_16
    have hw_14 : (0 ≤ y_17.toInt ∧ y_17.toInt ≤ 800) := hw_14
    obtain ⟨hP1_9, hD1_9⟩ := hB_9
    rw [ht] at hP1_9
    have hP1_9 : va_P D vwCl [(A_tape, .inr (3, [.ref A_tape_bytes, .int y_17])), (A_tape_bytes, .inl (c 0, 800, .inl f_18))] H := hP1_9
    obtain ⟨hP, hD⟩ := va_join (wr := [(A_self, .inr (6, [.ref A_tape, .ref A_reader, .ref A_weigher, .ref A_texts, .int self_textsRead, .ref A_forces, .ref A_credits, .ref A_held, .ref A_cameAt, .ref A_farms, .ref A_sheriffs, .ref A_debts, .ref A_roll, .ref A_sticks, .ref A_table, .int self_now, .long self_chest, .long self_brought]))]) (w1 := [(A_tape, .inr (3, [.ref A_tape_bytes, .int y_17])), (A_tape_bytes, .inl (c 0, 800, .inl f_18))]) hP hD [1, 2] [0] rfl rfl (by decide) (by decide) hk1_9 hFc hP1_9 hD1_9
    have hP : va_P D vwCl [(A_self, .inr (6, [.ref A_tape, .ref A_reader, .ref A_weigher, .ref A_texts, .int self_textsRead, .ref A_forces, .ref A_credits, .ref A_held, .ref A_cameAt, .ref A_farms, .ref A_sheriffs, .ref A_debts, .ref A_roll, .ref A_sticks, .ref A_table, .int self_now, .long self_chest, .long self_brought])), (A_tape, .inr (3, [.ref A_tape_bytes, .int y_17])), (A_tape_bytes, .inl (c 0, 800, .inl f_18))] H := hP
    have hD : va_D A [(A_self, .inr (6, [.ref A_tape, .ref A_reader, .ref A_weigher, .ref A_texts, .int self_textsRead, .ref A_forces, .ref A_credits, .ref A_held, .ref A_cameAt, .ref A_farms, .ref A_sheriffs, .ref A_debts, .ref A_roll, .ref A_sticks, .ref A_table, .int self_now, .long self_chest, .long self_brought])), (A_tape, .inr (3, [.ref A_tape_bytes, .int y_17])), (A_tape_bytes, .inl (c 0, 800, .inl f_18))] := hD
    refine W.widen (k := 0) (n := 0) (by omega) (by omega) ?_
    refine lv_aload_n hx hb dX6_feed_39 rfl (lv_at hl 0 rfl) ?_
    refine va_get (D := D) (ci := 6) (v := .ref A_tape) (C := RX6) (T := TX6) (N := 18) hx hb hts (fun _ h => List.mem_cons_of_mem _ (List.mem_append_left _ (List.mem_append_right _ h))) hown hK hP 0 rfl rfl 0 (by decide) (hts (.fieldLink RX6 10 "CrownTable" "tape" "LCrownTable$Tape;") (mem_i 1 rfl)) (fun _ h9 => h9) rfl dX6_feed_40 ?_
    refine lv_iload hx hb dX6_feed_43 (lv_at hl 4 rfl) ?_
    have hPc := hP.sub (ws' := [(A_tape, .inr (3, [.ref A_tape_bytes, .int y_17])), (A_tape_bytes, .inl (c 0, 800, .inl f_18))]) [1, 2] rfl
    have hDc := hD.sub (ws' := [(A_tape, .inr (3, [.ref A_tape_bytes, .int y_17])), (A_tape_bytes, .inl (c 0, 800, .inl f_18))]) [1, 2] (by decide) rfl
    have hFc := va_free (wc := [(A_tape, .inr (3, [.ref A_tape_bytes, .int y_17])), (A_tape_bytes, .inl (c 0, 800, .inl f_18))]) hD hS hA [1, 2] rfl
    refine va_callv (va_runVN (As := [.int a4]) (rest := []) ⟨hx, hb, hml, hown, hts⟩ (k_X3_addFour l D c ts H.size A_tape_bytes A_tape f_18 y_17 y_17.toInt rfl a4 i_a4 hi_a4 (by omega)) ⟨va_cnB 1 hts gX6_feed_X3_addFour_n91 rfl rfl rfl (show va_Nw (.methodLinkNest RX6 91 yX3_addFour RX6) _ from hAm.2.1.1 (RX6, 91, yX3_addFour, RX6) (mem_i 6 rfl)) (hts (.initialized RX3) (mem_i 3 rfl)) hdX3_addFour ⟨(show 1 + 1 ≤ 2 by decide), (show 8 + (3 + 11) + 21 ≤ 43 by decide)⟩, (hts (.instanceMethod yX3_addFour) (mem_i 7 rfl)), (hts (.selects RX3 yX3_addFour yX3_addFour) (mem_i 8 rfl))⟩ ⟨Pre0.blind, va_recv hK hPc (ci := 3) (q0 := 0) rfl rfl, Pre0.at hPc hDc hAm hSt hS hFc⟩ rfl rfl hl.1 rfl (lv_room (Nat.le_of_ble_eq_true rfl)) dX6_feed_45 ⟨(show 0 + 0 ≤ 0 by decide), (show 0 + 0 ≤ 0 by decide)⟩) hS (fun q _ h => hFc q h) hFc (fun u_21 t1 H locs ht hvm hw_19 hB_9 hz1_9 hk1_9 hS => ?_)
    obtain ⟨y_22, f_23, _⟩ := u_21
    have hw_19 : (0 ≤ y_22.toInt ∧ y_22.toInt ≤ 800) := hw_19
    obtain ⟨hP1_9, hD1_9⟩ := hB_9
    rw [ht] at hP1_9
    have hP1_9 : va_P D vwCl [(A_tape, .inr (3, [.ref A_tape_bytes, .int y_22])), (A_tape_bytes, .inl (c 0, 800, .inl f_23))] H := hP1_9
    obtain ⟨hP, hD⟩ := va_join (wr := [(A_self, .inr (6, [.ref A_tape, .ref A_reader, .ref A_weigher, .ref A_texts, .int self_textsRead, .ref A_forces, .ref A_credits, .ref A_held, .ref A_cameAt, .ref A_farms, .ref A_sheriffs, .ref A_debts, .ref A_roll, .ref A_sticks, .ref A_table, .int self_now, .long self_chest, .long self_brought]))]) (w1 := [(A_tape, .inr (3, [.ref A_tape_bytes, .int y_22])), (A_tape_bytes, .inl (c 0, 800, .inl f_23))]) hP hD [1, 2] [0] rfl rfl (by decide) (by decide) hk1_9 hFc hP1_9 hD1_9
    have hP : va_P D vwCl [(A_self, .inr (6, [.ref A_tape, .ref A_reader, .ref A_weigher, .ref A_texts, .int self_textsRead, .ref A_forces, .ref A_credits, .ref A_held, .ref A_cameAt, .ref A_farms, .ref A_sheriffs, .ref A_debts, .ref A_roll, .ref A_sticks, .ref A_table, .int self_now, .long self_chest, .long self_brought])), (A_tape, .inr (3, [.ref A_tape_bytes, .int y_22])), (A_tape_bytes, .inl (c 0, 800, .inl f_23))] H := hP
    have hD : va_D A [(A_self, .inr (6, [.ref A_tape, .ref A_reader, .ref A_weigher, .ref A_texts, .int self_textsRead, .ref A_forces, .ref A_credits, .ref A_held, .ref A_cameAt, .ref A_farms, .ref A_sheriffs, .ref A_debts, .ref A_roll, .ref A_sticks, .ref A_table, .int self_now, .long self_chest, .long self_brought])), (A_tape, .inr (3, [.ref A_tape_bytes, .int y_22])), (A_tape_bytes, .inl (c 0, 800, .inl f_23))] := hD
    refine W.widen (k := 0) (n := 0) (by omega) (by omega) ?_
    refine lv_aload_n hx hb dX6_feed_48 rfl (lv_at hl 0 rfl) ?_
    refine va_get (D := D) (ci := 6) (v := .ref A_tape) (C := RX6) (T := TX6) (N := 18) hx hb hts (fun _ h => List.mem_cons_of_mem _ (List.mem_append_left _ (List.mem_append_right _ h))) hown hK hP 0 rfl rfl 0 (by decide) (hts (.fieldLink RX6 10 "CrownTable" "tape" "LCrownTable$Tape;") (mem_i 1 rfl)) (fun _ h9 => h9) rfl dX6_feed_49 ?_
    refine lv_iload hx hb dX6_feed_52 (lv_at hl 5 rfl) ?_
    have hPc := hP.sub (ws' := [(A_tape, .inr (3, [.ref A_tape_bytes, .int y_22])), (A_tape_bytes, .inl (c 0, 800, .inl f_23))]) [1, 2] rfl
    have hDc := hD.sub (ws' := [(A_tape, .inr (3, [.ref A_tape_bytes, .int y_22])), (A_tape_bytes, .inl (c 0, 800, .inl f_23))]) [1, 2] (by decide) rfl
    have hFc := va_free (wc := [(A_tape, .inr (3, [.ref A_tape_bytes, .int y_22])), (A_tape_bytes, .inl (c 0, 800, .inl f_23))]) hD hS hA [1, 2] rfl
    refine va_callv (va_runVN (As := [.int a5]) (rest := []) ⟨hx, hb, hml, hown, hts⟩ (k_X3_addFour l D c ts H.size A_tape_bytes A_tape f_23 y_22 y_22.toInt rfl a5 i_a5 hi_a5 (by omega)) ⟨va_cnB 1 hts gX6_feed_X3_addFour_n91 rfl rfl rfl (show va_Nw (.methodLinkNest RX6 91 yX3_addFour RX6) _ from hAm.2.1.1 (RX6, 91, yX3_addFour, RX6) (mem_i 6 rfl)) (hts (.initialized RX3) (mem_i 3 rfl)) hdX3_addFour ⟨(show 1 + 1 ≤ 2 by decide), (show 8 + (3 + 11) + 21 ≤ 43 by decide)⟩, (hts (.instanceMethod yX3_addFour) (mem_i 7 rfl)), (hts (.selects RX3 yX3_addFour yX3_addFour) (mem_i 8 rfl))⟩ ⟨Pre0.blind, va_recv hK hPc (ci := 3) (q0 := 0) rfl rfl, Pre0.at hPc hDc hAm hSt hS hFc⟩ rfl rfl hl.1 rfl (lv_room (Nat.le_of_ble_eq_true rfl)) dX6_feed_54 ⟨(show 0 + 0 ≤ 0 by decide), (show 0 + 0 ≤ 0 by decide)⟩) hS (fun q _ h => hFc q h) hFc (fun u_26 t1 H locs ht hvm hw_24 hB_9 hz1_9 hk1_9 hS => ?_)
    obtain ⟨y_27, f_28, _⟩ := u_26
    have hw_24 : (0 ≤ y_27.toInt ∧ y_27.toInt ≤ 800) := hw_24
    obtain ⟨hP1_9, hD1_9⟩ := hB_9
    rw [ht] at hP1_9
    have hP1_9 : va_P D vwCl [(A_tape, .inr (3, [.ref A_tape_bytes, .int y_27])), (A_tape_bytes, .inl (c 0, 800, .inl f_28))] H := hP1_9
    obtain ⟨hP, hD⟩ := va_join (wr := [(A_self, .inr (6, [.ref A_tape, .ref A_reader, .ref A_weigher, .ref A_texts, .int self_textsRead, .ref A_forces, .ref A_credits, .ref A_held, .ref A_cameAt, .ref A_farms, .ref A_sheriffs, .ref A_debts, .ref A_roll, .ref A_sticks, .ref A_table, .int self_now, .long self_chest, .long self_brought]))]) (w1 := [(A_tape, .inr (3, [.ref A_tape_bytes, .int y_27])), (A_tape_bytes, .inl (c 0, 800, .inl f_28))]) hP hD [1, 2] [0] rfl rfl (by decide) (by decide) hk1_9 hFc hP1_9 hD1_9
    have hP : va_P D vwCl [(A_self, .inr (6, [.ref A_tape, .ref A_reader, .ref A_weigher, .ref A_texts, .int self_textsRead, .ref A_forces, .ref A_credits, .ref A_held, .ref A_cameAt, .ref A_farms, .ref A_sheriffs, .ref A_debts, .ref A_roll, .ref A_sticks, .ref A_table, .int self_now, .long self_chest, .long self_brought])), (A_tape, .inr (3, [.ref A_tape_bytes, .int y_27])), (A_tape_bytes, .inl (c 0, 800, .inl f_28))] H := hP
    have hD : va_D A [(A_self, .inr (6, [.ref A_tape, .ref A_reader, .ref A_weigher, .ref A_texts, .int self_textsRead, .ref A_forces, .ref A_credits, .ref A_held, .ref A_cameAt, .ref A_farms, .ref A_sheriffs, .ref A_debts, .ref A_roll, .ref A_sticks, .ref A_table, .int self_now, .long self_chest, .long self_brought])), (A_tape, .inr (3, [.ref A_tape_bytes, .int y_27])), (A_tape_bytes, .inl (c 0, 800, .inl f_28))] := hD
    refine W.widen (k := 0) (n := 0) (by omega) (by omega) ?_
    refine lv_aload_n hx hb dX6_feed_57 rfl (lv_at hl 0 rfl) ?_
    refine va_get (D := D) (ci := 6) (v := .ref A_tape) (C := RX6) (T := TX6) (N := 18) hx hb hts (fun _ h => List.mem_cons_of_mem _ (List.mem_append_left _ (List.mem_append_right _ h))) hown hK hP 0 rfl rfl 0 (by decide) (hts (.fieldLink RX6 10 "CrownTable" "tape" "LCrownTable$Tape;") (mem_i 1 rfl)) (fun _ h9 => h9) rfl dX6_feed_58 ?_
    refine va_getN (D := D) (ci := 3) (v := .int y_27) (own := RX6) (ref := "CrownTable$Tape") (host := RX6) (index := 95) (C := RX3) (T := TX3) (N := 2) hx hb hts (fun _ h => List.mem_cons_of_mem _ (List.mem_append_right _ h)) hown hK hP 1 rfl rfl 1 (by decide) (show (Cond.fieldLinkNest RX6 95 "CrownTable$Tape" "length" "I" RX6).before _ _ = true from va_Nw.use rfl (hAm.2.1.2 (RX6, 95, "CrownTable$Tape", "length", "I", RX6) (mem_i 0 rfl))) (fun _ h9 => h9) rfl dX6_feed_61 ?_
    have hP9 := hP.sub (ws' := [(A_self, .inr (6, [.ref A_tape, .ref A_reader, .ref A_weigher, .ref A_texts, .int self_textsRead, .ref A_forces, .ref A_credits, .ref A_held, .ref A_cameAt, .ref A_farms, .ref A_sheriffs, .ref A_debts, .ref A_roll, .ref A_sticks, .ref A_table, .int self_now, .long self_chest, .long self_brought])), (A_tape, .inr (3, [.ref A_tape_bytes, .int y_27])), (A_tape_bytes, .inl (c 0, 800, .inl f_28))]) [0, 1, 2] rfl
    have hD9 := hD.sub (ws' := [(A_self, .inr (6, [.ref A_tape, .ref A_reader, .ref A_weigher, .ref A_texts, .int self_textsRead, .ref A_forces, .ref A_credits, .ref A_held, .ref A_cameAt, .ref A_farms, .ref A_sheriffs, .ref A_debts, .ref A_roll, .ref A_sticks, .ref A_table, .int self_now, .long self_chest, .long self_brought])), (A_tape, .inr (3, [.ref A_tape_bytes, .int y_27])), (A_tape_bytes, .inl (c 0, 800, .inl f_28))]) [0, 1, 2] (by decide) rfl
    refine W.widen (k := 0) (n := 0) (by omega) (by omega) ?_
    exact W.iret (v := y_27) hx hb hr (fun t ht hW => ⟨⟨_, (y_27, f_28, ()), rfl, (show 0 ≤ y_27.toInt ∧ y_27.toInt ≤ 800 by omega), ⟨by rw [ht]; exact hP9, hD9⟩⟩, hS.F ht⟩) hS.2.2 dX6_feed_64
  · skip
    refine iif_neF (a := 0) (tgt := 15) hx hb (by decide) dX6_feed_9 (by decide) (by decide) ?_
    refine lv_bipush (v := (-3)) hx hb dX6_feed_12 (by decide) ?_
    have kzz_29 : ((-3) : Int32).toInt = (-3) := by decide
    have hP9 := hP.sub (ws' := [(A_self, .inr (6, [.ref A_tape, .ref A_reader, .ref A_weigher, .ref A_texts, .int self_textsRead, .ref A_forces, .ref A_credits, .ref A_held, .ref A_cameAt, .ref A_farms, .ref A_sheriffs, .ref A_debts, .ref A_roll, .ref A_sticks, .ref A_table, .int self_now, .long self_chest, .long self_brought])), (A_tape, .inr (3, [.ref A_tape_bytes, .int tape_length])), (A_tape_bytes, .inl (c 0, 800, .inl f_tape_bytes))]) [0, 1, 2] rfl
    have hD9 := hD.sub (ws' := [(A_self, .inr (6, [.ref A_tape, .ref A_reader, .ref A_weigher, .ref A_texts, .int self_textsRead, .ref A_forces, .ref A_credits, .ref A_held, .ref A_cameAt, .ref A_farms, .ref A_sheriffs, .ref A_debts, .ref A_roll, .ref A_sticks, .ref A_table, .int self_now, .long self_chest, .long self_brought])), (A_tape, .inr (3, [.ref A_tape_bytes, .int tape_length])), (A_tape_bytes, .inl (c 0, 800, .inl f_tape_bytes))]) [0, 1, 2] (by decide) rfl
    refine W.widen (k := 0) (n := 0) (by omega) (by omega) ?_
    exact W.iret (v := (-3)) hx hb hr (fun t ht hW => ⟨⟨_, (tape_length, f_tape_bytes, ()), rfl, (show 0 ≤ tape_length.toInt ∧ tape_length.toInt ≤ 800 by omega), ⟨by rw [ht]; exact hP9, hD9⟩⟩, hS.F ht⟩) hS.2.2 dX6_feed_14

set_option maxHeartbeats 4000000 in
set_option maxRecDepth 100000 in
theorem k_X6_end (l : Launch) (D : va_G) (c : Nat → ClassId) (ts : Nat × Nat) (sz : Nat) (A_tape : Nat) (A_reader : Nat) (A_weigher : Nat) (A_texts : Nat) (A_forces : Nat) (A_credits : Nat) (A_held : Nat) (A_cameAt : Nat) (A_farms : Nat) (A_sheriffs : Nat) (A_debts : Nat) (A_roll : Nat) (A_sticks : Nat) (A_table : Nat) (A_self : Nat) (A_tape_bytes : Nat) (self_textsRead : Int32) (i_self_textsRead : Int) (hi_self_textsRead : self_textsRead.toInt = i_self_textsRead) (self_now : Int32) (i_self_now : Int) (hi_self_now : self_now.toInt = i_self_now) (tape_length : Int32) (i_tape_length : Int) (hi_tape_length : tape_length.toInt = i_tape_length) (a1 : Int32) (i_a1 : Int) (hi_a1 : a1.toInt = i_a1) (self_chest : Int64) (self_brought : Int64) (hv_self_textsRead : 0 ≤ i_self_textsRead ∧ i_self_textsRead ≤ 10) (hv_self_now : 0 ≤ i_self_now ∧ i_self_now ≤ 1000) (hv_tape_length : 0 ≤ i_tape_length ∧ i_tape_length ≤ 800) : Met l yX6_end wsX6_end ({ frames := 0, cells := 0, slots := 0, locals := 0 }) (va_Pc [.ref A_self, .int a1] (Pre0 D c ts [(A_self, .inr (6, [.ref A_tape, .ref A_reader, .ref A_weigher, .ref A_texts, .int self_textsRead, .ref A_forces, .ref A_credits, .ref A_held, .ref A_cameAt, .ref A_farms, .ref A_sheriffs, .ref A_debts, .ref A_roll, .ref A_sticks, .ref A_table, .int self_now, .long self_chest, .long self_brought])), (A_tape, .inr (3, [.ref A_tape_bytes, .int tape_length]))] sz)) (va_Qi (fun (r : Int32) (u : Int32 × Unit) => (0 ≤ u.1.toInt ∧ u.1.toInt ≤ 800)) (fun u t => va_P D vwCl [(A_self, .inr (6, [.ref A_tape, .ref A_reader, .ref A_weigher, .ref A_texts, .int self_textsRead, .ref A_forces, .ref A_credits, .ref A_held, .ref A_cameAt, .ref A_farms, .ref A_sheriffs, .ref A_debts, .ref A_roll, .ref A_sticks, .ref A_table, .int self_now, .long self_chest, .long self_brought])), (A_tape, .inr (3, [.ref A_tape_bytes, .int u.1]))] t.heap ∧ va_D (va_A [(A_self, .inr (6, [.ref A_tape, .ref A_reader, .ref A_weigher, .ref A_texts, .int self_textsRead, .ref A_forces, .ref A_credits, .ref A_held, .ref A_cameAt, .ref A_farms, .ref A_sheriffs, .ref A_debts, .ref A_roll, .ref A_sticks, .ref A_table, .int self_now, .long self_chest, .long self_brought])), (A_tape, .inr (3, [.ref A_tape_bytes, .int tape_length]))] sz) [(A_self, .inr (6, [.ref A_tape, .ref A_reader, .ref A_weigher, .ref A_texts, .int self_textsRead, .ref A_forces, .ref A_credits, .ref A_held, .ref A_cameAt, .ref A_farms, .ref A_sheriffs, .ref A_debts, .ref A_roll, .ref A_sticks, .ref A_table, .int self_now, .long self_chest, .long self_brought])), (A_tape, .inr (3, [.ref A_tape_bytes, .int u.1]))]) (va_A [(A_self, .inr (6, [.ref A_tape, .ref A_reader, .ref A_weigher, .ref A_texts, .int self_textsRead, .ref A_forces, .ref A_credits, .ref A_held, .ref A_cameAt, .ref A_farms, .ref A_sheriffs, .ref A_debts, .ref A_roll, .ref A_sticks, .ref A_table, .int self_now, .long self_chest, .long self_brought])), (A_tape, .inr (3, [.ref A_tape_bytes, .int tape_length]))] sz)) 0 0 (va_A [(A_self, .inr (6, [.ref A_tape, .ref A_reader, .ref A_weigher, .ref A_texts, .int self_textsRead, .ref A_forces, .ref A_credits, .ref A_held, .ref A_cameAt, .ref A_farms, .ref A_sheriffs, .ref A_debts, .ref A_roll, .ref A_sticks, .ref A_table, .int self_now, .long self_chest, .long self_brought])), (A_tape, .inr (3, [.ref A_tape_bytes, .int tape_length]))] sz) := by
  refine Met.ofW (cc := cX6_end) (maxL := 2) (ret := (some .int)) (by decide) rfl ?_
  intro p e s m args below meth cd s₁ B hml hv
  obtain ⟨rfl, hsz, hP, hD0, hAm, hSt⟩ := hv
  have hx := B.exec
  have hb := B.bytes
  have hr := B.returns
  have hts := atoms_spec (ws := wsX6_end) B.pre
  have hown : s.vm.findClass RX6 = some m.cls := findClass_of_methodNamed B.named
  have hlocks := B.notSynchronized
  have hK := hAm.1
  subst hsz
  have hD := hD0.self (sz := s.heap.size)
  generalize hAe : va_A [(A_self, .inr (6, [.ref A_tape, .ref A_reader, .ref A_weigher, .ref A_texts, .int self_textsRead, .ref A_forces, .ref A_credits, .ref A_held, .ref A_cameAt, .ref A_farms, .ref A_sheriffs, .ref A_debts, .ref A_roll, .ref A_sticks, .ref A_table, .int self_now, .long self_chest, .long self_brought])), (A_tape, .inr (3, [.ref A_tape_bytes, .int tape_length]))] s.heap.size = A at hD hSt ⊢
  have hA : ∀ q : Nat, s.heap.size ≤ q → A q := fun q h => by rw [← hAe]; exact Or.inr h
  have hS : va_S A s.heap s.heap [] := va_S.rf
  clear hD0 hAe
  have hl := lv_entry ([.ref A_self, .int a1]) (n := 2) (Nat.le_of_ble_eq_true rfl)
  rw [lg_entry_eq]
  generalize (lg_sl ([.ref A_self, .int a1]) ++ List.replicate (2 - (lg_sl ([.ref A_self, .int a1])).length) Slot.unset).toArray = ls at hl ⊢
  have hl : lv_has ls 2 [(0, .ref A_self), (1, .int a1)] := hl
  have rg_a1 := i32r a1
  refine lv_iload_n hx hb dX6_end_0 rfl (lv_at hl 1 rfl) ?_
  refine iif_lt (a := i_a1) (tgt := 15) hx hb hi_a1 dX6_end_1 (by decide) (fun k_1 => ?_) (fun k_1 => ?_)
  · skip
    refine lv_iconst (v := (-1)) hx hb dX6_end_15 (by decide) ?_
    have kzz_2 : ((-1) : Int32).toInt = (-1) := by decide
    have hP9 := hP.sub (ws' := [(A_self, .inr (6, [.ref A_tape, .ref A_reader, .ref A_weigher, .ref A_texts, .int self_textsRead, .ref A_forces, .ref A_credits, .ref A_held, .ref A_cameAt, .ref A_farms, .ref A_sheriffs, .ref A_debts, .ref A_roll, .ref A_sticks, .ref A_table, .int self_now, .long self_chest, .long self_brought])), (A_tape, .inr (3, [.ref A_tape_bytes, .int tape_length]))]) [0, 1] rfl
    have hD9 := hD.sub (ws' := [(A_self, .inr (6, [.ref A_tape, .ref A_reader, .ref A_weigher, .ref A_texts, .int self_textsRead, .ref A_forces, .ref A_credits, .ref A_held, .ref A_cameAt, .ref A_farms, .ref A_sheriffs, .ref A_debts, .ref A_roll, .ref A_sticks, .ref A_table, .int self_now, .long self_chest, .long self_brought])), (A_tape, .inr (3, [.ref A_tape_bytes, .int tape_length]))]) [0, 1] (by decide) rfl
    refine W.widen (k := 0) (n := 0) (by omega) (by omega) ?_
    exact W.iret (v := (-1)) hx hb hr (fun t ht hW => ⟨⟨_, (tape_length, ()), rfl, (show 0 ≤ tape_length.toInt ∧ tape_length.toInt ≤ 800 by omega), ⟨by rw [ht]; exact hP9, hD9⟩⟩, hS.F ht⟩) hS.2.2 dX6_end_16
  · skip
    refine lv_iload_n hx hb dX6_end_4 rfl (lv_at hl 1 rfl) ?_
    refine lv_aload_n hx hb dX6_end_5 rfl (lv_at hl 0 rfl) ?_
    refine va_get (D := D) (ci := 6) (v := .ref A_tape) (C := RX6) (T := TX6) (N := 18) hx hb hts (fun _ h => List.mem_cons_of_mem _ (List.mem_append_left _ (List.mem_append_right _ h))) hown hK hP 0 rfl rfl 0 (by decide) (hts (.fieldLink RX6 10 "CrownTable" "tape" "LCrownTable$Tape;") (mem_i 1 rfl)) (fun _ h9 => h9) rfl dX6_end_6 ?_
    refine va_getN (D := D) (ci := 3) (v := .int tape_length) (own := RX6) (ref := "CrownTable$Tape") (host := RX6) (index := 95) (C := RX3) (T := TX3) (N := 2) hx hb hts (fun _ h => List.mem_cons_of_mem _ (List.mem_append_right _ h)) hown hK hP 1 rfl rfl 1 (by decide) (show (Cond.fieldLinkNest RX6 95 "CrownTable$Tape" "length" "I" RX6).before _ _ = true from va_Nw.use rfl (hAm.2.1.2 (RX6, 95, "CrownTable$Tape", "length", "I", RX6) (mem_i 0 rfl))) (fun _ h9 => h9) rfl dX6_end_9 ?_
    refine iicmp_le (a := i_a1) (b := i_tape_length) (tgt := 17) hx hb hi_a1 hi_tape_length dX6_end_12 (by decide) (fun k_3 => ?_) (fun k_3 => ?_)
    · skip
      refine lv_aload_n hx hb dX6_end_17 rfl (lv_at hl 0 rfl) ?_
      refine va_get (D := D) (ci := 6) (v := .ref A_tape) (C := RX6) (T := TX6) (N := 18) hx hb hts (fun _ h => List.mem_cons_of_mem _ (List.mem_append_left _ (List.mem_append_right _ h))) hown hK hP 0 rfl rfl 0 (by decide) (hts (.fieldLink RX6 10 "CrownTable" "tape" "LCrownTable$Tape;") (mem_i 1 rfl)) (fun _ h9 => h9) rfl dX6_end_18 ?_
      refine lv_iload_n hx hb dX6_end_21 rfl (lv_at hl 1 rfl) ?_
      refine va_putN (D := D) (ci := 3) (v := .int a1) (ty := .int) (own := RX6) (ref := "CrownTable$Tape") (host := RX6) (index := 95) (C := RX3) (T := TX3) (N := 2) hx hb hts (fun _ h => List.mem_cons_of_mem _ (List.mem_append_right _ h)) tyX3 tyX3_ok nmX3 hown hK hP hD hS 1 rfl rfl 1 (by decide) (show (Cond.fieldLinkNest RX6 95 "CrownTable$Tape" "length" "I" RX6).before _ _ = true from va_Nw.use rfl (hAm.2.1.2 (RX6, 95, "CrownTable$Tape", "length", "I", RX6) (mem_i 0 rfl))) (fun _ h9 => h9) rfl (by decide +kernel) rfl rfl (Nat.le_of_ble_eq_true rfl) dX6_end_22 (fun H locs hP hD hS => ?_)
      have hP : va_P D vwCl [(A_self, .inr (6, [.ref A_tape, .ref A_reader, .ref A_weigher, .ref A_texts, .int self_textsRead, .ref A_forces, .ref A_credits, .ref A_held, .ref A_cameAt, .ref A_farms, .ref A_sheriffs, .ref A_debts, .ref A_roll, .ref A_sticks, .ref A_table, .int self_now, .long self_chest, .long self_brought])), (A_tape, .inr (3, [.ref A_tape_bytes, .int a1]))] H := hP
      have hD : va_D A [(A_self, .inr (6, [.ref A_tape, .ref A_reader, .ref A_weigher, .ref A_texts, .int self_textsRead, .ref A_forces, .ref A_credits, .ref A_held, .ref A_cameAt, .ref A_farms, .ref A_sheriffs, .ref A_debts, .ref A_roll, .ref A_sticks, .ref A_table, .int self_now, .long self_chest, .long self_brought])), (A_tape, .inr (3, [.ref A_tape_bytes, .int a1]))] := hD
      refine lv_iload_n hx hb dX6_end_25 rfl (lv_at hl 1 rfl) ?_
      have hP9 := hP.sub (ws' := [(A_self, .inr (6, [.ref A_tape, .ref A_reader, .ref A_weigher, .ref A_texts, .int self_textsRead, .ref A_forces, .ref A_credits, .ref A_held, .ref A_cameAt, .ref A_farms, .ref A_sheriffs, .ref A_debts, .ref A_roll, .ref A_sticks, .ref A_table, .int self_now, .long self_chest, .long self_brought])), (A_tape, .inr (3, [.ref A_tape_bytes, .int a1]))]) [0, 1] rfl
      have hD9 := hD.sub (ws' := [(A_self, .inr (6, [.ref A_tape, .ref A_reader, .ref A_weigher, .ref A_texts, .int self_textsRead, .ref A_forces, .ref A_credits, .ref A_held, .ref A_cameAt, .ref A_farms, .ref A_sheriffs, .ref A_debts, .ref A_roll, .ref A_sticks, .ref A_table, .int self_now, .long self_chest, .long self_brought])), (A_tape, .inr (3, [.ref A_tape_bytes, .int a1]))]) [0, 1] (by decide) rfl
      refine W.widen (k := 0) (n := 0) (by omega) (by omega) ?_
      exact W.iret (v := a1) hx hb hr (fun t ht hW => ⟨⟨_, (a1, ()), rfl, (show 0 ≤ a1.toInt ∧ a1.toInt ≤ 800 by omega), ⟨by rw [ht]; exact hP9, hD9⟩⟩, hS.F ht⟩) hS.2.2 dX6_end_26
    · skip
      refine lv_iconst (v := (-1)) hx hb dX6_end_15 (by decide) ?_
      have kzz_4 : ((-1) : Int32).toInt = (-1) := by decide
      have hP9 := hP.sub (ws' := [(A_self, .inr (6, [.ref A_tape, .ref A_reader, .ref A_weigher, .ref A_texts, .int self_textsRead, .ref A_forces, .ref A_credits, .ref A_held, .ref A_cameAt, .ref A_farms, .ref A_sheriffs, .ref A_debts, .ref A_roll, .ref A_sticks, .ref A_table, .int self_now, .long self_chest, .long self_brought])), (A_tape, .inr (3, [.ref A_tape_bytes, .int tape_length]))]) [0, 1] rfl
      have hD9 := hD.sub (ws' := [(A_self, .inr (6, [.ref A_tape, .ref A_reader, .ref A_weigher, .ref A_texts, .int self_textsRead, .ref A_forces, .ref A_credits, .ref A_held, .ref A_cameAt, .ref A_farms, .ref A_sheriffs, .ref A_debts, .ref A_roll, .ref A_sticks, .ref A_table, .int self_now, .long self_chest, .long self_brought])), (A_tape, .inr (3, [.ref A_tape_bytes, .int tape_length]))]) [0, 1] (by decide) rfl
      refine W.widen (k := 0) (n := 0) (by omega) (by omega) ?_
      exact W.iret (v := (-1)) hx hb hr (fun t ht hW => ⟨⟨_, (tape_length, ()), rfl, (show 0 ≤ tape_length.toInt ∧ tape_length.toInt ≤ 800 by omega), ⟨by rw [ht]; exact hP9, hD9⟩⟩, hS.F ht⟩) hS.2.2 dX6_end_16

set_option maxHeartbeats 4000000 in
set_option maxRecDepth 100000 in
theorem k_X6_textOf (l : Launch) (D : va_G) (c : Nat → ClassId) (ts : Nat × Nat) (sz : Nat) (A_tape : Nat) (A_reader : Nat) (A_weigher : Nat) (A_texts : Nat) (A_forces : Nat) (A_credits : Nat) (A_held : Nat) (A_cameAt : Nat) (A_farms : Nat) (A_sheriffs : Nat) (A_debts : Nat) (A_roll : Nat) (A_sticks : Nat) (A_table : Nat) (A_self : Nat) (f_texts : Nat → Option Nat) (self_textsRead : Int32) (i_self_textsRead : Int) (hi_self_textsRead : self_textsRead.toInt = i_self_textsRead) (self_now : Int32) (i_self_now : Int) (hi_self_now : self_now.toInt = i_self_now) (a1 : Int32) (i_a1 : Int) (hi_a1 : a1.toInt = i_a1) (self_chest : Int64) (self_brought : Int64) (hv_self_textsRead : 0 ≤ i_self_textsRead ∧ i_self_textsRead ≤ 10) (hv_self_now : 0 ≤ i_self_now ∧ i_self_now ≤ 1000) : Met l yX6_textOf wsX6_textOf ({ frames := 0, cells := 0, slots := 0, locals := 0 }) (va_Pc [.ref A_self, .int a1] (Pre0 D c ts [(A_self, .inr (6, [.ref A_tape, .ref A_reader, .ref A_weigher, .ref A_texts, .int self_textsRead, .ref A_forces, .ref A_credits, .ref A_held, .ref A_cameAt, .ref A_farms, .ref A_sheriffs, .ref A_debts, .ref A_roll, .ref A_sticks, .ref A_table, .int self_now, .long self_chest, .long self_brought])), (A_texts, .inl (c 4, 10, .inr (.inr (.inr (.inr f_texts)))))] sz)) (va_Sq (fun r : Option Nat => (r = none ∨ ∃ j : Nat, f_texts j = r))) 0 0 (fun _ => False) := by
  refine Met.ofW (cc := cX6_textOf) (maxL := 2) (ret := (some (.object "CrownTable$Text"))) (by decide) rfl ?_
  intro p e s m args below meth cd s₁ B hml hv
  obtain ⟨rfl, hsz, hP, hD0, hAm, hSt⟩ := hv
  have hx := B.exec
  have hb := B.bytes
  have hr := B.returns
  have hts := atoms_spec (ws := wsX6_textOf) B.pre
  have hown : s.vm.findClass RX6 = some m.cls := findClass_of_methodNamed B.named
  have hlocks := B.notSynchronized
  have hK := hAm.1
  subst hsz
  have hD := hD0.self (sz := s.heap.size)
  generalize hAe : va_A [(A_self, .inr (6, [.ref A_tape, .ref A_reader, .ref A_weigher, .ref A_texts, .int self_textsRead, .ref A_forces, .ref A_credits, .ref A_held, .ref A_cameAt, .ref A_farms, .ref A_sheriffs, .ref A_debts, .ref A_roll, .ref A_sticks, .ref A_table, .int self_now, .long self_chest, .long self_brought])), (A_texts, .inl (c 4, 10, .inr (.inr (.inr (.inr f_texts)))))] s.heap.size = A at hD hSt
  have hA : ∀ q : Nat, s.heap.size ≤ q → A q := fun q h => by rw [← hAe]; exact Or.inr h
  have hS : va_S A s.heap s.heap [] := va_S.rf
  clear hD0 hAe
  have hl := lv_entry ([.ref A_self, .int a1]) (n := 2) (Nat.le_of_ble_eq_true rfl)
  rw [lg_entry_eq]
  generalize (lg_sl ([.ref A_self, .int a1]) ++ List.replicate (2 - (lg_sl ([.ref A_self, .int a1])).length) Slot.unset).toArray = ls at hl ⊢
  have hl : lv_has ls 2 [(0, .ref A_self), (1, .int a1)] := hl
  have rg_a1 := i32r a1
  refine lv_iload_n hx hb dX6_textOf_0 rfl (lv_at hl 1 rfl) ?_
  refine iif_lt (a := i_a1) (tgt := 21) hx hb hi_a1 dX6_textOf_1 (by decide) (fun k_1 => ?_) (fun k_1 => ?_)
  · skip
    refine lv_null hx hb dX6_textOf_21 ?_
    refine lv_goto (tgt := 31) hx hb dX6_textOf_22 (by decide) ?_
    exact W.aret (v := .null) hx hb hr (Or.inl ⟨_, rfl⟩) (Or.inl rfl) (fun t ht hW => ⟨none, rfl, Or.inl rfl, ht⟩) (fun _ h => by cases h) dX6_textOf_31
  · skip
    refine lv_iload_n hx hb dX6_textOf_4 rfl (lv_at hl 1 rfl) ?_
    refine lv_aload_n hx hb dX6_textOf_5 rfl (lv_at hl 0 rfl) ?_
    refine va_get (D := D) (ci := 6) (v := .int self_textsRead) (C := RX6) (T := TX6) (N := 18) hx hb hts (fun _ h => List.mem_cons_of_mem _ (List.mem_append_right _ h)) hown hK hP 0 rfl rfl 4 (by decide) (hts (.fieldLink RX6 99 "CrownTable" "textsRead" "I") (mem_i 1 rfl)) (fun _ h9 => h9) rfl dX6_textOf_6 ?_
    refine iicmp_ge (a := i_a1) (b := i_self_textsRead) (tgt := 21) hx hb hi_a1 hi_self_textsRead dX6_textOf_9 (by decide) (fun k_2 => ?_) (fun k_2 => ?_)
    · skip
      refine lv_null hx hb dX6_textOf_21 ?_
      refine lv_goto (tgt := 31) hx hb dX6_textOf_22 (by decide) ?_
      exact W.aret (v := .null) hx hb hr (Or.inl ⟨_, rfl⟩) (Or.inl rfl) (fun t ht hW => ⟨none, rfl, Or.inl rfl, ht⟩) (fun _ h => by cases h) dX6_textOf_31
    · skip
      refine lv_iload_n hx hb dX6_textOf_12 rfl (lv_at hl 1 rfl) ?_
      refine lv_aload_n hx hb dX6_textOf_13 rfl (lv_at hl 0 rfl) ?_
      refine va_get (D := D) (ci := 6) (v := .ref A_texts) (C := RX6) (T := TX6) (N := 18) hx hb hts (fun _ h => List.mem_cons_of_mem _ (List.mem_append_right _ h)) hown hK hP 0 rfl rfl 3 (by decide) (hts (.fieldLink RX6 34 "CrownTable" "texts" "[LCrownTable$Text;") (mem_i 2 rfl)) (fun _ h9 => h9) rfl dX6_textOf_14 ?_
      refine va_alen (v := 10) hx hb hK hP 1 4 rfl rfl (show Int32.ofNat 10 = 10 by decide) dX6_textOf_17 ?_
      refine iicmp_ltT (a := i_a1) (b := 10) (tgt := 25) hx hb hi_a1 (by decide) dX6_textOf_18 (by decide) (by omega) ?_
      refine lv_aload_n hx hb dX6_textOf_25 rfl (lv_at hl 0 rfl) ?_
      refine va_get (D := D) (ci := 6) (v := .ref A_texts) (C := RX6) (T := TX6) (N := 18) hx hb hts (fun _ h => List.mem_cons_of_mem _ (List.mem_append_right _ h)) hown hK hP 0 rfl rfl 3 (by decide) (hts (.fieldLink RX6 34 "CrownTable" "texts" "[LCrownTable$Text;") (mem_i 2 rfl)) (fun _ h9 => h9) rfl dX6_textOf_26 ?_
      refine lv_iload_n hx hb dX6_textOf_29 rfl (lv_at hl 1 rfl) ?_
      refine va_aldq hx hb hK hP 1 4 rfl rfl (vin (a := i_a1) hi_a1 (by omega) (by omega)) dX6_textOf_30 ?_
      obtain ⟨o_3, eo_3⟩ : ∃ o_3 : Option Nat, f_texts a1.toNatClampNeg = o_3 := ⟨_, rfl⟩
      refine lk_q (y := o_3) eo_3 ?_
      exact W.aret (v := va_rf o_3) hx hb hr (Or.inl ⟨_, rfl⟩) (va_rf_or _) (fun t ht hW => ⟨_, rfl, Or.inr ⟨_, eo_3⟩, ht⟩) (fun _ h => by cases h) dX6_textOf_31

set_option maxHeartbeats 4000000 in
set_option maxRecDepth 100000 in
theorem k_X6_statements (l : Launch) (D : va_G) (c : Nat → ClassId) (ts : Nat × Nat) (sz : Nat) (A_tape : Nat) (A_reader : Nat) (A_weigher : Nat) (A_texts : Nat) (A_forces : Nat) (A_credits : Nat) (A_held : Nat) (A_cameAt : Nat) (A_farms : Nat) (A_sheriffs : Nat) (A_debts : Nat) (A_roll : Nat) (A_sticks : Nat) (A_table : Nat) (A_self : Nat) (f_texts : Nat → Option Nat) (self_textsRead : Int32) (i_self_textsRead : Int) (hi_self_textsRead : self_textsRead.toInt = i_self_textsRead) (self_now : Int32) (i_self_now : Int) (hi_self_now : self_now.toInt = i_self_now) (a1 : Int32) (i_a1 : Int) (hi_a1 : a1.toInt = i_a1) (self_chest : Int64) (self_brought : Int64) (hv_self_textsRead : 0 ≤ i_self_textsRead ∧ i_self_textsRead ≤ 10) (hv_self_now : 0 ≤ i_self_now ∧ i_self_now ≤ 1000) : Met l yX6_statements wsX6_statements ({ frames := 1, cells := 0, slots := 0, locals := 21 }) (va_Pc [.ref A_self, .int a1] (PreT D c ts [(A_self, .inr (6, [.ref A_tape, .ref A_reader, .ref A_weigher, .ref A_texts, .int self_textsRead, .ref A_forces, .ref A_credits, .ref A_held, .ref A_cameAt, .ref A_farms, .ref A_sheriffs, .ref A_debts, .ref A_roll, .ref A_sticks, .ref A_table, .int self_now, .long self_chest, .long self_brought])), (A_texts, .inl (c 4, 10, .inr (.inr (.inr (.inr f_texts)))))] f_texts sz)) (vp_Si (fun r : Int32 => True)) 0 0 (fun _ => False) := by
  refine Met.ofW (cc := cX6_statements) (maxL := 3) (ret := (some .int)) (by decide) rfl ?_
  intro p e s m args below meth cd s₁ B hml hv
  obtain ⟨rfl, ⟨hsz, hP, hD0, hAm, hSt⟩, hTX⟩ := hv
  have hx := B.exec
  have hb := B.bytes
  have hr := B.returns
  have hts := atoms_spec (ws := wsX6_statements) B.pre
  have hown : s.vm.findClass RX6 = some m.cls := findClass_of_methodNamed B.named
  have hlocks := B.notSynchronized
  have hK := hAm.1
  subst hsz
  have hD := hD0.self (sz := s.heap.size)
  generalize hAe : va_A [(A_self, .inr (6, [.ref A_tape, .ref A_reader, .ref A_weigher, .ref A_texts, .int self_textsRead, .ref A_forces, .ref A_credits, .ref A_held, .ref A_cameAt, .ref A_farms, .ref A_sheriffs, .ref A_debts, .ref A_roll, .ref A_sticks, .ref A_table, .int self_now, .long self_chest, .long self_brought])), (A_texts, .inl (c 4, 10, .inr (.inr (.inr (.inr f_texts)))))] s.heap.size = A at hD hSt hTX
  have hA : ∀ q : Nat, s.heap.size ≤ q → A q := fun q h => by rw [← hAe]; exact Or.inr h
  have hS : va_S A s.heap s.heap [] := va_S.rf
  clear hD0 hAe
  have hl := lv_entry ([.ref A_self, .int a1]) (n := 3) (Nat.le_of_ble_eq_true rfl)
  rw [lg_entry_eq]
  generalize (lg_sl ([.ref A_self, .int a1]) ++ List.replicate (3 - (lg_sl ([.ref A_self, .int a1])).length) Slot.unset).toArray = ls at hl ⊢
  have hl : lv_has ls 3 [(0, .ref A_self), (1, .int a1)] := hl
  have rg_a1 := i32r a1
  refine lv_aload_n hx hb dX6_statements_0 rfl (lv_at hl 0 rfl) ?_
  refine lv_iload_n hx hb dX6_statements_1 rfl (lv_at hl 1 rfl) ?_
  have hPc := hP.sub (ws' := [(A_self, .inr (6, [.ref A_tape, .ref A_reader, .ref A_weigher, .ref A_texts, .int self_textsRead, .ref A_forces, .ref A_credits, .ref A_held, .ref A_cameAt, .ref A_farms, .ref A_sheriffs, .ref A_debts, .ref A_roll, .ref A_sticks, .ref A_table, .int self_now, .long self_chest, .long self_brought])), (A_texts, .inl (c 4, 10, .inr (.inr (.inr (.inr f_texts)))))]) [0, 1] rfl
  have hDc := hD.sub (ws' := [(A_self, .inr (6, [.ref A_tape, .ref A_reader, .ref A_weigher, .ref A_texts, .int self_textsRead, .ref A_forces, .ref A_credits, .ref A_held, .ref A_cameAt, .ref A_farms, .ref A_sheriffs, .ref A_debts, .ref A_roll, .ref A_sticks, .ref A_table, .int self_now, .long self_chest, .long self_brought])), (A_texts, .inl (c 4, 10, .inr (.inr (.inr (.inr f_texts)))))]) [0, 1] (by decide) rfl
  have hFc := va_free (wc := [(A_self, .inr (6, [.ref A_tape, .ref A_reader, .ref A_weigher, .ref A_texts, .int self_textsRead, .ref A_forces, .ref A_credits, .ref A_held, .ref A_cameAt, .ref A_farms, .ref A_sheriffs, .ref A_debts, .ref A_roll, .ref A_sticks, .ref A_table, .int self_now, .long self_chest, .long self_brought])), (A_texts, .inl (c 4, 10, .inr (.inr (.inr (.inr f_texts)))))]) hD hS hA [0, 1] rfl
  refine va_csq2 (va_runV (As := [.int a1]) (rest := []) ⟨hx, hb, hml, hown, hts⟩ (k_X6_textOf l D c ts s.heap.size A_tape A_reader A_weigher A_texts A_forces A_credits A_held A_cameAt A_farms A_sheriffs A_debts A_roll A_sticks A_table A_self f_texts self_textsRead i_self_textsRead hi_self_textsRead self_now i_self_now hi_self_now a1 i_a1 hi_a1 self_chest self_brought (by omega) (by omega)) (cwV 1 hts gX6_statements_X6_textOf rfl rfl rfl ⟨rfl, hdX6_textOf⟩ ⟨(show 0 + 1 ≤ 1 by decide), (show 8 + (2 + 11) + 0 ≤ 21 by decide)⟩) ⟨Pre0.blind, va_recv hK hPc (ci := 6) (q0 := 0) rfl rfl, Pre0.at hPc hDc hAm hSt hS hFc⟩ rfl rfl hl.1 rfl (lv_room (Nat.le_of_ble_eq_true rfl)) dX6_statements_2 ⟨(show 0 + 0 ≤ 0 by decide), (show 0 + 0 ≤ 0 by decide)⟩) (fun r_2 hw_1 => ?_)
  rcases r_2 with _ | q_3
  · skip
    refine W.eq (g2 := F0 m 5 ls [.null]) rfl ?_
    refine lv_astore_nN (lv' := [(2, .null), (0, .ref A_self), (1, .int a1)]) hx hb dX6_statements_5 rfl hl (by decide) rfl (fun ls hl => ?_)
    refine lv_aload_nN hx hb dX6_statements_6 rfl (lv_at hl 0 rfl) ?_
    refine lv_ifnonnullN hx hb dX6_statements_7 ?_
    refine lv_iconst (v := (-1)) hx hb dX6_statements_10 (by decide) ?_
    refine lv_goto (tgt := 19) hx hb dX6_statements_11 (by decide) ?_
    have kzz_4 : ((-1) : Int32).toInt = (-1) := by decide
    exact W.iret (v := (-1)) hx hb hr (fun t ht hW => ⟨_, rfl, trivial, ht⟩) (fun _ h => by cases h) dX6_statements_19
  · skip
    refine W.eq (g2 := F0 m 5 ls [.ref q_3]) rfl ?_
    obtain ⟨j9, hj9⟩ := hw_1.resolve_left (fun z => by cases z)
    obtain ⟨zb, zn, zf, hzn, hZ, hZA⟩ := hTX _ _ hj9
    have hzn0 := hzn 0
    have hzn1 := hzn 1
    have hzn2 := hzn 2
    have hzn3 := hzn 3
    have hZ : va_P D vwCl [(q_3, .inr (4, [.ref (zb 0), .ref (zb 1), .ref (zb 2), .ref (zb 3)])), (zb 0, .inl (c 1, zn 0, .inl (zf 0))), (zb 1, .inl (c 1, zn 1, .inl (zf 1))), (zb 2, .inl (c 1, zn 2, .inl (zf 2))), (zb 3, .inl (c 1, zn 3, .inl (zf 3)))] s.heap := hZ
    refine lv_astore_n (lv' := [(2, .ref q_3), (0, .ref A_self), (1, .int a1)]) hx hb dX6_statements_5 rfl hl (by decide) rfl (fun ls hl => ?_)
    refine lv_aload_n hx hb dX6_statements_6 rfl (lv_at hl 0 rfl) ?_
    refine lv_ifnonnull (tgt := 14) hx hb dX6_statements_7 (by decide) ?_
    refine lv_aload_n hx hb dX6_statements_14 rfl (lv_at hl 0 rfl) ?_
    have hPz := fzk hZ hZA hS
    refine va_getN (D := D) (ci := 4) (v := .ref (zb 0)) (own := RX6) (ref := "CrownTable$Text") (host := RX6) (index := 117) (C := RX4) (T := TX4) (N := 4) hx hb hts (fun _ h => List.mem_cons_of_mem _ (List.mem_append_left _ (List.mem_append_right _ h))) hown hK hPz 0 rfl rfl 0 (by decide) (show (Cond.fieldLinkNest RX6 117 "CrownTable$Text" "acts" "[I" RX6).before _ _ = true from va_Nw.use rfl (hAm.2.1.2 (RX6, 117, "CrownTable$Text", "acts", "[I", RX6) (mem_i 6 rfl))) (fun _ h9 => h9) rfl dX6_statements_15 ?_
    have hPz := fzk hZ hZA hS
    refine va_alen hx hb hK hPz 1 1 rfl rfl rfl dX6_statements_18 ?_
    obtain ⟨x_5, ex_5⟩ : ∃ x_5 : Int32, x_5 = Int32.ofNat (zn 0) := ⟨_, rfl⟩
    refine lk_i (y := x_5) ex_5.symm ?_
    have tx_5 : x_5.toInt = (zn 0 : Int) := by rw [ex_5]; exact nI_toInt (by omega)
    exact W.iret (v := x_5) hx hb hr (fun t ht hW => ⟨_, rfl, trivial, ht⟩) (fun _ h => by cases h) dX6_statements_19

set_option maxHeartbeats 4000000 in
set_option maxRecDepth 100000 in
theorem k_X6_textInForce (l : Launch) (D : va_G) (c : Nat → ClassId) (ts : Nat × Nat) (sz : Nat) (A_tape : Nat) (A_reader : Nat) (A_weigher : Nat) (A_texts : Nat) (A_forces : Nat) (A_credits : Nat) (A_held : Nat) (A_cameAt : Nat) (A_farms : Nat) (A_sheriffs : Nat) (A_debts : Nat) (A_roll : Nat) (A_sticks : Nat) (A_table : Nat) (A_self : Nat) (A_forces_cells : Nat) (n_forces_cells : Nat) (f_forces_cells : Nat → Int32) (self_textsRead : Int32) (i_self_textsRead : Int) (hi_self_textsRead : self_textsRead.toInt = i_self_textsRead) (self_now : Int32) (i_self_now : Int) (hi_self_now : self_now.toInt = i_self_now) (forces_size : Int32) (i_forces_size : Int) (hi_forces_size : forces_size.toInt = i_forces_size) (a1 : Int32) (i_a1 : Int) (hi_a1 : a1.toInt = i_a1) (self_chest : Int64) (self_brought : Int64) (hv_self_textsRead : 0 ≤ i_self_textsRead ∧ i_self_textsRead ≤ 10) (hv_self_now : 0 ≤ i_self_now ∧ i_self_now ≤ 1000) (hv_forces_size : 0 ≤ i_forces_size ∧ i_forces_size ≤ 40) (hn_forces_cells : 32 ≤ n_forces_cells ∧ n_forces_cells ≤ 160) (hm_forces_cells : 2 * i_forces_size ≤ (n_forces_cells : Int)) : Met l yX6_textInForce wsX6_textInForce ({ frames := 2, cells := 0, slots := 0, locals := 44 }) (va_Pc [.ref A_self, .int a1] (Pre0 D c ts [(A_self, .inr (6, [.ref A_tape, .ref A_reader, .ref A_weigher, .ref A_texts, .int self_textsRead, .ref A_forces, .ref A_credits, .ref A_held, .ref A_cameAt, .ref A_farms, .ref A_sheriffs, .ref A_debts, .ref A_roll, .ref A_sticks, .ref A_table, .int self_now, .long self_chest, .long self_brought])), (A_forces, .inr (2, [.int 2, .int 40, .ref A_forces_cells, .int forces_size])), (A_forces_cells, .inl (c 1, n_forces_cells, .inl f_forces_cells))] sz)) (vp_Si (fun r : Int32 => True)) 0 0 (fun _ => False) := by
  refine Met.ofW (cc := cX6_textInForce) (maxL := 3) (ret := (some .int)) (by decide) rfl ?_
  intro p e s m args below meth cd s₁ B hml hv
  obtain ⟨rfl, hsz, hP, hD0, hAm, hSt⟩ := hv
  have hx := B.exec
  have hb := B.bytes
  have hr := B.returns
  have hts := atoms_spec (ws := wsX6_textInForce) B.pre
  have hown : s.vm.findClass RX6 = some m.cls := findClass_of_methodNamed B.named
  have hlocks := B.notSynchronized
  have hK := hAm.1
  subst hsz
  have hD := hD0.self (sz := s.heap.size)
  generalize hAe : va_A [(A_self, .inr (6, [.ref A_tape, .ref A_reader, .ref A_weigher, .ref A_texts, .int self_textsRead, .ref A_forces, .ref A_credits, .ref A_held, .ref A_cameAt, .ref A_farms, .ref A_sheriffs, .ref A_debts, .ref A_roll, .ref A_sticks, .ref A_table, .int self_now, .long self_chest, .long self_brought])), (A_forces, .inr (2, [.int 2, .int 40, .ref A_forces_cells, .int forces_size])), (A_forces_cells, .inl (c 1, n_forces_cells, .inl f_forces_cells))] s.heap.size = A at hD hSt
  have hA : ∀ q : Nat, s.heap.size ≤ q → A q := fun q h => by rw [← hAe]; exact Or.inr h
  have hS : va_S A s.heap s.heap [] := va_S.rf
  clear hD0 hAe
  have hl := lv_entry ([.ref A_self, .int a1]) (n := 3) (Nat.le_of_ble_eq_true rfl)
  rw [lg_entry_eq]
  generalize (lg_sl ([.ref A_self, .int a1]) ++ List.replicate (3 - (lg_sl ([.ref A_self, .int a1])).length) Slot.unset).toArray = ls at hl ⊢
  have hl : lv_has ls 3 [(0, .ref A_self), (1, .int a1)] := hl
  have rg_a1 := i32r a1
  refine lv_aload_n hx hb dX6_textInForce_0 rfl (lv_at hl 0 rfl) ?_
  refine va_get (D := D) (ci := 6) (v := .ref A_forces) (C := RX6) (T := TX6) (N := 18) hx hb hts (fun _ h => List.mem_cons_of_mem _ (List.mem_append_left _ (List.mem_append_right _ h))) hown hK hP 0 rfl rfl 5 (by decide) (hts (.fieldLink RX6 43 "CrownTable" "forces" "LCrownTable$Rows;") (mem_i 1 rfl)) (fun _ h9 => h9) rfl dX6_textInForce_1 ?_
  refine va_getN (D := D) (ci := 2) (v := .int forces_size) (own := RX6) (ref := "CrownTable$Rows") (host := RX6) (index := 155) (C := RX2) (T := TX2) (N := 4) hx hb hts (fun _ h => List.mem_cons_of_mem _ (List.mem_append_right _ h)) hown hK hP 1 rfl rfl 3 (by decide) (show (Cond.fieldLinkNest RX6 155 "CrownTable$Rows" "size" "I" RX6).before _ _ = true from va_Nw.use rfl (hAm.2.1.2 (RX6, 155, "CrownTable$Rows", "size", "I", RX6) (mem_i 3 rfl))) (fun _ h9 => h9) rfl dX6_textInForce_4 ?_
  refine lv_iconst (v := 1) hx hb dX6_textInForce_7 (by decide) ?_
  refine lv_isub hx hb dX6_textInForce_8 ?_
  refine lv_topi (fun x_1 ex_1 => ?_)
  have tx_1 : x_1.toInt = (i_forces_size - 1) := by rw [ex_1]; exact sub_ti (a := i_forces_size) (b := 1) hi_forces_size (by decide) (by omega) (by omega)
  refine lv_istore_n (lv' := [(2, .int x_1), (0, .ref A_self), (1, .int a1)]) hx hb dX6_textInForce_9 rfl hl (by decide) rfl (fun ls hl => ?_)
  have lp_10 : ∀ (N : Nat) (L2 : Int32) (hf10_0 : -1 ≤ L2.toInt) (hf10_1 : L2.toInt ≤ 40) (hf10_2 : L2.toInt < i_forces_size) (hN10 : (L2.toInt + 1).toNat = N) (ls : Array Slot), lv_has ls 3 [(0, .ref A_self), (1, .int a1), (2, .int L2)] → W p l e (headSpec wsX6_textInForce ({ frames := 2, cells := 0, slots := 0, locals := 44 })).room s m (([.ref A_self, .int a1] : List Value).toArray) below meth cd s.heap [] 0 0 (MQ below (vp_Si (fun r : Int32 => True)) ([.ref A_self, .int a1] : List Value).toArray s 0 0 (fun _ => False)) (F0 m 10 ls []) := by
    refine st_ind (fun N ih10 => ?_)
    intro L2 hf10_0 hf10_1 hf10_2 hN10 ls hl
    refine lv_iload_n hx hb dX6_textInForce_10 rfl (lv_at hl 2 rfl) ?_
    refine iif_lt (a := L2.toInt) (tgt := 43) hx hb rfl dX6_textInForce_11 (by decide) (fun k_2 => ?_) (fun k_2 => ?_)
    · skip
      refine lv_iconst (v := (-1)) hx hb dX6_textInForce_43 (by decide) ?_
      have kzz_3 : ((-1) : Int32).toInt = (-1) := by decide
      exact W.iret (v := (-1)) hx hb hr (fun t ht hW => ⟨_, rfl, trivial, ht⟩) (fun _ h => by cases h) dX6_textInForce_44
    · skip
      refine lv_aload_n hx hb dX6_textInForce_14 rfl (lv_at hl 0 rfl) ?_
      refine va_get (D := D) (ci := 6) (v := .ref A_forces) (C := RX6) (T := TX6) (N := 18) hx hb hts (fun _ h => List.mem_cons_of_mem _ (List.mem_append_left _ (List.mem_append_right _ h))) hown hK hP 0 rfl rfl 5 (by decide) (hts (.fieldLink RX6 43 "CrownTable" "forces" "LCrownTable$Rows;") (mem_i 1 rfl)) (fun _ h9 => h9) rfl dX6_textInForce_15 ?_
      refine lv_iload_n hx hb dX6_textInForce_18 rfl (lv_at hl 2 rfl) ?_
      refine lv_iconst (v := 1) hx hb dX6_textInForce_19 (by decide) ?_
      have hPc := hP.sub (ws' := [(A_forces, .inr (2, [.int 2, .int 40, .ref A_forces_cells, .int forces_size])), (A_forces_cells, .inl (c 1, n_forces_cells, .inl f_forces_cells))]) [1, 2] rfl
      have hDc := hD.sub (ws' := [(A_forces, .inr (2, [.int 2, .int 40, .ref A_forces_cells, .int forces_size])), (A_forces_cells, .inl (c 1, n_forces_cells, .inl f_forces_cells))]) [1, 2] (by decide) rfl
      have hFc := va_free (wc := [(A_forces, .inr (2, [.int 2, .int 40, .ref A_forces_cells, .int forces_size])), (A_forces_cells, .inl (c 1, n_forces_cells, .inl f_forces_cells))]) hD hS hA [1, 2] rfl
      have kzz_4 : (1 : Int32).toInt = 1 := by decide
      refine va_csi (va_runVN (As := [.int L2, .int 1]) (rest := []) ⟨hx, hb, hml, hown, hts⟩ (k_X2_get_forces l D c ts s.heap.size A_forces_cells A_forces n_forces_cells f_forces_cells forces_size i_forces_size hi_forces_size L2 L2.toInt rfl 1 1 (by decide) (by omega) (by omega) (by omega)) ⟨va_cnB 2 hts gX6_textInForce_X2_get_n139 rfl rfl rfl (show va_Nw (.methodLinkNest RX6 139 yX2_get RX6) _ from hAm.2.1.1 (RX6, 139, yX2_get, RX6) (mem_i 13 rfl)) (hts (.initialized RX2) (mem_i 3 rfl)) hdX2_get ⟨(show 1 + 1 ≤ 2 by decide), (show 8 + (3 + 11) + 22 ≤ 44 by decide)⟩, (hts (.instanceMethod yX2_get) (mem_i 2 rfl)), (hts (.selects RX2 yX2_get yX2_get) (mem_i 4 rfl))⟩ ⟨Pre0.blind, va_recv hK hPc (ci := 2) (q0 := 0) rfl rfl, Pre0.at hPc hDc hAm hSt hS hFc⟩ rfl rfl hl.1 rfl (lv_room (Nat.le_of_ble_eq_true rfl)) dX6_textInForce_20 ⟨(show 0 + 0 ≤ 0 by decide), (show 0 + 0 ≤ 0 by decide)⟩) (fun r_6 hw_5 => ?_)
      clear hw_5
      have rg_r_6 := i32r r_6
      refine lv_iload_n hx hb dX6_textInForce_23 rfl (lv_at hl 1 rfl) ?_
      refine iicmp_gt (a := r_6.toInt) (b := i_a1) (tgt := 37) hx hb rfl hi_a1 dX6_textInForce_24 (by decide) (fun k_7 => ?_) (fun k_7 => ?_)
      · skip
        obtain ⟨x_8, ex_8⟩ : ∃ y : Int32, y = L2 + (-1) := ⟨_, rfl⟩
        have tx_8 : x_8.toInt = L2.toInt + (-1) := by rw [ex_8]; exact add_ti (a := L2.toInt) (b := (-1)) rfl (by decide) (by omega) (by omega)
        refine lv_iinc (v := x_8) (lv' := [(2, .int x_8), (0, .ref A_self), (1, .int a1)]) hx hb dX6_textInForce_37 hl (k := 2) rfl (by rw [ex_8]; rfl) (by decide) rfl (fun ls hl => ?_)
        refine lv_goto (tgt := 10) hx hb dX6_textInForce_40 (by decide) ?_
        have hl := lv_sub hl [1, 2, 0] rfl
        exact (ih10 ((x_8.toInt + 1).toNat) (by omega) x_8 (by omega) (by omega) (by omega) rfl _ hl)
      · skip
        refine lv_aload_n hx hb dX6_textInForce_27 rfl (lv_at hl 0 rfl) ?_
        refine va_get (D := D) (ci := 6) (v := .ref A_forces) (C := RX6) (T := TX6) (N := 18) hx hb hts (fun _ h => List.mem_cons_of_mem _ (List.mem_append_left _ (List.mem_append_right _ h))) hown hK hP 0 rfl rfl 5 (by decide) (hts (.fieldLink RX6 43 "CrownTable" "forces" "LCrownTable$Rows;") (mem_i 1 rfl)) (fun _ h9 => h9) rfl dX6_textInForce_28 ?_
        refine lv_iload_n hx hb dX6_textInForce_31 rfl (lv_at hl 2 rfl) ?_
        refine lv_iconst (v := 0) hx hb dX6_textInForce_32 (by decide) ?_
        have hPc := hP.sub (ws' := [(A_forces, .inr (2, [.int 2, .int 40, .ref A_forces_cells, .int forces_size])), (A_forces_cells, .inl (c 1, n_forces_cells, .inl f_forces_cells))]) [1, 2] rfl
        have hDc := hD.sub (ws' := [(A_forces, .inr (2, [.int 2, .int 40, .ref A_forces_cells, .int forces_size])), (A_forces_cells, .inl (c 1, n_forces_cells, .inl f_forces_cells))]) [1, 2] (by decide) rfl
        have hFc := va_free (wc := [(A_forces, .inr (2, [.int 2, .int 40, .ref A_forces_cells, .int forces_size])), (A_forces_cells, .inl (c 1, n_forces_cells, .inl f_forces_cells))]) hD hS hA [1, 2] rfl
        have kzz_9 : (0 : Int32).toInt = 0 := by decide
        refine va_csi (va_runVN (As := [.int L2, .int 0]) (rest := []) ⟨hx, hb, hml, hown, hts⟩ (k_X2_get_forces l D c ts s.heap.size A_forces_cells A_forces n_forces_cells f_forces_cells forces_size i_forces_size hi_forces_size L2 L2.toInt rfl 0 0 (by decide) (by omega) (by omega) (by omega)) ⟨va_cnB 2 hts gX6_textInForce_X2_get_n139 rfl rfl rfl (show va_Nw (.methodLinkNest RX6 139 yX2_get RX6) _ from hAm.2.1.1 (RX6, 139, yX2_get, RX6) (mem_i 13 rfl)) (hts (.initialized RX2) (mem_i 3 rfl)) hdX2_get ⟨(show 1 + 1 ≤ 2 by decide), (show 8 + (3 + 11) + 22 ≤ 44 by decide)⟩, (hts (.instanceMethod yX2_get) (mem_i 2 rfl)), (hts (.selects RX2 yX2_get yX2_get) (mem_i 4 rfl))⟩ ⟨Pre0.blind, va_recv hK hPc (ci := 2) (q0 := 0) rfl rfl, Pre0.at hPc hDc hAm hSt hS hFc⟩ rfl rfl hl.1 rfl (lv_room (Nat.le_of_ble_eq_true rfl)) dX6_textInForce_33 ⟨(show 0 + 0 ≤ 0 by decide), (show 0 + 0 ≤ 0 by decide)⟩) (fun r_11 hw_10 => ?_)
        clear hw_10
        have rg_r_11 := i32r r_11
        exact W.iret (v := r_11) hx hb hr (fun t ht hW => ⟨_, rfl, trivial, ht⟩) (fun _ h => by cases h) dX6_textInForce_36
  have hl := lv_sub hl [1, 2, 0] rfl
  exact (lp_10 _ x_1 (by omega) (by omega) (by omega) rfl _ hl)

set_option maxHeartbeats 4000000 in
set_option maxRecDepth 100000 in
theorem k_X6_inForce (l : Launch) (D : va_G) (c : Nat → ClassId) (ts : Nat × Nat) (sz : Nat) (A_tape : Nat) (A_reader : Nat) (A_weigher : Nat) (A_texts : Nat) (A_forces : Nat) (A_credits : Nat) (A_held : Nat) (A_cameAt : Nat) (A_farms : Nat) (A_sheriffs : Nat) (A_debts : Nat) (A_roll : Nat) (A_sticks : Nat) (A_table : Nat) (A_self : Nat) (A_forces_cells : Nat) (n_forces_cells : Nat) (f_forces_cells : Nat → Int32) (self_textsRead : Int32) (i_self_textsRead : Int) (hi_self_textsRead : self_textsRead.toInt = i_self_textsRead) (self_now : Int32) (i_self_now : Int) (hi_self_now : self_now.toInt = i_self_now) (forces_size : Int32) (i_forces_size : Int) (hi_forces_size : forces_size.toInt = i_forces_size) (a1 : Int32) (i_a1 : Int) (hi_a1 : a1.toInt = i_a1) (self_chest : Int64) (self_brought : Int64) (hv_self_textsRead : 0 ≤ i_self_textsRead ∧ i_self_textsRead ≤ 10) (hv_self_now : 0 ≤ i_self_now ∧ i_self_now ≤ 1000) (hv_forces_size : 0 ≤ i_forces_size ∧ i_forces_size ≤ 40) (hn_forces_cells : 32 ≤ n_forces_cells ∧ n_forces_cells ≤ 160) (hm_forces_cells : 2 * i_forces_size ≤ (n_forces_cells : Int)) : Met l yX6_inForce wsX6_inForce ({ frames := 3, cells := 0, slots := 0, locals := 66 }) (va_Pc [.ref A_self, .int a1] (Pre0 D c ts [(A_self, .inr (6, [.ref A_tape, .ref A_reader, .ref A_weigher, .ref A_texts, .int self_textsRead, .ref A_forces, .ref A_credits, .ref A_held, .ref A_cameAt, .ref A_farms, .ref A_sheriffs, .ref A_debts, .ref A_roll, .ref A_sticks, .ref A_table, .int self_now, .long self_chest, .long self_brought])), (A_forces, .inr (2, [.int 2, .int 40, .ref A_forces_cells, .int forces_size])), (A_forces_cells, .inl (c 1, n_forces_cells, .inl f_forces_cells))] sz)) (vp_Si (fun r : Int32 => True)) 0 0 (fun _ => False) := by
  refine Met.ofW (cc := cX6_inForce) (maxL := 2) (ret := (some .int)) (by decide) rfl ?_
  intro p e s m args below meth cd s₁ B hml hv
  obtain ⟨rfl, hsz, hP, hD0, hAm, hSt⟩ := hv
  have hx := B.exec
  have hb := B.bytes
  have hr := B.returns
  have hts := atoms_spec (ws := wsX6_inForce) B.pre
  have hown : s.vm.findClass RX6 = some m.cls := findClass_of_methodNamed B.named
  have hlocks := B.notSynchronized
  have hK := hAm.1
  subst hsz
  have hD := hD0.self (sz := s.heap.size)
  generalize hAe : va_A [(A_self, .inr (6, [.ref A_tape, .ref A_reader, .ref A_weigher, .ref A_texts, .int self_textsRead, .ref A_forces, .ref A_credits, .ref A_held, .ref A_cameAt, .ref A_farms, .ref A_sheriffs, .ref A_debts, .ref A_roll, .ref A_sticks, .ref A_table, .int self_now, .long self_chest, .long self_brought])), (A_forces, .inr (2, [.int 2, .int 40, .ref A_forces_cells, .int forces_size])), (A_forces_cells, .inl (c 1, n_forces_cells, .inl f_forces_cells))] s.heap.size = A at hD hSt
  have hA : ∀ q : Nat, s.heap.size ≤ q → A q := fun q h => by rw [← hAe]; exact Or.inr h
  have hS : va_S A s.heap s.heap [] := va_S.rf
  clear hD0 hAe
  have hl := lv_entry ([.ref A_self, .int a1]) (n := 2) (Nat.le_of_ble_eq_true rfl)
  rw [lg_entry_eq]
  generalize (lg_sl ([.ref A_self, .int a1]) ++ List.replicate (2 - (lg_sl ([.ref A_self, .int a1])).length) Slot.unset).toArray = ls at hl ⊢
  have hl : lv_has ls 2 [(0, .ref A_self), (1, .int a1)] := hl
  have rg_a1 := i32r a1
  refine lv_iload_n hx hb dX6_inForce_0 rfl (lv_at hl 1 rfl) ?_
  refine iif_lt (a := i_a1) (tgt := 11) hx hb hi_a1 dX6_inForce_1 (by decide) (fun k_1 => ?_) (fun k_1 => ?_)
  · skip
    refine lv_iconst (v := (-1)) hx hb dX6_inForce_11 (by decide) ?_
    refine lv_goto (tgt := 20) hx hb dX6_inForce_12 (by decide) ?_
    have kzz_2 : ((-1) : Int32).toInt = (-1) := by decide
    exact W.iret (v := (-1)) hx hb hr (fun t ht hW => ⟨_, rfl, trivial, ht⟩) (fun _ h => by cases h) dX6_inForce_20
  · skip
    refine lv_iload_n hx hb dX6_inForce_4 rfl (lv_at hl 1 rfl) ?_
    refine lv_sipush (v := 1000) hx hb dX6_inForce_5 (by decide) ?_
    refine iicmp_le (a := i_a1) (b := 1000) (tgt := 15) hx hb hi_a1 (by decide) dX6_inForce_8 (by decide) (fun k_3 => ?_) (fun k_3 => ?_)
    · skip
      refine lv_aload_n hx hb dX6_inForce_15 rfl (lv_at hl 0 rfl) ?_
      refine lv_iload_n hx hb dX6_inForce_16 rfl (lv_at hl 1 rfl) ?_
      have hPc := hP.sub (ws' := [(A_self, .inr (6, [.ref A_tape, .ref A_reader, .ref A_weigher, .ref A_texts, .int self_textsRead, .ref A_forces, .ref A_credits, .ref A_held, .ref A_cameAt, .ref A_farms, .ref A_sheriffs, .ref A_debts, .ref A_roll, .ref A_sticks, .ref A_table, .int self_now, .long self_chest, .long self_brought])), (A_forces, .inr (2, [.int 2, .int 40, .ref A_forces_cells, .int forces_size])), (A_forces_cells, .inl (c 1, n_forces_cells, .inl f_forces_cells))]) [0, 1, 2] rfl
      have hDc := hD.sub (ws' := [(A_self, .inr (6, [.ref A_tape, .ref A_reader, .ref A_weigher, .ref A_texts, .int self_textsRead, .ref A_forces, .ref A_credits, .ref A_held, .ref A_cameAt, .ref A_farms, .ref A_sheriffs, .ref A_debts, .ref A_roll, .ref A_sticks, .ref A_table, .int self_now, .long self_chest, .long self_brought])), (A_forces, .inr (2, [.int 2, .int 40, .ref A_forces_cells, .int forces_size])), (A_forces_cells, .inl (c 1, n_forces_cells, .inl f_forces_cells))]) [0, 1, 2] (by decide) rfl
      have hFc := va_free (wc := [(A_self, .inr (6, [.ref A_tape, .ref A_reader, .ref A_weigher, .ref A_texts, .int self_textsRead, .ref A_forces, .ref A_credits, .ref A_held, .ref A_cameAt, .ref A_farms, .ref A_sheriffs, .ref A_debts, .ref A_roll, .ref A_sticks, .ref A_table, .int self_now, .long self_chest, .long self_brought])), (A_forces, .inr (2, [.int 2, .int 40, .ref A_forces_cells, .int forces_size])), (A_forces_cells, .inl (c 1, n_forces_cells, .inl f_forces_cells))]) hD hS hA [0, 1, 2] rfl
      refine va_csi (va_runV (As := [.int a1]) (rest := []) ⟨hx, hb, hml, hown, hts⟩ (k_X6_textInForce l D c ts s.heap.size A_tape A_reader A_weigher A_texts A_forces A_credits A_held A_cameAt A_farms A_sheriffs A_debts A_roll A_sticks A_table A_self A_forces_cells n_forces_cells f_forces_cells self_textsRead i_self_textsRead hi_self_textsRead self_now i_self_now hi_self_now forces_size i_forces_size hi_forces_size a1 i_a1 hi_a1 self_chest self_brought (by omega) (by omega) (by omega) (by omega) (by omega)) (cwV 1 hts gX6_inForce_X6_textInForce rfl rfl rfl ⟨rfl, hdX6_textInForce⟩ ⟨(show 2 + 1 ≤ 3 by decide), (show 8 + (3 + 11) + 44 ≤ 66 by decide)⟩) ⟨Pre0.blind, va_recv hK hPc (ci := 6) (q0 := 0) rfl rfl, Pre0.at hPc hDc hAm hSt hS hFc⟩ rfl rfl hl.1 rfl (lv_room (Nat.le_of_ble_eq_true rfl)) dX6_inForce_17 ⟨(show 0 + 0 ≤ 0 by decide), (show 0 + 0 ≤ 0 by decide)⟩) (fun r_5 hw_4 => ?_)
      have rg_r_5 := i32r r_5
      exact W.iret (v := r_5) hx hb hr (fun t ht hW => ⟨_, rfl, trivial, ht⟩) (fun _ h => by cases h) dX6_inForce_20
    · skip
      refine lv_iconst (v := (-1)) hx hb dX6_inForce_11 (by decide) ?_
      refine lv_goto (tgt := 20) hx hb dX6_inForce_12 (by decide) ?_
      have kzz_6 : ((-1) : Int32).toInt = (-1) := by decide
      exact W.iret (v := (-1)) hx hb hr (fun t ht hW => ⟨_, rfl, trivial, ht⟩) (fun _ h => by cases h) dX6_inForce_20
