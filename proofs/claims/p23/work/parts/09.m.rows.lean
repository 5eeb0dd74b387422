set_option maxHeartbeats 4000000 in
set_option maxRecDepth 100000 in
theorem k_X7_sum (l : Launch) (D : va_G) (c : Nat → ClassId) (ts : Nat × Nat) (sz : Nat) (A_self : Nat) (q : Nat → Nat) (v : Nat → Int32) (w : Nat → Int64) (f_cloth : Nat → Int32) (f_credit : Nat → Int64) (f_left : Nat → Int32) (f_pardoned : Nat → Int32) (f_whole : Nat → Int32) (a1 : Int32) (i_a1 : Int) (hi_a1 : a1.toInt = i_a1) (hv_2 : 0 ≤ (v 2).toInt ∧ (v 2).toInt ≤ 800) (hv_8 : 0 ≤ (v 8).toInt ∧ (v 8).toInt ≤ 10) (hv_21 : 0 ≤ (v 21).toInt ∧ (v 21).toInt ≤ 40) (hv_24 : 0 ≤ (v 24).toInt ∧ (v 24).toInt ≤ 1000) (hv_27 : 0 ≤ (v 27).toInt ∧ (v 27).toInt ≤ 400) (hv_42 : 0 ≤ (v 42).toInt ∧ (v 42).toInt ≤ 4000) (hv_52 : 0 ≤ (v 52).toInt ∧ (v 52).toInt ≤ 2000) (hq0 : 0 ≤ (f_cloth 0).toInt ∧ (f_cloth 0).toInt ≤ 11) (hq1 : 0 ≤ (f_cloth 1).toInt ∧ (f_cloth 1).toInt ≤ 19) (hq2 : 0 ≤ (f_cloth 2).toInt ∧ (f_cloth 2).toInt ≤ 19) (hq3 : 0 ≤ (f_cloth 3).toInt ∧ (f_cloth 3).toInt ≤ 4) (hq4 : 0 ≤ (f_cloth 4).toInt ∧ (f_cloth 4).toInt ≤ 9) (hq5 : 0 ≤ (f_cloth 5).toInt ∧ (f_cloth 5).toInt ≤ 1000000) : Met l yX7_sum wsX7_sum ({ frames := 2, cells := 0, slots := 0, locals := 43 }) (va_Pc [.ref A_self, .int a1] (Pre0 D c ts [(A_self, .inr (7, o7 q v w)), (q 55, .inl (c 1, 6, .inl f_cloth)), (q 35, .inl (c 2, 16, .inr (.inl f_credit))), (q 31, .inl (c 1, 400, .inl f_left)), (q 34, .inl (c 1, 400, .inl f_pardoned)), (q 30, .inl (c 1, 400, .inl f_whole))] sz)) (vp_Sl (fun r : Int64 => True)) 0 0 (fun _ => False) := by
  refine Met.ofW (cc := cX7_sum) (maxL := 5) (ret := (some .long)) (by decide) rfl ?_
  intro p e s m args below meth cd s₁ B hml hv
  obtain ⟨rfl, hsz, hP, hD0, hAm, hSt⟩ := hv
  have hx := B.exec
  have hb := B.bytes
  have hr := B.returns
  have hts := atoms_spec (ws := wsX7_sum) B.pre
  have hown : s.vm.findClass RX7 = some m.cls := findClass_of_methodNamed B.named
  have hlocks := B.notSynchronized
  have hK := hAm.1
  subst hsz
  have hD := hD0.self (sz := s.heap.size)
  generalize hAe : va_A [(A_self, .inr (7, o7 q v w)), (q 55, .inl (c 1, 6, .inl f_cloth)), (q 35, .inl (c 2, 16, .inr (.inl f_credit))), (q 31, .inl (c 1, 400, .inl f_left)), (q 34, .inl (c 1, 400, .inl f_pardoned)), (q 30, .inl (c 1, 400, .inl f_whole))] s.heap.size = A at hD hSt
  have hA : ∀ q : Nat, s.heap.size ≤ q → A q := fun q h => by rw [← hAe]; exact Or.inr h
  have hS : va_S A s.heap s.heap [] := va_S.rf
  clear hD0 hAe
  have hl := lv_entry ([.ref A_self, .int a1]) (n := 5) (Nat.le_of_ble_eq_true rfl)
  rw [lg_entry_eq]
  generalize (lg_sl ([.ref A_self, .int a1]) ++ List.replicate (5 - (lg_sl ([.ref A_self, .int a1])).length) Slot.unset).toArray = ls at hl ⊢
  have hl : lv_has ls 5 [(0, .ref A_self), (1, .int a1)] := hl
  have rg_a1 := i32r a1
  refine lv_lconst (v := 0) hx hb dX7_sum_0 (by decide) ?_
  refine lv_lstore_n (lv' := [(2, .long 0), (0, .ref A_self), (1, .int a1)]) hx hb dX7_sum_1 rfl hl (by decide) rfl (fun ls hl => ?_)
  refine lv_iload_n hx hb dX7_sum_2 rfl (lv_at hl 2 rfl) ?_
  by_cases k_1 : i_a1 = 0
  · have ek_1 : a1.toInt = 0 := hi_a1.trans k_1
    refine lv_tableIn (tgt := 44) hx hb dX7_sum_3 (by rw [ek_1]; decide) (by rw [ek_1]; decide) (by rw [ek_1]; rfl) (by decide) ?_
    refine lv_aload_n hx hb dX7_sum_44 rfl (lv_at hl 1 rfl) ?_
    have hPc := hP.sub (ws' := [(A_self, .inr (7, o7 q v w)), (q 55, .inl (c 1, 6, .inl f_cloth))]) [0, 1] rfl
    have hDc := hD.sub (ws' := [(A_self, .inr (7, o7 q v w)), (q 55, .inl (c 1, 6, .inl f_cloth))]) [0, 1] (by decide) rfl
    have hFc := va_free (wc := [(A_self, .inr (7, o7 q v w)), (q 55, .inl (c 1, 6, .inl f_cloth))]) hD hS hA [0, 1] rfl
    refine va_csl (va_runV (As := []) (rest := []) ⟨hx, hb, hml, hown, hts⟩ (k_X7_lies l D c ts s.heap.size A_self q v w f_cloth (show 0 ≤ (v 2).toInt ∧ (v 2).toInt ≤ 800 by omega) (show 0 ≤ (v 8).toInt ∧ (v 8).toInt ≤ 10 by omega) (show 0 ≤ (v 21).toInt ∧ (v 21).toInt ≤ 40 by omega) (show 0 ≤ (v 24).toInt ∧ (v 24).toInt ≤ 1000 by omega) (show 0 ≤ (v 27).toInt ∧ (v 27).toInt ≤ 400 by omega) (show 0 ≤ (v 42).toInt ∧ (v 42).toInt ≤ 4000 by omega) (show 0 ≤ (v 52).toInt ∧ (v 52).toInt ≤ 2000 by omega) (show 0 ≤ (f_cloth 0).toInt ∧ (f_cloth 0).toInt ≤ 11 by omega) (show 0 ≤ (f_cloth 1).toInt ∧ (f_cloth 1).toInt ≤ 19 by omega) (show 0 ≤ (f_cloth 2).toInt ∧ (f_cloth 2).toInt ≤ 19 by omega) (show 0 ≤ (f_cloth 3).toInt ∧ (f_cloth 3).toInt ≤ 4 by omega) (show 0 ≤ (f_cloth 4).toInt ∧ (f_cloth 4).toInt ≤ 9 by omega) (show 0 ≤ (f_cloth 5).toInt ∧ (f_cloth 5).toInt ≤ 1000000 by omega)) (cwV 0 hts gX7_sum_X7_lies rfl rfl rfl ⟨rfl, hdX7_lies⟩ ⟨(show 1 + 1 ≤ 2 by decide), (show 8 + (4 + 11) + 20 ≤ 43 by decide)⟩) ⟨Pre0.blind, va_recv hK hPc (ci := 7) (q0 := 0) rfl rfl, Pre0.at hPc hDc hAm hSt hS hFc⟩ rfl rfl hl.1 rfl (lv_room (Nat.le_of_ble_eq_true rfl)) dX7_sum_45 ⟨(show 0 + 0 ≤ 0 by decide), (show 0 + 0 ≤ 0 by decide)⟩) (fun r_3 hw_2 => ?_)
    have hw_2 : (r_3.toInt = (f_cloth 0).toInt + 12 * (f_cloth 1).toInt + 240 * (f_cloth 2).toInt + 4800 * (f_cloth 3).toInt + 24000 * (f_cloth 4).toInt + 240000 * (f_cloth 5).toInt) := hw_2
    exact W.lret (v := r_3) hx hb hr (fun t ht hW => ⟨_, rfl, trivial, ht⟩) (fun _ h => by cases h) dX7_sum_48
  by_cases k_4 : i_a1 = 1
  · have ek_4 : a1.toInt = 1 := hi_a1.trans k_4
    refine lv_tableIn (tgt := 49) hx hb dX7_sum_3 (by rw [ek_4]; decide) (by rw [ek_4]; decide) (by rw [ek_4]; rfl) (by decide) ?_
    refine lv_aload_n hx hb dX7_sum_49 rfl (lv_at hl 1 rfl) ?_
    refine va_get (D := D) (ci := 7) (v := .long (w 38)) (C := RX7) (T := TX7) (N := 56) hx hb hts (fun _ h => List.mem_cons_of_mem _ (List.mem_append_right _ h)) hown hK hP 0 rfl rfl 38 (by decide) (hts (.fieldLink RX7 335 "CrownTableModel" "chest" "J") (mem_i 1 rfl)) (fun _ h9 => h9) rfl dX7_sum_50 ?_
    exact W.lret (v := (w 38)) hx hb hr (fun t ht hW => ⟨_, rfl, trivial, ht⟩) (fun _ h => by cases h) dX7_sum_53
  by_cases k_5 : i_a1 = 2
  · have ek_5 : a1.toInt = 2 := hi_a1.trans k_5
    refine lv_tableIn (tgt := 54) hx hb dX7_sum_3 (by rw [ek_5]; decide) (by rw [ek_5]; decide) (by rw [ek_5]; rfl) (by decide) ?_
    refine lv_iconst (v := 0) hx hb dX7_sum_54 (by decide) ?_
    refine lv_istore (lv' := [(4, .int 0), (2, .long 0), (0, .ref A_self), (1, .int a1)]) hx hb dX7_sum_55 hl (by decide) rfl (fun ls hl => ?_)
    have lp_57 : ∀ (N : Nat) (L2 : Int64) (L4 : Int32) (hf57_0 : 0 ≤ L4.toInt) (hf57_1 : L4.toInt ≤ 16) (hN57 : (16 - L4.toInt).toNat = N) (ls : Array Slot), lv_has ls 5 [(0, .ref A_self), (1, .int a1), (2, .long L2), (4, .int L4)] → W p l e (headSpec wsX7_sum ({ frames := 2, cells := 0, slots := 0, locals := 43 })).room s m (([.ref A_self, .int a1] : List Value).toArray) below meth cd s.heap [] 0 0 (MQ below (vp_Sl (fun r : Int64 => True)) ([.ref A_self, .int a1] : List Value).toArray s 0 0 (fun _ => False)) (F0 m 57 ls []) := by
      refine st_ind (fun N ih57 => ?_)
      intro L2 L4 hf57_0 hf57_1 hN57 ls hl
      refine lv_iload hx hb dX7_sum_57 (lv_at hl 3 rfl) ?_
      refine lv_bipush (v := 16) hx hb dX7_sum_59 (by decide) ?_
      refine iicmp_ge (a := L4.toInt) (b := 16) (tgt := 80) hx hb rfl (by decide) dX7_sum_61 (by decide) (fun k_6 => ?_) (fun k_6 => ?_)
      · skip
        refine lv_lload_n hx hb dX7_sum_80 rfl (lv_at hl 2 rfl) ?_
        exact W.lret (v := L2) hx hb hr (fun t ht hW => ⟨_, rfl, trivial, ht⟩) (fun _ h => by cases h) dX7_sum_81
      · skip
        refine lv_lload_n hx hb dX7_sum_64 rfl (lv_at hl 2 rfl) ?_
        refine lv_aload_n hx hb dX7_sum_65 rfl (lv_at hl 0 rfl) ?_
        refine va_get (D := D) (ci := 7) (v := .ref (q 35)) (C := RX7) (T := TX7) (N := 56) hx hb hts (fun _ h => List.mem_cons_of_mem _ (List.mem_append_right _ h)) hown hK hP 0 rfl rfl 35 (by decide) (hts (.fieldLink RX7 71 "CrownTableModel" "credit" "[J") (mem_i 2 rfl)) (fun _ h9 => h9) rfl dX7_sum_66 ?_
        refine lv_iload hx hb dX7_sum_69 (lv_at hl 3 rfl) ?_
        refine va_lald hx hb hK hP 2 2 rfl rfl (vin (a := L4.toInt) rfl (by omega) (by omega)) dX7_sum_71 ?_
        refine lv_topl (fun x_7 ex_7 => ?_)
        refine lv_ladd hx hb dX7_sum_72 ?_
        refine lv_topl (fun x_8 ex_8 => ?_)
        refine lv_lstore_n (lv' := [(2, .long x_8), (0, .ref A_self), (1, .int a1), (4, .int L4)]) hx hb dX7_sum_73 rfl hl (by decide) rfl (fun ls hl => ?_)
        obtain ⟨x_9, ex_9⟩ : ∃ y : Int32, y = L4 + 1 := ⟨_, rfl⟩
        have tx_9 : x_9.toInt = L4.toInt + 1 := by rw [ex_9]; exact add_ti (a := L4.toInt) (b := 1) rfl (by decide) (by omega) (by omega)
        refine lv_iinc (v := x_9) (lv' := [(4, .int x_9), (2, .long x_8), (0, .ref A_self), (1, .int a1)]) hx hb dX7_sum_74 hl (k := 3) rfl (by rw [ex_9]; rfl) (by decide) rfl (fun ls hl => ?_)
        refine lv_goto (tgt := 57) hx hb dX7_sum_77 (by decide) ?_
        have hl := lv_sub hl [2, 3, 1, 0] rfl
        exact (ih57 ((16 - x_9.toInt).toNat) (by omega) x_8 x_9 (by omega) (by omega) rfl _ hl)
    have kzz_10 : (0 : Int32).toInt = 0 := by decide
    have hl := lv_sub hl [2, 3, 1, 0] rfl
    exact (lp_57 _ 0 0 (by omega) (by omega) rfl _ hl)
  by_cases k_11 : i_a1 = 3
  · have ek_11 : a1.toInt = 3 := hi_a1.trans k_11
    refine lv_tableIn (tgt := 82) hx hb dX7_sum_3 (by rw [ek_11]; decide) (by rw [ek_11]; decide) (by rw [ek_11]; rfl) (by decide) ?_
    refine lv_iconst (v := 0) hx hb dX7_sum_82 (by decide) ?_
    refine lv_istore (lv' := [(4, .int 0), (2, .long 0), (0, .ref A_self), (1, .int a1)]) hx hb dX7_sum_83 hl (by decide) rfl (fun ls hl => ?_)
    have lp_85 : ∀ (N : Nat) (L2 : Int64) (L4 : Int32) (hf85_0 : 0 ≤ L4.toInt) (hf85_1 : L4.toInt ≤ 400) (hf85_2 : L4.toInt ≤ (v 27).toInt) (hN85 : (400 - L4.toInt).toNat = N) (ls : Array Slot), lv_has ls 5 [(0, .ref A_self), (1, .int a1), (2, .long L2), (4, .int L4)] → W p l e (headSpec wsX7_sum ({ frames := 2, cells := 0, slots := 0, locals := 43 })).room s m (([.ref A_self, .int a1] : List Value).toArray) below meth cd s.heap [] 0 0 (MQ below (vp_Sl (fun r : Int64 => True)) ([.ref A_self, .int a1] : List Value).toArray s 0 0 (fun _ => False)) (F0 m 85 ls []) := by
      refine st_ind (fun N ih85 => ?_)
      intro L2 L4 hf85_0 hf85_1 hf85_2 hN85 ls hl
      refine lv_iload hx hb dX7_sum_85 (lv_at hl 3 rfl) ?_
      refine lv_aload_n hx hb dX7_sum_87 rfl (lv_at hl 0 rfl) ?_
      refine va_get (D := D) (ci := 7) (v := .int (v 27)) (C := RX7) (T := TX7) (N := 56) hx hb hts (fun _ h => List.mem_cons_of_mem _ (List.mem_append_right _ h)) hown hK hP 0 rfl rfl 27 (by decide) (hts (.fieldLink RX7 277 "CrownTableModel" "debts" "I") (mem_i 3 rfl)) (fun _ h9 => h9) rfl dX7_sum_88 ?_
      refine iicmp_ge (a := L4.toInt) (b := (v 27).toInt) (tgt := 111) hx hb rfl rfl dX7_sum_91 (by decide) (fun k_12 => ?_) (fun k_12 => ?_)
      · skip
        refine lv_lload_n hx hb dX7_sum_111 rfl (lv_at hl 2 rfl) ?_
        exact W.lret (v := L2) hx hb hr (fun t ht hW => ⟨_, rfl, trivial, ht⟩) (fun _ h => by cases h) dX7_sum_112
      · skip
        refine lv_lload_n hx hb dX7_sum_94 rfl (lv_at hl 2 rfl) ?_
        refine lv_aload_n hx hb dX7_sum_95 rfl (lv_at hl 0 rfl) ?_
        refine va_get (D := D) (ci := 7) (v := .ref (q 31)) (C := RX7) (T := TX7) (N := 56) hx hb hts (fun _ h => List.mem_cons_of_mem _ (List.mem_append_right _ h)) hown hK hP 0 rfl rfl 31 (by decide) (hts (.fieldLink RX7 59 "CrownTableModel" "left" "[I") (mem_i 4 rfl)) (fun _ h9 => h9) rfl dX7_sum_96 ?_
        refine lv_iload hx hb dX7_sum_99 (lv_at hl 3 rfl) ?_
        refine va_iald hx hb hK hP 3 1 rfl rfl (vin (a := L4.toInt) rfl (by omega) (by omega)) dX7_sum_101 ?_
        refine lv_topi (fun x_13 ex_13 => ?_)
        refine lv_i2l hx hb dX7_sum_102 rfl ?_
        refine lv_ladd hx hb dX7_sum_103 ?_
        refine lv_topl (fun x_14 ex_14 => ?_)
        refine lv_lstore_n (lv' := [(2, .long x_14), (0, .ref A_self), (1, .int a1), (4, .int L4)]) hx hb dX7_sum_104 rfl hl (by decide) rfl (fun ls hl => ?_)
        obtain ⟨x_15, ex_15⟩ : ∃ y : Int32, y = L4 + 1 := ⟨_, rfl⟩
        have tx_15 : x_15.toInt = L4.toInt + 1 := by rw [ex_15]; exact add_ti (a := L4.toInt) (b := 1) rfl (by decide) (by omega) (by omega)
        refine lv_iinc (v := x_15) (lv' := [(4, .int x_15), (2, .long x_14), (0, .ref A_self), (1, .int a1)]) hx hb dX7_sum_105 hl (k := 3) rfl (by rw [ex_15]; rfl) (by decide) rfl (fun ls hl => ?_)
        refine lv_goto (tgt := 85) hx hb dX7_sum_108 (by decide) ?_
        have hl := lv_sub hl [2, 3, 1, 0] rfl
        exact (ih85 ((400 - x_15.toInt).toNat) (by omega) x_14 x_15 (by omega) (by omega) (by omega) rfl _ hl)
    have kzz_16 : (0 : Int32).toInt = 0 := by decide
    have hl := lv_sub hl [2, 3, 1, 0] rfl
    exact (lp_85 _ 0 0 (by omega) (by omega) (by omega) rfl _ hl)
  by_cases k_17 : i_a1 = 4
  · have ek_17 : a1.toInt = 4 := hi_a1.trans k_17
    refine lv_tableIn (tgt := 113) hx hb dX7_sum_3 (by rw [ek_17]; decide) (by rw [ek_17]; decide) (by rw [ek_17]; rfl) (by decide) ?_
    refine lv_iconst (v := 0) hx hb dX7_sum_113 (by decide) ?_
    refine lv_istore (lv' := [(4, .int 0), (2, .long 0), (0, .ref A_self), (1, .int a1)]) hx hb dX7_sum_114 hl (by decide) rfl (fun ls hl => ?_)
    have lp_116 : ∀ (N : Nat) (L2 : Int64) (L4 : Int32) (hf116_0 : 0 ≤ L4.toInt) (hf116_1 : L4.toInt ≤ 400) (hf116_2 : L4.toInt ≤ (v 27).toInt) (hN116 : (400 - L4.toInt).toNat = N) (ls : Array Slot), lv_has ls 5 [(0, .ref A_self), (1, .int a1), (2, .long L2), (4, .int L4)] → W p l e (headSpec wsX7_sum ({ frames := 2, cells := 0, slots := 0, locals := 43 })).room s m (([.ref A_self, .int a1] : List Value).toArray) below meth cd s.heap [] 0 0 (MQ below (vp_Sl (fun r : Int64 => True)) ([.ref A_self, .int a1] : List Value).toArray s 0 0 (fun _ => False)) (F0 m 116 ls []) := by
      refine st_ind (fun N ih116 => ?_)
      intro L2 L4 hf116_0 hf116_1 hf116_2 hN116 ls hl
      refine lv_iload hx hb dX7_sum_116 (lv_at hl 3 rfl) ?_
      refine lv_aload_n hx hb dX7_sum_118 rfl (lv_at hl 0 rfl) ?_
      refine va_get (D := D) (ci := 7) (v := .int (v 27)) (C := RX7) (T := TX7) (N := 56) hx hb hts (fun _ h => List.mem_cons_of_mem _ (List.mem_append_right _ h)) hown hK hP 0 rfl rfl 27 (by decide) (hts (.fieldLink RX7 277 "CrownTableModel" "debts" "I") (mem_i 3 rfl)) (fun _ h9 => h9) rfl dX7_sum_119 ?_
      refine iicmp_ge (a := L4.toInt) (b := (v 27).toInt) (tgt := 142) hx hb rfl rfl dX7_sum_122 (by decide) (fun k_18 => ?_) (fun k_18 => ?_)
      · skip
        refine lv_lload_n hx hb dX7_sum_142 rfl (lv_at hl 2 rfl) ?_
        exact W.lret (v := L2) hx hb hr (fun t ht hW => ⟨_, rfl, trivial, ht⟩) (fun _ h => by cases h) dX7_sum_143
      · skip
        refine lv_lload_n hx hb dX7_sum_125 rfl (lv_at hl 2 rfl) ?_
        refine lv_aload_n hx hb dX7_sum_126 rfl (lv_at hl 0 rfl) ?_
        refine va_get (D := D) (ci := 7) (v := .ref (q 34)) (C := RX7) (T := TX7) (N := 56) hx hb hts (fun _ h => List.mem_cons_of_mem _ (List.mem_append_right _ h)) hown hK hP 0 rfl rfl 34 (by decide) (hts (.fieldLink RX7 68 "CrownTableModel" "pardoned" "[I") (mem_i 5 rfl)) (fun _ h9 => h9) rfl dX7_sum_127 ?_
        refine lv_iload hx hb dX7_sum_130 (lv_at hl 3 rfl) ?_
        refine va_iald hx hb hK hP 4 1 rfl rfl (vin (a := L4.toInt) rfl (by omega) (by omega)) dX7_sum_132 ?_
        refine lv_topi (fun x_19 ex_19 => ?_)
        refine lv_i2l hx hb dX7_sum_133 rfl ?_
        refine lv_ladd hx hb dX7_sum_134 ?_
        refine lv_topl (fun x_20 ex_20 => ?_)
        refine lv_lstore_n (lv' := [(2, .long x_20), (0, .ref A_self), (1, .int a1), (4, .int L4)]) hx hb dX7_sum_135 rfl hl (by decide) rfl (fun ls hl => ?_)
        obtain ⟨x_21, ex_21⟩ : ∃ y : Int32, y = L4 + 1 := ⟨_, rfl⟩
        have tx_21 : x_21.toInt = L4.toInt + 1 := by rw [ex_21]; exact add_ti (a := L4.toInt) (b := 1) rfl (by decide) (by omega) (by omega)
        refine lv_iinc (v := x_21) (lv' := [(4, .int x_21), (2, .long x_20), (0, .ref A_self), (1, .int a1)]) hx hb dX7_sum_136 hl (k := 3) rfl (by rw [ex_21]; rfl) (by decide) rfl (fun ls hl => ?_)
        refine lv_goto (tgt := 116) hx hb dX7_sum_139 (by decide) ?_
        have hl := lv_sub hl [2, 3, 1, 0] rfl
        exact (ih116 ((400 - x_21.toInt).toNat) (by omega) x_20 x_21 (by omega) (by omega) (by omega) rfl _ hl)
    have kzz_22 : (0 : Int32).toInt = 0 := by decide
    have hl := lv_sub hl [2, 3, 1, 0] rfl
    exact (lp_116 _ 0 0 (by omega) (by omega) (by omega) rfl _ hl)
  by_cases k_23 : i_a1 = 5
  · have ek_23 : a1.toInt = 5 := hi_a1.trans k_23
    refine lv_tableIn (tgt := 144) hx hb dX7_sum_3 (by rw [ek_23]; decide) (by rw [ek_23]; decide) (by rw [ek_23]; rfl) (by decide) ?_
    refine lv_iconst (v := 0) hx hb dX7_sum_144 (by decide) ?_
    refine lv_istore (lv' := [(4, .int 0), (2, .long 0), (0, .ref A_self), (1, .int a1)]) hx hb dX7_sum_145 hl (by decide) rfl (fun ls hl => ?_)
    have lp_147 : ∀ (N : Nat) (L2 : Int64) (L4 : Int32) (hf147_0 : 0 ≤ L4.toInt) (hf147_1 : L4.toInt ≤ 400) (hf147_2 : L4.toInt ≤ (v 27).toInt) (hN147 : (400 - L4.toInt).toNat = N) (ls : Array Slot), lv_has ls 5 [(0, .ref A_self), (1, .int a1), (2, .long L2), (4, .int L4)] → W p l e (headSpec wsX7_sum ({ frames := 2, cells := 0, slots := 0, locals := 43 })).room s m (([.ref A_self, .int a1] : List Value).toArray) below meth cd s.heap [] 0 0 (MQ below (vp_Sl (fun r : Int64 => True)) ([.ref A_self, .int a1] : List Value).toArray s 0 0 (fun _ => False)) (F0 m 147 ls []) := by
      refine st_ind (fun N ih147 => ?_)
      intro L2 L4 hf147_0 hf147_1 hf147_2 hN147 ls hl
      refine lv_iload hx hb dX7_sum_147 (lv_at hl 3 rfl) ?_
      refine lv_aload_n hx hb dX7_sum_149 rfl (lv_at hl 0 rfl) ?_
      refine va_get (D := D) (ci := 7) (v := .int (v 27)) (C := RX7) (T := TX7) (N := 56) hx hb hts (fun _ h => List.mem_cons_of_mem _ (List.mem_append_right _ h)) hown hK hP 0 rfl rfl 27 (by decide) (hts (.fieldLink RX7 277 "CrownTableModel" "debts" "I") (mem_i 3 rfl)) (fun _ h9 => h9) rfl dX7_sum_150 ?_
      refine iicmp_ge (a := L4.toInt) (b := (v 27).toInt) (tgt := 173) hx hb rfl rfl dX7_sum_153 (by decide) (fun k_24 => ?_) (fun k_24 => ?_)
      · skip
        refine lv_lload_n hx hb dX7_sum_173 rfl (lv_at hl 2 rfl) ?_
        exact W.lret (v := L2) hx hb hr (fun t ht hW => ⟨_, rfl, trivial, ht⟩) (fun _ h => by cases h) dX7_sum_174
      · skip
        refine lv_lload_n hx hb dX7_sum_156 rfl (lv_at hl 2 rfl) ?_
        refine lv_aload_n hx hb dX7_sum_157 rfl (lv_at hl 0 rfl) ?_
        refine va_get (D := D) (ci := 7) (v := .ref (q 30)) (C := RX7) (T := TX7) (N := 56) hx hb hts (fun _ h => List.mem_cons_of_mem _ (List.mem_append_right _ h)) hown hK hP 0 rfl rfl 30 (by decide) (hts (.fieldLink RX7 56 "CrownTableModel" "whole" "[I") (mem_i 6 rfl)) (fun _ h9 => h9) rfl dX7_sum_158 ?_
        refine lv_iload hx hb dX7_sum_161 (lv_at hl 3 rfl) ?_
        refine va_iald hx hb hK hP 5 1 rfl rfl (vin (a := L4.toInt) rfl (by omega) (by omega)) dX7_sum_163 ?_
        refine lv_topi (fun x_25 ex_25 => ?_)
        refine lv_i2l hx hb dX7_sum_164 rfl ?_
        refine lv_ladd hx hb dX7_sum_165 ?_
        refine lv_topl (fun x_26 ex_26 => ?_)
        refine lv_lstore_n (lv' := [(2, .long x_26), (0, .ref A_self), (1, .int a1), (4, .int L4)]) hx hb dX7_sum_166 rfl hl (by decide) rfl (fun ls hl => ?_)
        obtain ⟨x_27, ex_27⟩ : ∃ y : Int32, y = L4 + 1 := ⟨_, rfl⟩
        have tx_27 : x_27.toInt = L4.toInt + 1 := by rw [ex_27]; exact add_ti (a := L4.toInt) (b := 1) rfl (by decide) (by omega) (by omega)
        refine lv_iinc (v := x_27) (lv' := [(4, .int x_27), (2, .long x_26), (0, .ref A_self), (1, .int a1)]) hx hb dX7_sum_167 hl (k := 3) rfl (by rw [ex_27]; rfl) (by decide) rfl (fun ls hl => ?_)
        refine lv_goto (tgt := 147) hx hb dX7_sum_170 (by decide) ?_
        have hl := lv_sub hl [2, 3, 1, 0] rfl
        exact (ih147 ((400 - x_27.toInt).toNat) (by omega) x_26 x_27 (by omega) (by omega) (by omega) rfl _ hl)
    have kzz_28 : (0 : Int32).toInt = 0 := by decide
    have hl := lv_sub hl [2, 3, 1, 0] rfl
    exact (lp_147 _ 0 0 (by omega) (by omega) (by omega) rfl _ hl)
  by_cases k_29 : i_a1 = 6
  · have ek_29 : a1.toInt = 6 := hi_a1.trans k_29
    refine lv_tableIn (tgt := 175) hx hb dX7_sum_3 (by rw [ek_29]; decide) (by rw [ek_29]; decide) (by rw [ek_29]; rfl) (by decide) ?_
    refine lv_aload_n hx hb dX7_sum_175 rfl (lv_at hl 1 rfl) ?_
    refine va_get (D := D) (ci := 7) (v := .long (w 39)) (C := RX7) (T := TX7) (N := 56) hx hb hts (fun _ h => List.mem_cons_of_mem _ (List.mem_append_right _ h)) hown hK hP 0 rfl rfl 39 (by decide) (hts (.fieldLink RX7 325 "CrownTableModel" "brought" "J") (mem_i 7 rfl)) (fun _ h9 => h9) rfl dX7_sum_176 ?_
    exact W.lret (v := (w 39)) hx hb hr (fun t ht hW => ⟨_, rfl, trivial, ht⟩) (fun _ h => by cases h) dX7_sum_179
  refine lv_tableOut (tgt := 180) hx hb dX7_sum_3 (by rw [hi_a1]; omega) (by decide) ?_
  refine lv_ldc2 (v := (-1)) hx hb hown (hts (.constantLong RX7 338 (-1)) (mem_i 8 rfl)) dX7_sum_180 ?_
  exact W.lret (v := (-1)) hx hb hr (fun t ht hW => ⟨_, rfl, trivial, ht⟩) (fun _ h => by cases h) dX7_sum_183
