set_option maxHeartbeats 4000000 in
set_option maxRecDepth 100000 in
theorem k_X7_allOf (l : Launch) (D : va_G) (c : Nat → ClassId) (ts : Nat × Nat) (sz : Nat) (A_self : Nat) (q : Nat → Nat) (v : Nat → Int32) (w : Nat → Int64) (f_debtor : Nat → Int32) (f_left : Nat → Int32) (a1 : Int32) (i_a1 : Int) (hi_a1 : a1.toInt = i_a1) (hv_2 : 0 ≤ (v 2).toInt ∧ (v 2).toInt ≤ 800) (hv_8 : 0 ≤ (v 8).toInt ∧ (v 8).toInt ≤ 10) (hv_21 : 0 ≤ (v 21).toInt ∧ (v 21).toInt ≤ 40) (hv_24 : 0 ≤ (v 24).toInt ∧ (v 24).toInt ≤ 1000) (hv_27 : 0 ≤ (v 27).toInt ∧ (v 27).toInt ≤ 400) (hv_42 : 0 ≤ (v 42).toInt ∧ (v 42).toInt ≤ 4000) (hv_52 : 0 ≤ (v 52).toInt ∧ (v 52).toInt ≤ 2000) (hc_debtor : ∀ j : Nat, 0 ≤ (f_debtor j).toInt ∧ (f_debtor j).toInt ≤ 15) : Met l yX7_allOf wsX7_allOf ({ frames := 0, cells := 0, slots := 0, locals := 0 }) (va_Pc [.ref A_self, .int a1] (Pre0 D c ts [(A_self, .inr (7, o7 q v w)), (q 28, .inl (c 1, 400, .inl f_debtor)), (q 31, .inl (c 1, 400, .inl f_left))] sz)) (vp_Sl (fun r : Int64 => True)) 0 0 (fun _ => False) := by
  refine Met.ofW (cc := cX7_allOf) (maxL := 5) (ret := (some .long)) (by decide) rfl ?_
  intro p e s m args below meth cd s₁ B hml hv
  obtain ⟨rfl, hsz, hP, hD0, hAm, hSt⟩ := hv
  have hx := B.exec
  have hb := B.bytes
  have hr := B.returns
  have hts := atoms_spec (ws := wsX7_allOf) B.pre
  have hown : s.vm.findClass RX7 = some m.cls := findClass_of_methodNamed B.named
  have hlocks := B.notSynchronized
  have hK := hAm.1
  subst hsz
  have hD := hD0.self (sz := s.heap.size)
  generalize hAe : va_A [(A_self, .inr (7, o7 q v w)), (q 28, .inl (c 1, 400, .inl f_debtor)), (q 31, .inl (c 1, 400, .inl f_left))] s.heap.size = A at hD hSt
  have hA : ∀ q : Nat, s.heap.size ≤ q → A q := fun q h => by rw [← hAe]; exact Or.inr h
  have hS : va_S A s.heap s.heap [] := va_S.rf
  clear hD0 hAe
  have hl := lv_entry ([.ref A_self, .int a1]) (n := 5) (Nat.le_of_ble_eq_true rfl)
  rw [lg_entry_eq]
  generalize (lg_sl ([.ref A_self, .int a1]) ++ List.replicate (5 - (lg_sl ([.ref A_self, .int a1])).length) Slot.unset).toArray = ls at hl ⊢
  have hl : lv_has ls 5 [(0, .ref A_self), (1, .int a1)] := hl
  have rg_a1 := i32r a1
  refine lv_lconst (v := 0) hx hb dX7_allOf_0 (by decide) ?_
  refine lv_lstore_n (lv' := [(2, .long 0), (0, .ref A_self), (1, .int a1)]) hx hb dX7_allOf_1 rfl hl (by decide) rfl (fun ls hl => ?_)
  refine lv_iconst (v := 0) hx hb dX7_allOf_2 (by decide) ?_
  refine lv_istore (lv' := [(4, .int 0), (2, .long 0), (0, .ref A_self), (1, .int a1)]) hx hb dX7_allOf_3 hl (by decide) rfl (fun ls hl => ?_)
  have lp_5 : ∀ (N : Nat) (L2 : Int64) (L4 : Int32) (hf5_0 : 0 ≤ L4.toInt) (hf5_1 : L4.toInt ≤ 400) (hf5_2 : L4.toInt ≤ (v 27).toInt) (hN5 : (400 - L4.toInt).toNat = N) (ls : Array Slot), lv_has ls 5 [(0, .ref A_self), (1, .int a1), (2, .long L2), (4, .int L4)] → W p l e (headSpec wsX7_allOf ({ frames := 0, cells := 0, slots := 0, locals := 0 })).room s m (([.ref A_self, .int a1] : List Value).toArray) below meth cd s.heap [] 0 0 (MQ below (vp_Sl (fun r : Int64 => True)) ([.ref A_self, .int a1] : List Value).toArray s 0 0 (fun _ => False)) (F0 m 5 ls []) := by
    refine st_ind (fun N ih5 => ?_)
    intro L2 L4 hf5_0 hf5_1 hf5_2 hN5 ls hl
    refine lv_iload hx hb dX7_allOf_5 (lv_at hl 3 rfl) ?_
    refine lv_aload_n hx hb dX7_allOf_7 rfl (lv_at hl 0 rfl) ?_
    refine va_get (D := D) (ci := 7) (v := .int (v 27)) (C := RX7) (T := TX7) (N := 56) hx hb hts (fun _ h => List.mem_cons_of_mem _ (List.mem_append_right _ h)) hown hK hP 0 rfl rfl 27 (by decide) (hts (.fieldLink RX7 277 "CrownTableModel" "debts" "I") (mem_i 1 rfl)) (fun _ h9 => h9) rfl dX7_allOf_8 ?_
    refine iicmp_ge (a := L4.toInt) (b := (v 27).toInt) (tgt := 46) hx hb rfl rfl dX7_allOf_11 (by decide) (fun k_1 => ?_) (fun k_1 => ?_)
    · skip
      refine lv_lload_n hx hb dX7_allOf_46 rfl (lv_at hl 2 rfl) ?_
      exact W.lret (v := L2) hx hb hr (fun t ht hW => ⟨_, rfl, trivial, ht⟩) (fun _ h => by cases h) dX7_allOf_47
    · skip
      refine lv_lload_n hx hb dX7_allOf_14 rfl (lv_at hl 2 rfl) ?_
      have lp_38 : ∀ (K0 : Int64) (ls : Array Slot), lv_has ls 5 [(0, .ref A_self), (1, .int a1), (2, .long L2), (4, .int L4)] → W p l e (headSpec wsX7_allOf ({ frames := 0, cells := 0, slots := 0, locals := 0 })).room s m (([.ref A_self, .int a1] : List Value).toArray) below meth cd s.heap [] 0 0 (MQ below (vp_Sl (fun r : Int64 => True)) ([.ref A_self, .int a1] : List Value).toArray s 0 0 (fun _ => False)) (F0 m 38 ls [.long K0, .long L2]) := by
        intro K0 ls hl
        refine lv_ladd hx hb dX7_allOf_38 ?_
        refine lv_topl (fun x_2 ex_2 => ?_)
        refine lv_lstore_n (lv' := [(2, .long x_2), (0, .ref A_self), (1, .int a1), (4, .int L4)]) hx hb dX7_allOf_39 rfl hl (by decide) rfl (fun ls hl => ?_)
        obtain ⟨x_3, ex_3⟩ : ∃ y : Int32, y = L4 + 1 := ⟨_, rfl⟩
        have tx_3 : x_3.toInt = L4.toInt + 1 := by rw [ex_3]; exact add_ti (a := L4.toInt) (b := 1) rfl (by decide) (by omega) (by omega)
        refine lv_iinc (v := x_3) (lv' := [(4, .int x_3), (2, .long x_2), (0, .ref A_self), (1, .int a1)]) hx hb dX7_allOf_40 hl (k := 3) rfl (by rw [ex_3]; rfl) (by decide) rfl (fun ls hl => ?_)
        refine lv_goto (tgt := 5) hx hb dX7_allOf_43 (by decide) ?_
        have hl := lv_sub hl [2, 3, 1, 0] rfl
        exact (ih5 ((400 - x_3.toInt).toNat) (by omega) x_2 x_3 (by omega) (by omega) (by omega) rfl _ hl)
      refine lv_aload_n hx hb dX7_allOf_15 rfl (lv_at hl 0 rfl) ?_
      refine va_get (D := D) (ci := 7) (v := .ref (q 28)) (C := RX7) (T := TX7) (N := 56) hx hb hts (fun _ h => List.mem_cons_of_mem _ (List.mem_append_right _ h)) hown hK hP 0 rfl rfl 28 (by decide) (hts (.fieldLink RX7 50 "CrownTableModel" "debtor" "[I") (mem_i 2 rfl)) (fun _ h9 => h9) rfl dX7_allOf_16 ?_
      refine lv_iload hx hb dX7_allOf_19 (lv_at hl 3 rfl) ?_
      refine va_iald hx hb hK hP 1 1 rfl rfl (vin (a := L4.toInt) rfl (by omega) (by omega)) dX7_allOf_21 ?_
      refine lv_topi (fun x_4 ex_4 => ?_)
      have ld_5 := hc_debtor (L4.toNatClampNeg)
      rw [← ex_4] at ld_5
      refine lv_iload_n hx hb dX7_allOf_22 rfl (lv_at hl 1 rfl) ?_
      refine iicmp_ne (a := x_4.toInt) (b := i_a1) (tgt := 37) hx hb rfl hi_a1 dX7_allOf_23 (by decide) (fun k_6 => ?_) (fun k_6 => ?_)
      · skip
        refine lv_lconst (v := 0) hx hb dX7_allOf_37 (by decide) ?_
        exact lp_38 0 _ hl
      · skip
        refine lv_aload_n hx hb dX7_allOf_26 rfl (lv_at hl 0 rfl) ?_
        refine va_get (D := D) (ci := 7) (v := .ref (q 31)) (C := RX7) (T := TX7) (N := 56) hx hb hts (fun _ h => List.mem_cons_of_mem _ (List.mem_append_right _ h)) hown hK hP 0 rfl rfl 31 (by decide) (hts (.fieldLink RX7 59 "CrownTableModel" "left" "[I") (mem_i 3 rfl)) (fun _ h9 => h9) rfl dX7_allOf_27 ?_
        refine lv_iload hx hb dX7_allOf_30 (lv_at hl 3 rfl) ?_
        refine va_iald hx hb hK hP 2 1 rfl rfl (vin (a := L4.toInt) rfl (by omega) (by omega)) dX7_allOf_32 ?_
        refine lv_topi (fun x_7 ex_7 => ?_)
        refine lv_i2l hx hb dX7_allOf_33 rfl ?_
        refine lv_goto (tgt := 38) hx hb dX7_allOf_34 (by decide) ?_
        exact lp_38 x_7.toInt64 _ hl
  have kzz_8 : (0 : Int32).toInt = 0 := by decide
  have hl := lv_sub hl [2, 3, 1, 0] rfl
  exact (lp_5 _ 0 0 (by omega) (by omega) (by omega) rfl _ hl)

set_option maxHeartbeats 4000000 in
set_option maxRecDepth 100000 in
theorem k_X7_free (l : Launch) (D : va_G) (c : Nat → ClassId) (ts : Nat × Nat) (sz : Nat) (A_self : Nat) (q : Nat → Nat) (v : Nat → Int32) (w : Nat → Int64) (f_held : Nat → Int32) (a1 : Int32) (i_a1 : Int) (hi_a1 : a1.toInt = i_a1) (hv_2 : 0 ≤ (v 2).toInt ∧ (v 2).toInt ≤ 800) (hv_8 : 0 ≤ (v 8).toInt ∧ (v 8).toInt ≤ 10) (hv_21 : 0 ≤ (v 21).toInt ∧ (v 21).toInt ≤ 40) (hv_24 : 0 ≤ (v 24).toInt ∧ (v 24).toInt ≤ 1000) (hv_27 : 0 ≤ (v 27).toInt ∧ (v 27).toInt ≤ 400) (hv_42 : 0 ≤ (v 42).toInt ∧ (v 42).toInt ≤ 4000) (hv_52 : 0 ≤ (v 52).toInt ∧ (v 52).toInt ≤ 2000) : Met l yX7_free wsX7_free ({ frames := 2, cells := 0, slots := 0, locals := 42 }) (va_Pc [.ref A_self, .int a1] (Pre0 D c ts [(A_self, .inr (7, o7 q v w)), (q 36, .inl (c 3, 16, .inl f_held))] sz)) (va_Qi (fun (r : Int32) (u : (Nat → Int32) × Unit) => True) (fun u t => va_P D vwCl [(A_self, .inr (7, o7 q v w)), (q 36, .inl (c 3, 16, .inl u.1))] t.heap ∧ va_D (va_A [(A_self, .inr (7, o7 q v w)), (q 36, .inl (c 3, 16, .inl f_held))] sz) [(A_self, .inr (7, o7 q v w)), (q 36, .inl (c 3, 16, .inl u.1))]) (va_A [(A_self, .inr (7, o7 q v w)), (q 36, .inl (c 3, 16, .inl f_held))] sz)) 0 0 (va_A [(A_self, .inr (7, o7 q v w)), (q 36, .inl (c 3, 16, .inl f_held))] sz) := by
  refine Met.ofW (cc := cX7_free) (maxL := 3) (ret := (some .int)) (by decide) rfl ?_
  intro p e s m args below meth cd s₁ B hml hv
  obtain ⟨rfl, hsz, hP, hD0, hAm, hSt⟩ := hv
  have hx := B.exec
  have hb := B.bytes
  have hr := B.returns
  have hts := atoms_spec (ws := wsX7_free) B.pre
  have hown : s.vm.findClass RX7 = some m.cls := findClass_of_methodNamed B.named
  have hlocks := B.notSynchronized
  have hK := hAm.1
  subst hsz
  have hD := hD0.self (sz := s.heap.size)
  generalize hAe : va_A [(A_self, .inr (7, o7 q v w)), (q 36, .inl (c 3, 16, .inl f_held))] s.heap.size = A at hD hSt ⊢
  have hA : ∀ q : Nat, s.heap.size ≤ q → A q := fun q h => by rw [← hAe]; exact Or.inr h
  have hS : va_S A s.heap s.heap [] := va_S.rf
  clear hD0 hAe
  have hl := lv_entry ([.ref A_self, .int a1]) (n := 3) (Nat.le_of_ble_eq_true rfl)
  rw [lg_entry_eq]
  generalize (lg_sl ([.ref A_self, .int a1]) ++ List.replicate (3 - (lg_sl ([.ref A_self, .int a1])).length) Slot.unset).toArray = ls at hl ⊢
  have hl : lv_has ls 3 [(0, .ref A_self), (1, .int a1)] := hl
  have rg_a1 := i32r a1
  refine lv_iload_n hx hb dX7_free_0 rfl (lv_at hl 1 rfl) ?_
  have hPc := hP.sub (ws' := []) [] rfl
  have hDc := hD.sub (ws' := []) [] (by decide) rfl
  have hFc := va_free (wc := []) hD hS hA [] rfl
  refine va_csi (va_runS (As := [.int a1]) (rest := []) ⟨hx, hb, hml, hown, hts⟩ (k_X7_isPerson l D c ts s.heap.size a1 i_a1 hi_a1) (cwS 1 hts gX7_free_X7_isPerson rfl rfl rfl ⟨rfl, hdX7_isPerson⟩ ⟨(show 1 + 1 ≤ 2 by decide), (show 8 + (1 + 11) + 22 ≤ 42 by decide)⟩) ⟨Pre0.blind, Pre0.at hPc hDc hAm hSt hS hFc⟩ rfl rfl hl.1 rfl (lv_room (Nat.le_of_ble_eq_true rfl)) dX7_free_1 ⟨(show 0 + 0 ≤ 0 by decide), (show 0 + 0 ≤ 0 by decide)⟩) (fun r_2 hw_1 => ?_)
  rcases hw_1 with ⟨hw_1, rfl⟩ | ⟨hw_1, rfl⟩
  · skip
    refine iif_neT (a := 1) (tgt := 9) hx hb (by decide) dX7_free_4 (by decide) (by decide) ?_
    refine lv_aload_n hx hb dX7_free_9 rfl (lv_at hl 0 rfl) ?_
    refine va_get (D := D) (ci := 7) (v := .ref (q 36)) (C := RX7) (T := TX7) (N := 56) hx hb hts (fun _ h => List.mem_cons_of_mem _ (List.mem_append_right _ h)) hown hK hP 0 rfl rfl 36 (by decide) (hts (.fieldLink RX7 75 "CrownTableModel" "held" "[Z") (mem_i 1 rfl)) (fun _ h9 => h9) rfl dX7_free_10 ?_
    refine lv_iload_n hx hb dX7_free_13 rfl (lv_at hl 1 rfl) ?_
    refine va_zald hx hb hK hP 1 3 rfl rfl (vin (a := i_a1) hi_a1 (by omega) (by omega)) dX7_free_14 ?_
    refine lv_topi (fun x_3 ex_3 => ?_)
    refine iif_eq (a := x_3.toInt) (tgt := 22) hx hb rfl dX7_free_15 (by decide) (fun k_4 => ?_) (fun k_4 => ?_)
    · skip
      refine lv_iconst (v := 0) hx hb dX7_free_22 (by decide) ?_
      refine lv_istore_n (lv' := [(2, .int 0), (0, .ref A_self), (1, .int a1)]) hx hb dX7_free_23 rfl hl (by decide) rfl (fun ls hl => ?_)
      refine lv_aload_n hx hb dX7_free_24 rfl (lv_at hl 1 rfl) ?_
      refine va_get (D := D) (ci := 7) (v := .ref (q 36)) (C := RX7) (T := TX7) (N := 56) hx hb hts (fun _ h => List.mem_cons_of_mem _ (List.mem_append_right _ h)) hown hK hP 0 rfl rfl 36 (by decide) (hts (.fieldLink RX7 75 "CrownTableModel" "held" "[Z") (mem_i 1 rfl)) (fun _ h9 => h9) rfl dX7_free_25 ?_
      refine lv_iload_n hx hb dX7_free_28 rfl (lv_at hl 2 rfl) ?_
      refine lv_iconst (v := 0) hx hb dX7_free_29 (by decide) ?_
      refine va_zast hx hb hK hP hD hS 1 3 rfl rfl (vin (a := i_a1) hi_a1 (by omega) (by omega)) dX7_free_30 (fun H locs hP hD hS => ?_)
      obtain ⟨f_5, ef_5, hP, hD⟩ : ∃ f_5 : Nat → Int32, f_5 = upd f_held a1.toNatClampNeg (vp_nar .boolean 0) ∧ va_P D vwCl [(A_self, .inr (7, o7 q v w)), (q 36, .inl (c 3, 16, .inl f_5))] H ∧ va_D A [(A_self, .inr (7, o7 q v w)), (q 36, .inl (c 3, 16, .inl f_5))] := ⟨_, rfl, hP, hD⟩
      refine lv_iload_n hx hb dX7_free_31 rfl (lv_at hl 0 rfl) ?_
      have kzz_6 : (0 : Int32).toInt = 0 := by decide
      have hP9 := hP.sub (ws' := [(A_self, .inr (7, o7 q v w)), (q 36, .inl (c 3, 16, .inl f_5))]) [0, 1] rfl
      have hD9 := hD.sub (ws' := [(A_self, .inr (7, o7 q v w)), (q 36, .inl (c 3, 16, .inl f_5))]) [0, 1] (by decide) rfl
      refine W.widen (k := 0) (n := 0) (by omega) (by omega) ?_
      exact W.iret (v := 0) hx hb hr (fun t ht hW => ⟨⟨_, (f_5, ()), rfl, trivial, ⟨by rw [ht]; exact hP9, hD9⟩⟩, hS.F ht⟩) hS.2.2 dX7_free_32
    · skip
      refine lv_iconst (v := 1) hx hb dX7_free_18 (by decide) ?_
      refine lv_goto (tgt := 23) hx hb dX7_free_19 (by decide) ?_
      refine lv_istore_n (lv' := [(2, .int 1), (0, .ref A_self), (1, .int a1)]) hx hb dX7_free_23 rfl hl (by decide) rfl (fun ls hl => ?_)
      refine lv_aload_n hx hb dX7_free_24 rfl (lv_at hl 1 rfl) ?_
      refine va_get (D := D) (ci := 7) (v := .ref (q 36)) (C := RX7) (T := TX7) (N := 56) hx hb hts (fun _ h => List.mem_cons_of_mem _ (List.mem_append_right _ h)) hown hK hP 0 rfl rfl 36 (by decide) (hts (.fieldLink RX7 75 "CrownTableModel" "held" "[Z") (mem_i 1 rfl)) (fun _ h9 => h9) rfl dX7_free_25 ?_
      refine lv_iload_n hx hb dX7_free_28 rfl (lv_at hl 2 rfl) ?_
      refine lv_iconst (v := 0) hx hb dX7_free_29 (by decide) ?_
      refine va_zast hx hb hK hP hD hS 1 3 rfl rfl (vin (a := i_a1) hi_a1 (by omega) (by omega)) dX7_free_30 (fun H locs hP hD hS => ?_)
      obtain ⟨f_7, ef_7, hP, hD⟩ : ∃ f_7 : Nat → Int32, f_7 = upd f_held a1.toNatClampNeg (vp_nar .boolean 0) ∧ va_P D vwCl [(A_self, .inr (7, o7 q v w)), (q 36, .inl (c 3, 16, .inl f_7))] H ∧ va_D A [(A_self, .inr (7, o7 q v w)), (q 36, .inl (c 3, 16, .inl f_7))] := ⟨_, rfl, hP, hD⟩
      refine lv_iload_n hx hb dX7_free_31 rfl (lv_at hl 0 rfl) ?_
      have kzz_8 : (1 : Int32).toInt = 1 := by decide
      have hP9 := hP.sub (ws' := [(A_self, .inr (7, o7 q v w)), (q 36, .inl (c 3, 16, .inl f_7))]) [0, 1] rfl
      have hD9 := hD.sub (ws' := [(A_self, .inr (7, o7 q v w)), (q 36, .inl (c 3, 16, .inl f_7))]) [0, 1] (by decide) rfl
      refine W.widen (k := 0) (n := 0) (by omega) (by omega) ?_
      exact W.iret (v := 1) hx hb hr (fun t ht hW => ⟨⟨_, (f_7, ()), rfl, trivial, ⟨by rw [ht]; exact hP9, hD9⟩⟩, hS.F ht⟩) hS.2.2 dX7_free_32
  · skip
    refine iif_neF (a := 0) (tgt := 9) hx hb (by decide) dX7_free_4 (by decide) (by decide) ?_
    refine lv_iconst (v := (-1)) hx hb dX7_free_7 (by decide) ?_
    have kzz_9 : ((-1) : Int32).toInt = (-1) := by decide
    have hP9 := hP.sub (ws' := [(A_self, .inr (7, o7 q v w)), (q 36, .inl (c 3, 16, .inl f_held))]) [0, 1] rfl
    have hD9 := hD.sub (ws' := [(A_self, .inr (7, o7 q v w)), (q 36, .inl (c 3, 16, .inl f_held))]) [0, 1] (by decide) rfl
    refine W.widen (k := 0) (n := 0) (by omega) (by omega) ?_
    exact W.iret (v := (-1)) hx hb hr (fun t ht hW => ⟨⟨_, (f_held, ()), rfl, trivial, ⟨by rw [ht]; exact hP9, hD9⟩⟩, hS.F ht⟩) hS.2.2 dX7_free_8

set_option maxHeartbeats 4000000 in
set_option maxRecDepth 100000 in
theorem k_X7_heir (l : Launch) (D : va_G) (c : Nat → ClassId) (ts : Nat × Nat) (sz : Nat) (A_self : Nat) (q : Nat → Nat) (v : Nat → Int32) (w : Nat → Int64) (f_debtor : Nat → Int32) (f_left : Nat → Int32) (f_pledge : Nat → Int32) (f_credit : Nat → Int64) (a1 : Int32) (i_a1 : Int) (hi_a1 : a1.toInt = i_a1) (a2 : Int32) (i_a2 : Int) (hi_a2 : a2.toInt = i_a2) (hv_2 : 0 ≤ (v 2).toInt ∧ (v 2).toInt ≤ 800) (hv_8 : 0 ≤ (v 8).toInt ∧ (v 8).toInt ≤ 10) (hv_21 : 0 ≤ (v 21).toInt ∧ (v 21).toInt ≤ 40) (hv_24 : 0 ≤ (v 24).toInt ∧ (v 24).toInt ≤ 1000) (hv_27 : 0 ≤ (v 27).toInt ∧ (v 27).toInt ≤ 400) (hv_42 : 0 ≤ (v 42).toInt ∧ (v 42).toInt ≤ 4000) (hv_52 : 0 ≤ (v 52).toInt ∧ (v 52).toInt ≤ 2000) (hc_debtor : ∀ j : Nat, 0 ≤ (f_debtor j).toInt ∧ (f_debtor j).toInt ≤ 15) (hc_pledge : ∀ j : Nat, -1 ≤ (f_pledge j).toInt ∧ (f_pledge j).toInt ≤ 15) : Met l yX7_heir wsX7_heir ({ frames := 2, cells := 0, slots := 0, locals := 42 }) (va_Pc [.ref A_self, .int a1, .int a2] (Pre0 D c ts [(A_self, .inr (7, o7 q v w)), (q 28, .inl (c 1, 400, .inl f_debtor)), (q 31, .inl (c 1, 400, .inl f_left)), (q 33, .inl (c 1, 400, .inl f_pledge)), (q 35, .inl (c 2, 16, .inr (.inl f_credit)))] sz)) (va_Qi (fun (r : Int32) (u : (Nat → Int32) × (Nat → Int32) × (Nat → Int64) × Unit) => (∀ j : Nat, 0 ≤ (u.1 j).toInt ∧ (u.1 j).toInt ≤ 15) ∧ (∀ j : Nat, -1 ≤ (u.2.1 j).toInt ∧ (u.2.1 j).toInt ≤ 15)) (fun u t => va_P D vwCl [(A_self, .inr (7, o7 q v w)), (q 28, .inl (c 1, 400, .inl u.1)), (q 31, .inl (c 1, 400, .inl f_left)), (q 33, .inl (c 1, 400, .inl u.2.1)), (q 35, .inl (c 2, 16, .inr (.inl u.2.2.1)))] t.heap ∧ va_D (va_A [(A_self, .inr (7, o7 q v w)), (q 28, .inl (c 1, 400, .inl f_debtor)), (q 31, .inl (c 1, 400, .inl f_left)), (q 33, .inl (c 1, 400, .inl f_pledge)), (q 35, .inl (c 2, 16, .inr (.inl f_credit)))] sz) [(A_self, .inr (7, o7 q v w)), (q 28, .inl (c 1, 400, .inl u.1)), (q 31, .inl (c 1, 400, .inl f_left)), (q 33, .inl (c 1, 400, .inl u.2.1)), (q 35, .inl (c 2, 16, .inr (.inl u.2.2.1)))]) (va_A [(A_self, .inr (7, o7 q v w)), (q 28, .inl (c 1, 400, .inl f_debtor)), (q 31, .inl (c 1, 400, .inl f_left)), (q 33, .inl (c 1, 400, .inl f_pledge)), (q 35, .inl (c 2, 16, .inr (.inl f_credit)))] sz)) 0 0 (va_A [(A_self, .inr (7, o7 q v w)), (q 28, .inl (c 1, 400, .inl f_debtor)), (q 31, .inl (c 1, 400, .inl f_left)), (q 33, .inl (c 1, 400, .inl f_pledge)), (q 35, .inl (c 2, 16, .inr (.inl f_credit)))] sz) := by
  refine Met.ofW (cc := cX7_heir) (maxL := 5) (ret := (some .int)) (by decide) rfl ?_
  intro p e s m args below meth cd s₁ B hml hv
  obtain ⟨rfl, hsz, hP, hD0, hAm, hSt⟩ := hv
  have hx := B.exec
  have hb := B.bytes
  have hr := B.returns
  have hts := atoms_spec (ws := wsX7_heir) B.pre
  have hown : s.vm.findClass RX7 = some m.cls := findClass_of_methodNamed B.named
  have hlocks := B.notSynchronized
  have hK := hAm.1
  subst hsz
  have hD := hD0.self (sz := s.heap.size)
  generalize hAe : va_A [(A_self, .inr (7, o7 q v w)), (q 28, .inl (c 1, 400, .inl f_debtor)), (q 31, .inl (c 1, 400, .inl f_left)), (q 33, .inl (c 1, 400, .inl f_pledge)), (q 35, .inl (c 2, 16, .inr (.inl f_credit)))] s.heap.size = A at hD hSt ⊢
  have hA : ∀ q : Nat, s.heap.size ≤ q → A q := fun q h => by rw [← hAe]; exact Or.inr h
  have hS : va_S A s.heap s.heap [] := va_S.rf
  clear hD0 hAe
  have hl := lv_entry ([.ref A_self, .int a1, .int a2]) (n := 5) (Nat.le_of_ble_eq_true rfl)
  rw [lg_entry_eq]
  generalize (lg_sl ([.ref A_self, .int a1, .int a2]) ++ List.replicate (5 - (lg_sl ([.ref A_self, .int a1, .int a2])).length) Slot.unset).toArray = ls at hl ⊢
  have hl : lv_has ls 5 [(0, .ref A_self), (1, .int a1), (2, .int a2)] := hl
  have rg_a1 := i32r a1
  have rg_a2 := i32r a2
  refine lv_iload_n hx hb dX7_heir_0 rfl (lv_at hl 1 rfl) ?_
  have hPc := hP.sub (ws' := []) [] rfl
  have hDc := hD.sub (ws' := []) [] (by decide) rfl
  have hFc := va_free (wc := []) hD hS hA [] rfl
  refine va_csi (va_runS (As := [.int a1]) (rest := []) ⟨hx, hb, hml, hown, hts⟩ (k_X7_isPerson l D c ts s.heap.size a1 i_a1 hi_a1) (cwS 1 hts gX7_heir_X7_isPerson rfl rfl rfl ⟨rfl, hdX7_isPerson⟩ ⟨(show 1 + 1 ≤ 2 by decide), (show 8 + (1 + 11) + 22 ≤ 42 by decide)⟩) ⟨Pre0.blind, Pre0.at hPc hDc hAm hSt hS hFc⟩ rfl rfl hl.1 rfl (lv_room (Nat.le_of_ble_eq_true rfl)) dX7_heir_1 ⟨(show 0 + 0 ≤ 0 by decide), (show 0 + 0 ≤ 0 by decide)⟩) (fun r_2 hw_1 => ?_)
  rcases hw_1 with ⟨hw_1, rfl⟩ | ⟨hw_1, rfl⟩
  · skip
    refine iif_eqF (a := 1) (tgt := 19) hx hb (by decide) dX7_heir_4 (by decide) (by decide) ?_
    refine lv_iload_n hx hb dX7_heir_7 rfl (lv_at hl 2 rfl) ?_
    have hPc := hP.sub (ws' := []) [] rfl
    have hDc := hD.sub (ws' := []) [] (by decide) rfl
    have hFc := va_free (wc := []) hD hS hA [] rfl
    refine va_csi (va_runS (As := [.int a2]) (rest := []) ⟨hx, hb, hml, hown, hts⟩ (k_X7_isPerson l D c ts s.heap.size a2 i_a2 hi_a2) (cwS 1 hts gX7_heir_X7_isPerson rfl rfl rfl ⟨rfl, hdX7_isPerson⟩ ⟨(show 1 + 1 ≤ 2 by decide), (show 8 + (1 + 11) + 22 ≤ 42 by decide)⟩) ⟨Pre0.blind, Pre0.at hPc hDc hAm hSt hS hFc⟩ rfl rfl hl.1 rfl (lv_room (Nat.le_of_ble_eq_true rfl)) dX7_heir_8 ⟨(show 0 + 0 ≤ 0 by decide), (show 0 + 0 ≤ 0 by decide)⟩) (fun r_4 hw_3 => ?_)
    rcases hw_3 with ⟨hw_3, rfl⟩ | ⟨hw_3, rfl⟩
    · skip
      refine iif_eqF (a := 1) (tgt := 19) hx hb (by decide) dX7_heir_11 (by decide) (by decide) ?_
      refine lv_iload_n hx hb dX7_heir_14 rfl (lv_at hl 1 rfl) ?_
      refine lv_iload_n hx hb dX7_heir_15 rfl (lv_at hl 2 rfl) ?_
      refine iicmp_ne (a := i_a1) (b := i_a2) (tgt := 21) hx hb hi_a1 hi_a2 dX7_heir_16 (by decide) (fun k_5 => ?_) (fun k_5 => ?_)
      · skip
        refine lv_iconst (v := 0) hx hb dX7_heir_21 (by decide) ?_
        refine lv_istore_n (lv' := [(3, .int 0), (0, .ref A_self), (1, .int a1), (2, .int a2)]) hx hb dX7_heir_22 rfl hl (by decide) rfl (fun ls hl => ?_)
        refine lv_iconst (v := 0) hx hb dX7_heir_23 (by decide) ?_
        refine lv_istore (lv' := [(4, .int 0), (3, .int 0), (0, .ref A_self), (1, .int a1), (2, .int a2)]) hx hb dX7_heir_24 hl (by decide) rfl (fun ls hl => ?_)
        have lp_26 : ∀ (N : Nat) (L3 : Int32) (L4 : Int32) (M_debtor : Nat → Int32) (M_pledge : Nat → Int32) (hf26_0 : 0 ≤ L4.toInt) (hf26_1 : L4.toInt ≤ 400) (hf26_2 : ∀ j : Nat, 0 ≤ (M_debtor j).toInt ∧ (M_debtor j).toInt ≤ 15) (hf26_3 : ∀ j : Nat, -1 ≤ (M_pledge j).toInt ∧ (M_pledge j).toInt ≤ 15) (hf26_4 : L4.toInt ≤ (v 27).toInt) (hN26 : (400 - L4.toInt).toNat = N) (H : Heap) (locs : List Loc) (ls : Array Slot), va_P D vwCl [(A_self, .inr (7, o7 q v w)), (q 28, .inl (c 1, 400, .inl M_debtor)), (q 31, .inl (c 1, 400, .inl f_left)), (q 33, .inl (c 1, 400, .inl M_pledge)), (q 35, .inl (c 2, 16, .inr (.inl f_credit)))] H → va_D A [(A_self, .inr (7, o7 q v w)), (q 28, .inl (c 1, 400, .inl M_debtor)), (q 31, .inl (c 1, 400, .inl f_left)), (q 33, .inl (c 1, 400, .inl M_pledge)), (q 35, .inl (c 2, 16, .inr (.inl f_credit)))] → va_S A s.heap H locs → lv_has ls 5 [(0, .ref A_self), (1, .int a1), (2, .int a2), (3, .int L3), (4, .int L4)] → W p l e (headSpec wsX7_heir ({ frames := 2, cells := 0, slots := 0, locals := 42 })).room s m (([.ref A_self, .int a1, .int a2] : List Value).toArray) below meth cd H locs 0 0 (MQ below (va_Qi (fun (r : Int32) (u : (Nat → Int32) × (Nat → Int32) × (Nat → Int64) × Unit) => (∀ j : Nat, 0 ≤ (u.1 j).toInt ∧ (u.1 j).toInt ≤ 15) ∧ (∀ j : Nat, -1 ≤ (u.2.1 j).toInt ∧ (u.2.1 j).toInt ≤ 15)) (fun u t => va_P D vwCl [(A_self, .inr (7, o7 q v w)), (q 28, .inl (c 1, 400, .inl u.1)), (q 31, .inl (c 1, 400, .inl f_left)), (q 33, .inl (c 1, 400, .inl u.2.1)), (q 35, .inl (c 2, 16, .inr (.inl u.2.2.1)))] t.heap ∧ va_D A [(A_self, .inr (7, o7 q v w)), (q 28, .inl (c 1, 400, .inl u.1)), (q 31, .inl (c 1, 400, .inl f_left)), (q 33, .inl (c 1, 400, .inl u.2.1)), (q 35, .inl (c 2, 16, .inr (.inl u.2.2.1)))]) A) ([.ref A_self, .int a1, .int a2] : List Value).toArray s 0 0 A) (F0 m 26 ls []) := by
          refine st_ind (fun N ih26 => ?_)
          intro L3 L4 M_debtor M_pledge hf26_0 hf26_1 hf26_2 hf26_3 hf26_4 hN26 H locs ls hP hD hS hl
          have rg_L3 := i32r L3
          refine lv_iload hx hb dX7_heir_26 (lv_at hl 4 rfl) ?_
          refine lv_aload_n hx hb dX7_heir_28 rfl (lv_at hl 0 rfl) ?_
          refine va_get (D := D) (ci := 7) (v := .int (v 27)) (C := RX7) (T := TX7) (N := 56) hx hb hts (fun _ h => List.mem_cons_of_mem _ (List.mem_append_right _ h)) hown hK hP 0 rfl rfl 27 (by decide) (hts (.fieldLink RX7 277 "CrownTableModel" "debts" "I") (mem_i 1 rfl)) (fun _ h9 => h9) rfl dX7_heir_29 ?_
          refine iicmp_ge (a := L4.toInt) (b := (v 27).toInt) (tgt := 95) hx hb rfl rfl dX7_heir_32 (by decide) (fun k_6 => ?_) (fun k_6 => ?_)
          · skip
            refine lv_aload_n hx hb dX7_heir_95 rfl (lv_at hl 0 rfl) ?_
            refine va_get (D := D) (ci := 7) (v := .ref (q 35)) (C := RX7) (T := TX7) (N := 56) hx hb hts (fun _ h => List.mem_cons_of_mem _ (List.mem_append_right _ h)) hown hK hP 0 rfl rfl 35 (by decide) (hts (.fieldLink RX7 71 "CrownTableModel" "credit" "[J") (mem_i 5 rfl)) (fun _ h9 => h9) rfl dX7_heir_96 ?_
            refine lv_iload_n hx hb dX7_heir_99 rfl (lv_at hl 2 rfl) ?_
            refine lv_dup2_11 hx hb dX7_heir_100 rfl rfl ?_
            refine va_lald hx hb hK hP 4 2 rfl rfl (vin (a := i_a2) hi_a2 (by omega) (by omega)) dX7_heir_101 ?_
            refine lv_topl (fun x_7 ex_7 => ?_)
            refine lv_aload_n hx hb dX7_heir_102 rfl (lv_at hl 0 rfl) ?_
            refine va_get (D := D) (ci := 7) (v := .ref (q 35)) (C := RX7) (T := TX7) (N := 56) hx hb hts (fun _ h => List.mem_cons_of_mem _ (List.mem_append_right _ h)) hown hK hP 0 rfl rfl 35 (by decide) (hts (.fieldLink RX7 71 "CrownTableModel" "credit" "[J") (mem_i 5 rfl)) (fun _ h9 => h9) rfl dX7_heir_103 ?_
            refine lv_iload_n hx hb dX7_heir_106 rfl (lv_at hl 1 rfl) ?_
            refine va_lald hx hb hK hP 4 2 rfl rfl (vin (a := i_a1) hi_a1 (by omega) (by omega)) dX7_heir_107 ?_
            refine lv_topl (fun x_8 ex_8 => ?_)
            refine lv_ladd hx hb dX7_heir_108 ?_
            refine lv_topl (fun x_9 ex_9 => ?_)
            refine va_last hx hb hK hP hD hS 4 2 rfl rfl (vin (a := i_a2) hi_a2 (by omega) (by omega)) dX7_heir_109 (fun H locs hP hD hS => ?_)
            obtain ⟨g_10, eg_10, hP, hD⟩ : ∃ g_10 : Nat → Int64, g_10 = vp_updL f_credit a2.toNatClampNeg x_9 ∧ va_P D vwCl [(A_self, .inr (7, o7 q v w)), (q 28, .inl (c 1, 400, .inl M_debtor)), (q 31, .inl (c 1, 400, .inl f_left)), (q 33, .inl (c 1, 400, .inl M_pledge)), (q 35, .inl (c 2, 16, .inr (.inl g_10)))] H ∧ va_D A [(A_self, .inr (7, o7 q v w)), (q 28, .inl (c 1, 400, .inl M_debtor)), (q 31, .inl (c 1, 400, .inl f_left)), (q 33, .inl (c 1, 400, .inl M_pledge)), (q 35, .inl (c 2, 16, .inr (.inl g_10)))] := ⟨_, rfl, hP, hD⟩
            refine lv_aload_n hx hb dX7_heir_110 rfl (lv_at hl 0 rfl) ?_
            refine va_get (D := D) (ci := 7) (v := .ref (q 35)) (C := RX7) (T := TX7) (N := 56) hx hb hts (fun _ h => List.mem_cons_of_mem _ (List.mem_append_right _ h)) hown hK hP 0 rfl rfl 35 (by decide) (hts (.fieldLink RX7 71 "CrownTableModel" "credit" "[J") (mem_i 5 rfl)) (fun _ h9 => h9) rfl dX7_heir_111 ?_
            refine lv_iload_n hx hb dX7_heir_114 rfl (lv_at hl 1 rfl) ?_
            refine lv_lconst (v := 0) hx hb dX7_heir_115 (by decide) ?_
            refine va_last hx hb hK hP hD hS 4 2 rfl rfl (vin (a := i_a1) hi_a1 (by omega) (by omega)) dX7_heir_116 (fun H locs hP hD hS => ?_)
            obtain ⟨g_11, eg_11, hP, hD⟩ : ∃ g_11 : Nat → Int64, g_11 = vp_updL g_10 a1.toNatClampNeg 0 ∧ va_P D vwCl [(A_self, .inr (7, o7 q v w)), (q 28, .inl (c 1, 400, .inl M_debtor)), (q 31, .inl (c 1, 400, .inl f_left)), (q 33, .inl (c 1, 400, .inl M_pledge)), (q 35, .inl (c 2, 16, .inr (.inl g_11)))] H ∧ va_D A [(A_self, .inr (7, o7 q v w)), (q 28, .inl (c 1, 400, .inl M_debtor)), (q 31, .inl (c 1, 400, .inl f_left)), (q 33, .inl (c 1, 400, .inl M_pledge)), (q 35, .inl (c 2, 16, .inr (.inl g_11)))] := ⟨_, rfl, hP, hD⟩
            refine lv_iload_n hx hb dX7_heir_117 rfl (lv_at hl 3 rfl) ?_
            have hP9 := hP.sub (ws' := [(A_self, .inr (7, o7 q v w)), (q 28, .inl (c 1, 400, .inl M_debtor)), (q 31, .inl (c 1, 400, .inl f_left)), (q 33, .inl (c 1, 400, .inl M_pledge)), (q 35, .inl (c 2, 16, .inr (.inl g_11)))]) [0, 1, 2, 3, 4] rfl
            have hD9 := hD.sub (ws' := [(A_self, .inr (7, o7 q v w)), (q 28, .inl (c 1, 400, .inl M_debtor)), (q 31, .inl (c 1, 400, .inl f_left)), (q 33, .inl (c 1, 400, .inl M_pledge)), (q 35, .inl (c 2, 16, .inr (.inl g_11)))]) [0, 1, 2, 3, 4] (by decide) rfl
            refine W.widen (k := 0) (n := 0) (by omega) (by omega) ?_
            exact W.iret (v := L3) hx hb hr (fun t ht hW => ⟨⟨_, (M_debtor, M_pledge, g_11, ()), rfl, ⟨(show ∀ j : Nat, 0 ≤ (M_debtor j).toInt ∧ (M_debtor j).toInt ≤ 15 from hf26_2), (show ∀ j : Nat, -1 ≤ (M_pledge j).toInt ∧ (M_pledge j).toInt ≤ 15 from hf26_3)⟩, ⟨by rw [ht]; exact hP9, hD9⟩⟩, hS.F ht⟩) hS.2.2 dX7_heir_118
          · skip
            refine lv_aload_n hx hb dX7_heir_35 rfl (lv_at hl 0 rfl) ?_
            refine va_get (D := D) (ci := 7) (v := .ref (q 28)) (C := RX7) (T := TX7) (N := 56) hx hb hts (fun _ h => List.mem_cons_of_mem _ (List.mem_append_right _ h)) hown hK hP 0 rfl rfl 28 (by decide) (hts (.fieldLink RX7 50 "CrownTableModel" "debtor" "[I") (mem_i 2 rfl)) (fun _ h9 => h9) rfl dX7_heir_36 ?_
            refine lv_iload hx hb dX7_heir_39 (lv_at hl 4 rfl) ?_
            refine va_iald hx hb hK hP 1 1 rfl rfl (vin (a := L4.toInt) rfl (by omega) (by omega)) dX7_heir_41 ?_
            refine lv_topi (fun x_12 ex_12 => ?_)
            have ld_13 := hf26_2 (L4.toNatClampNeg)
            rw [← ex_12] at ld_13
            refine lv_iload_n hx hb dX7_heir_42 rfl (lv_at hl 1 rfl) ?_
            refine iicmp_ne (a := x_12.toInt) (b := i_a1) (tgt := 89) hx hb rfl hi_a1 dX7_heir_43 (by decide) (fun k_14 => ?_) (fun k_14 => ?_)
            · skip
              obtain ⟨x_15, ex_15⟩ : ∃ y : Int32, y = L4 + 1 := ⟨_, rfl⟩
              have tx_15 : x_15.toInt = L4.toInt + 1 := by rw [ex_15]; exact add_ti (a := L4.toInt) (b := 1) rfl (by decide) (by omega) (by omega)
              refine lv_iinc (v := x_15) (lv' := [(4, .int x_15), (0, .ref A_self), (1, .int a1), (2, .int a2), (3, .int L3)]) hx hb dX7_heir_89 hl (k := 4) rfl (by rw [ex_15]; rfl) (by decide) rfl (fun ls hl => ?_)
              refine lv_goto (tgt := 26) hx hb dX7_heir_92 (by decide) ?_
              have hl := lv_sub hl [1, 2, 3, 4, 0] rfl
              exact (ih26 ((400 - x_15.toInt).toNat) (by omega) L3 x_15 M_debtor M_pledge (by omega) (by omega) hf26_2 hf26_3 (by omega) rfl _ _ _ hP hD hS hl)
            · skip
              refine lv_aload_n hx hb dX7_heir_46 rfl (lv_at hl 0 rfl) ?_
              refine va_get (D := D) (ci := 7) (v := .ref (q 31)) (C := RX7) (T := TX7) (N := 56) hx hb hts (fun _ h => List.mem_cons_of_mem _ (List.mem_append_right _ h)) hown hK hP 0 rfl rfl 31 (by decide) (hts (.fieldLink RX7 59 "CrownTableModel" "left" "[I") (mem_i 3 rfl)) (fun _ h9 => h9) rfl dX7_heir_47 ?_
              refine lv_iload hx hb dX7_heir_50 (lv_at hl 4 rfl) ?_
              refine va_iald hx hb hK hP 2 1 rfl rfl (vin (a := L4.toInt) rfl (by omega) (by omega)) dX7_heir_52 ?_
              refine lv_topi (fun x_16 ex_16 => ?_)
              refine iif_ne (a := x_16.toInt) (tgt := 59) hx hb rfl dX7_heir_53 (by decide) (fun k_17 => ?_) (fun k_17 => ?_)
              · skip
                refine lv_aload_n hx hb dX7_heir_59 rfl (lv_at hl 0 rfl) ?_
                refine va_get (D := D) (ci := 7) (v := .ref (q 28)) (C := RX7) (T := TX7) (N := 56) hx hb hts (fun _ h => List.mem_cons_of_mem _ (List.mem_append_right _ h)) hown hK hP 0 rfl rfl 28 (by decide) (hts (.fieldLink RX7 50 "CrownTableModel" "debtor" "[I") (mem_i 2 rfl)) (fun _ h9 => h9) rfl dX7_heir_60 ?_
                refine lv_iload hx hb dX7_heir_63 (lv_at hl 4 rfl) ?_
                refine lv_iload_n hx hb dX7_heir_65 rfl (lv_at hl 2 rfl) ?_
                refine va_iast hx hb hK hP hD hS 1 1 rfl rfl (vin (a := L4.toInt) rfl (by omega) (by omega)) dX7_heir_66 (fun H locs hP hD hS => ?_)
                obtain ⟨f_18, ef_18, hP, hD⟩ : ∃ f_18 : Nat → Int32, f_18 = upd M_debtor L4.toNatClampNeg a2 ∧ va_P D vwCl [(A_self, .inr (7, o7 q v w)), (q 28, .inl (c 1, 400, .inl f_18)), (q 31, .inl (c 1, 400, .inl f_left)), (q 33, .inl (c 1, 400, .inl M_pledge)), (q 35, .inl (c 2, 16, .inr (.inl f_credit)))] H ∧ va_D A [(A_self, .inr (7, o7 q v w)), (q 28, .inl (c 1, 400, .inl f_18)), (q 31, .inl (c 1, 400, .inl f_left)), (q 33, .inl (c 1, 400, .inl M_pledge)), (q 35, .inl (c 2, 16, .inr (.inl f_credit)))] := ⟨_, rfl, hP, hD⟩
                have hc_19 : ∀ j : Nat, 0 ≤ (f_18 j).toInt ∧ (f_18 j).toInt ≤ 15 := by rw [ef_18]; exact iv_upd hf26_2 (show 0 ≤ a2.toInt ∧ a2.toInt ≤ 15 by omega)
                refine lv_aload_n hx hb dX7_heir_67 rfl (lv_at hl 0 rfl) ?_
                refine va_get (D := D) (ci := 7) (v := .ref (q 33)) (C := RX7) (T := TX7) (N := 56) hx hb hts (fun _ h => List.mem_cons_of_mem _ (List.mem_append_right _ h)) hown hK hP 0 rfl rfl 33 (by decide) (hts (.fieldLink RX7 65 "CrownTableModel" "pledge" "[I") (mem_i 4 rfl)) (fun _ h9 => h9) rfl dX7_heir_68 ?_
                refine lv_iload hx hb dX7_heir_71 (lv_at hl 4 rfl) ?_
                refine va_iald hx hb hK hP 3 1 rfl rfl (vin (a := L4.toInt) rfl (by omega) (by omega)) dX7_heir_73 ?_
                refine lv_topi (fun x_20 ex_20 => ?_)
                have ld_21 := hf26_3 (L4.toNatClampNeg)
                rw [← ex_20] at ld_21
                refine lv_iload_n hx hb dX7_heir_74 rfl (lv_at hl 2 rfl) ?_
                refine iicmp_ne (a := x_20.toInt) (b := i_a2) (tgt := 86) hx hb rfl hi_a2 dX7_heir_75 (by decide) (fun k_22 => ?_) (fun k_22 => ?_)
                · skip
                  obtain ⟨x_23, ex_23⟩ : ∃ y : Int32, y = L3 + 1 := ⟨_, rfl⟩
                  refine lv_iinc (v := x_23) (lv' := [(3, .int x_23), (0, .ref A_self), (1, .int a1), (2, .int a2), (4, .int L4)]) hx hb dX7_heir_86 hl (k := 3) rfl (by rw [ex_23]; rfl) (by decide) rfl (fun ls hl => ?_)
                  obtain ⟨x_24, ex_24⟩ : ∃ y : Int32, y = L4 + 1 := ⟨_, rfl⟩
                  have tx_24 : x_24.toInt = L4.toInt + 1 := by rw [ex_24]; exact add_ti (a := L4.toInt) (b := 1) rfl (by decide) (by omega) (by omega)
                  refine lv_iinc (v := x_24) (lv' := [(4, .int x_24), (3, .int x_23), (0, .ref A_self), (1, .int a1), (2, .int a2)]) hx hb dX7_heir_89 hl (k := 4) rfl (by rw [ex_24]; rfl) (by decide) rfl (fun ls hl => ?_)
                  refine lv_goto (tgt := 26) hx hb dX7_heir_92 (by decide) ?_
                  have hl := lv_sub hl [2, 3, 4, 1, 0] rfl
                  exact (ih26 ((400 - x_24.toInt).toNat) (by omega) x_23 x_24 f_18 M_pledge (by omega) (by omega) hc_19 hf26_3 (by omega) rfl _ _ _ hP hD hS hl)
                · skip
                  refine lv_aload_n hx hb dX7_heir_78 rfl (lv_at hl 0 rfl) ?_
                  refine va_get (D := D) (ci := 7) (v := .ref (q 33)) (C := RX7) (T := TX7) (N := 56) hx hb hts (fun _ h => List.mem_cons_of_mem _ (List.mem_append_right _ h)) hown hK hP 0 rfl rfl 33 (by decide) (hts (.fieldLink RX7 65 "CrownTableModel" "pledge" "[I") (mem_i 4 rfl)) (fun _ h9 => h9) rfl dX7_heir_79 ?_
                  refine lv_iload hx hb dX7_heir_82 (lv_at hl 4 rfl) ?_
                  refine lv_iconst (v := (-1)) hx hb dX7_heir_84 (by decide) ?_
                  refine va_iast hx hb hK hP hD hS 3 1 rfl rfl (vin (a := L4.toInt) rfl (by omega) (by omega)) dX7_heir_85 (fun H locs hP hD hS => ?_)
                  obtain ⟨f_25, ef_25, hP, hD⟩ : ∃ f_25 : Nat → Int32, f_25 = upd M_pledge L4.toNatClampNeg (-1) ∧ va_P D vwCl [(A_self, .inr (7, o7 q v w)), (q 28, .inl (c 1, 400, .inl f_18)), (q 31, .inl (c 1, 400, .inl f_left)), (q 33, .inl (c 1, 400, .inl f_25)), (q 35, .inl (c 2, 16, .inr (.inl f_credit)))] H ∧ va_D A [(A_self, .inr (7, o7 q v w)), (q 28, .inl (c 1, 400, .inl f_18)), (q 31, .inl (c 1, 400, .inl f_left)), (q 33, .inl (c 1, 400, .inl f_25)), (q 35, .inl (c 2, 16, .inr (.inl f_credit)))] := ⟨_, rfl, hP, hD⟩
                  have kzz_27 : ((-1) : Int32).toInt = (-1) := by decide
                  have hc_26 : ∀ j : Nat, -1 ≤ (f_25 j).toInt ∧ (f_25 j).toInt ≤ 15 := by rw [ef_25]; exact iv_upd hf26_3 (show -1 ≤ ((-1) : Int32).toInt ∧ ((-1) : Int32).toInt ≤ 15 by omega)
                  obtain ⟨x_28, ex_28⟩ : ∃ y : Int32, y = L3 + 1 := ⟨_, rfl⟩
                  refine lv_iinc (v := x_28) (lv' := [(3, .int x_28), (0, .ref A_self), (1, .int a1), (2, .int a2), (4, .int L4)]) hx hb dX7_heir_86 hl (k := 3) rfl (by rw [ex_28]; rfl) (by decide) rfl (fun ls hl => ?_)
                  obtain ⟨x_29, ex_29⟩ : ∃ y : Int32, y = L4 + 1 := ⟨_, rfl⟩
                  have tx_29 : x_29.toInt = L4.toInt + 1 := by rw [ex_29]; exact add_ti (a := L4.toInt) (b := 1) rfl (by decide) (by omega) (by omega)
                  refine lv_iinc (v := x_29) (lv' := [(4, .int x_29), (3, .int x_28), (0, .ref A_self), (1, .int a1), (2, .int a2)]) hx hb dX7_heir_89 hl (k := 4) rfl (by rw [ex_29]; rfl) (by decide) rfl (fun ls hl => ?_)
                  refine lv_goto (tgt := 26) hx hb dX7_heir_92 (by decide) ?_
                  have hl := lv_sub hl [2, 3, 4, 1, 0] rfl
                  exact (ih26 ((400 - x_29.toInt).toNat) (by omega) x_28 x_29 f_18 f_25 (by omega) (by omega) hc_19 hc_26 (by omega) rfl _ _ _ hP hD hS hl)
              · skip
                refine lv_goto (tgt := 89) hx hb dX7_heir_56 (by decide) ?_
                obtain ⟨x_30, ex_30⟩ : ∃ y : Int32, y = L4 + 1 := ⟨_, rfl⟩
                have tx_30 : x_30.toInt = L4.toInt + 1 := by rw [ex_30]; exact add_ti (a := L4.toInt) (b := 1) rfl (by decide) (by omega) (by omega)
                refine lv_iinc (v := x_30) (lv' := [(4, .int x_30), (0, .ref A_self), (1, .int a1), (2, .int a2), (3, .int L3)]) hx hb dX7_heir_89 hl (k := 4) rfl (by rw [ex_30]; rfl) (by decide) rfl (fun ls hl => ?_)
                refine lv_goto (tgt := 26) hx hb dX7_heir_92 (by decide) ?_
                have hl := lv_sub hl [1, 2, 3, 4, 0] rfl
                exact (ih26 ((400 - x_30.toInt).toNat) (by omega) L3 x_30 M_debtor M_pledge (by omega) (by omega) hf26_2 hf26_3 (by omega) rfl _ _ _ hP hD hS hl)
        have kzz_31 : (0 : Int32).toInt = 0 := by decide
        have hl := lv_sub hl [2, 3, 4, 1, 0] rfl
        exact (lp_26 _ 0 0 f_debtor f_pledge (by omega) (by omega) hc_debtor hc_pledge (by omega) rfl _ _ _ hP hD hS hl)
      · skip
        refine lv_iconst (v := (-1)) hx hb dX7_heir_19 (by decide) ?_
        have kzz_32 : ((-1) : Int32).toInt = (-1) := by decide
        have hP9 := hP.sub (ws' := [(A_self, .inr (7, o7 q v w)), (q 28, .inl (c 1, 400, .inl f_debtor)), (q 31, .inl (c 1, 400, .inl f_left)), (q 33, .inl (c 1, 400, .inl f_pledge)), (q 35, .inl (c 2, 16, .inr (.inl f_credit)))]) [0, 1, 2, 3, 4] rfl
        have hD9 := hD.sub (ws' := [(A_self, .inr (7, o7 q v w)), (q 28, .inl (c 1, 400, .inl f_debtor)), (q 31, .inl (c 1, 400, .inl f_left)), (q 33, .inl (c 1, 400, .inl f_pledge)), (q 35, .inl (c 2, 16, .inr (.inl f_credit)))]) [0, 1, 2, 3, 4] (by decide) rfl
        refine W.widen (k := 0) (n := 0) (by omega) (by omega) ?_
        exact W.iret (v := (-1)) hx hb hr (fun t ht hW => ⟨⟨_, (f_debtor, f_pledge, f_credit, ()), rfl, ⟨(show ∀ j : Nat, 0 ≤ (f_debtor j).toInt ∧ (f_debtor j).toInt ≤ 15 from hc_debtor), (show ∀ j : Nat, -1 ≤ (f_pledge j).toInt ∧ (f_pledge j).toInt ≤ 15 from hc_pledge)⟩, ⟨by rw [ht]; exact hP9, hD9⟩⟩, hS.F ht⟩) hS.2.2 dX7_heir_20
    · skip
      refine iif_eqT (a := 0) (tgt := 19) hx hb (by decide) dX7_heir_11 (by decide) (by decide) ?_
      refine lv_iconst (v := (-1)) hx hb dX7_heir_19 (by decide) ?_
      have kzz_33 : ((-1) : Int32).toInt = (-1) := by decide
      have hP9 := hP.sub (ws' := [(A_self, .inr (7, o7 q v w)), (q 28, .inl (c 1, 400, .inl f_debtor)), (q 31, .inl (c 1, 400, .inl f_left)), (q 33, .inl (c 1, 400, .inl f_pledge)), (q 35, .inl (c 2, 16, .inr (.inl f_credit)))]) [0, 1, 2, 3, 4] rfl
      have hD9 := hD.sub (ws' := [(A_self, .inr (7, o7 q v w)), (q 28, .inl (c 1, 400, .inl f_debtor)), (q 31, .inl (c 1, 400, .inl f_left)), (q 33, .inl (c 1, 400, .inl f_pledge)), (q 35, .inl (c 2, 16, .inr (.inl f_credit)))]) [0, 1, 2, 3, 4] (by decide) rfl
      refine W.widen (k := 0) (n := 0) (by omega) (by omega) ?_
      exact W.iret (v := (-1)) hx hb hr (fun t ht hW => ⟨⟨_, (f_debtor, f_pledge, f_credit, ()), rfl, ⟨(show ∀ j : Nat, 0 ≤ (f_debtor j).toInt ∧ (f_debtor j).toInt ≤ 15 from hc_debtor), (show ∀ j : Nat, -1 ≤ (f_pledge j).toInt ∧ (f_pledge j).toInt ≤ 15 from hc_pledge)⟩, ⟨by rw [ht]; exact hP9, hD9⟩⟩, hS.F ht⟩) hS.2.2 dX7_heir_20
  · skip
    refine iif_eqT (a := 0) (tgt := 19) hx hb (by decide) dX7_heir_4 (by decide) (by decide) ?_
    refine lv_iconst (v := (-1)) hx hb dX7_heir_19 (by decide) ?_
    have kzz_34 : ((-1) : Int32).toInt = (-1) := by decide
    have hP9 := hP.sub (ws' := [(A_self, .inr (7, o7 q v w)), (q 28, .inl (c 1, 400, .inl f_debtor)), (q 31, .inl (c 1, 400, .inl f_left)), (q 33, .inl (c 1, 400, .inl f_pledge)), (q 35, .inl (c 2, 16, .inr (.inl f_credit)))]) [0, 1, 2, 3, 4] rfl
    have hD9 := hD.sub (ws' := [(A_self, .inr (7, o7 q v w)), (q 28, .inl (c 1, 400, .inl f_debtor)), (q 31, .inl (c 1, 400, .inl f_left)), (q 33, .inl (c 1, 400, .inl f_pledge)), (q 35, .inl (c 2, 16, .inr (.inl f_credit)))]) [0, 1, 2, 3, 4] (by decide) rfl
    refine W.widen (k := 0) (n := 0) (by omega) (by omega) ?_
    exact W.iret (v := (-1)) hx hb hr (fun t ht hW => ⟨⟨_, (f_debtor, f_pledge, f_credit, ()), rfl, ⟨(show ∀ j : Nat, 0 ≤ (f_debtor j).toInt ∧ (f_debtor j).toInt ≤ 15 from hc_debtor), (show ∀ j : Nat, -1 ≤ (f_pledge j).toInt ∧ (f_pledge j).toInt ≤ 15 from hc_pledge)⟩, ⟨by rw [ht]; exact hP9, hD9⟩⟩, hS.F ht⟩) hS.2.2 dX7_heir_20

set_option maxHeartbeats 4000000 in
set_option maxRecDepth 100000 in
theorem k_X7_about (l : Launch) (D : va_G) (c : Nat → ClassId) (ts : Nat × Nat) (sz : Nat) (A_self : Nat) (q : Nat → Nat) (v : Nat → Int32) (w : Nat → Int64) (f_debtor : Nat → Int32) (f_kind : Nat → Int32) (f_whole : Nat → Int32) (f_left : Nat → Int32) (f_made : Nat → Int32) (f_pledge : Nat → Int32) (f_pardoned : Nat → Int32) (a1 : Int32) (i_a1 : Int) (hi_a1 : a1.toInt = i_a1) (a2 : Int32) (i_a2 : Int) (hi_a2 : a2.toInt = i_a2) (hv_2 : 0 ≤ (v 2).toInt ∧ (v 2).toInt ≤ 800) (hv_8 : 0 ≤ (v 8).toInt ∧ (v 8).toInt ≤ 10) (hv_21 : 0 ≤ (v 21).toInt ∧ (v 21).toInt ≤ 40) (hv_24 : 0 ≤ (v 24).toInt ∧ (v 24).toInt ≤ 1000) (hv_27 : 0 ≤ (v 27).toInt ∧ (v 27).toInt ≤ 400) (hv_42 : 0 ≤ (v 42).toInt ∧ (v 42).toInt ≤ 4000) (hv_52 : 0 ≤ (v 52).toInt ∧ (v 52).toInt ≤ 2000) (hc_debtor : ∀ j : Nat, 0 ≤ (f_debtor j).toInt ∧ (f_debtor j).toInt ≤ 15) (hc_pledge : ∀ j : Nat, -1 ≤ (f_pledge j).toInt ∧ (f_pledge j).toInt ≤ 15) : Met l yX7_about wsX7_about ({ frames := 2, cells := 0, slots := 0, locals := 43 }) (va_Pc [.ref A_self, .int a1, .int a2] (Pre0 D c ts [(A_self, .inr (7, o7 q v w)), (q 28, .inl (c 1, 400, .inl f_debtor)), (q 29, .inl (c 1, 400, .inl f_kind)), (q 30, .inl (c 1, 400, .inl f_whole)), (q 31, .inl (c 1, 400, .inl f_left)), (q 32, .inl (c 1, 400, .inl f_made)), (q 33, .inl (c 1, 400, .inl f_pledge)), (q 34, .inl (c 1, 400, .inl f_pardoned))] sz)) (vp_Si (fun r : Int32 => True)) 0 0 (fun _ => False) := by
  refine Met.ofW (cc := cX7_about) (maxL := 3) (ret := (some .int)) (by decide) rfl ?_
  intro p e s m args below meth cd s₁ B hml hv
  obtain ⟨rfl, hsz, hP, hD0, hAm, hSt⟩ := hv
  have hx := B.exec
  have hb := B.bytes
  have hr := B.returns
  have hts := atoms_spec (ws := wsX7_about) B.pre
  have hown : s.vm.findClass RX7 = some m.cls := findClass_of_methodNamed B.named
  have hlocks := B.notSynchronized
  have hK := hAm.1
  subst hsz
  have hD := hD0.self (sz := s.heap.size)
  generalize hAe : va_A [(A_self, .inr (7, o7 q v w)), (q 28, .inl (c 1, 400, .inl f_debtor)), (q 29, .inl (c 1, 400, .inl f_kind)), (q 30, .inl (c 1, 400, .inl f_whole)), (q 31, .inl (c 1, 400, .inl f_left)), (q 32, .inl (c 1, 400, .inl f_made)), (q 33, .inl (c 1, 400, .inl f_pledge)), (q 34, .inl (c 1, 400, .inl f_pardoned))] s.heap.size = A at hD hSt
  have hA : ∀ q : Nat, s.heap.size ≤ q → A q := fun q h => by rw [← hAe]; exact Or.inr h
  have hS : va_S A s.heap s.heap [] := va_S.rf
  clear hD0 hAe
  have hl := lv_entry ([.ref A_self, .int a1, .int a2]) (n := 3) (Nat.le_of_ble_eq_true rfl)
  rw [lg_entry_eq]
  generalize (lg_sl ([.ref A_self, .int a1, .int a2]) ++ List.replicate (3 - (lg_sl ([.ref A_self, .int a1, .int a2])).length) Slot.unset).toArray = ls at hl ⊢
  have hl : lv_has ls 3 [(0, .ref A_self), (1, .int a1), (2, .int a2)] := hl
  have rg_a1 := i32r a1
  have rg_a2 := i32r a2
  refine lv_aload_n hx hb dX7_about_0 rfl (lv_at hl 0 rfl) ?_
  refine lv_iload_n hx hb dX7_about_1 rfl (lv_at hl 1 rfl) ?_
  have hPc := hP.sub (ws' := [(A_self, .inr (7, o7 q v w))]) [0] rfl
  have hDc := hD.sub (ws' := [(A_self, .inr (7, o7 q v w))]) [0] (by decide) rfl
  have hFc := va_free (wc := [(A_self, .inr (7, o7 q v w))]) hD hS hA [0] rfl
  refine va_csi (va_runV (As := [.int a1]) (rest := []) ⟨hx, hb, hml, hown, hts⟩ (k_X7_isDebt l D c ts s.heap.size A_self q v w a1 i_a1 hi_a1 (show 0 ≤ (v 2).toInt ∧ (v 2).toInt ≤ 800 by omega) (show 0 ≤ (v 8).toInt ∧ (v 8).toInt ≤ 10 by omega) (show 0 ≤ (v 21).toInt ∧ (v 21).toInt ≤ 40 by omega) (show 0 ≤ (v 24).toInt ∧ (v 24).toInt ≤ 1000 by omega) (show 0 ≤ (v 27).toInt ∧ (v 27).toInt ≤ 400 by omega) (show 0 ≤ (v 42).toInt ∧ (v 42).toInt ≤ 4000 by omega) (show 0 ≤ (v 52).toInt ∧ (v 52).toInt ≤ 2000 by omega)) (cwV 1 hts gX7_about_X7_isDebt rfl rfl rfl ⟨rfl, hdX7_isDebt⟩ ⟨(show 1 + 1 ≤ 2 by decide), (show 8 + (2 + 11) + 22 ≤ 43 by decide)⟩) ⟨Pre0.blind, va_recv hK hPc (ci := 7) (q0 := 0) rfl rfl, Pre0.at hPc hDc hAm hSt hS hFc⟩ rfl rfl hl.1 rfl (lv_room (Nat.le_of_ble_eq_true rfl)) dX7_about_2 ⟨(show 0 + 0 ≤ 0 by decide), (show 0 + 0 ≤ 0 by decide)⟩) (fun r_2 hw_1 => ?_)
  have hw_1 : (((0 ≤ i_a1 ∧ i_a1 ≤ (v 27).toInt - 1) ∧ r_2 = 1) ∨ ((¬ (0 ≤ i_a1 ∧ i_a1 ≤ (v 27).toInt - 1)) ∧ r_2 = 0)) := hw_1
  rcases hw_1 with ⟨hw_1, rfl⟩ | ⟨hw_1, rfl⟩
  · skip
    refine iif_neT (a := 1) (tgt := 11) hx hb (by decide) dX7_about_5 (by decide) (by decide) ?_
    refine lv_iload_n hx hb dX7_about_11 rfl (lv_at hl 2 rfl) ?_
    by_cases k_3 : i_a2 = 0
    · have ek_3 : a2.toInt = 0 := hi_a2.trans k_3
      refine lv_tableIn (tgt := 56) hx hb dX7_about_12 (by rw [ek_3]; decide) (by rw [ek_3]; decide) (by rw [ek_3]; rfl) (by decide) ?_
      refine lv_aload_n hx hb dX7_about_56 rfl (lv_at hl 0 rfl) ?_
      refine va_get (D := D) (ci := 7) (v := .ref (q 28)) (C := RX7) (T := TX7) (N := 56) hx hb hts (fun _ h => List.mem_cons_of_mem _ (List.mem_append_right _ h)) hown hK hP 0 rfl rfl 28 (by decide) (hts (.fieldLink RX7 50 "CrownTableModel" "debtor" "[I") (mem_i 1 rfl)) (fun _ h9 => h9) rfl dX7_about_57 ?_
      refine lv_iload_n hx hb dX7_about_60 rfl (lv_at hl 1 rfl) ?_
      refine va_iald hx hb hK hP 1 1 rfl rfl (vin (a := i_a1) hi_a1 (by omega) (by omega)) dX7_about_61 ?_
      refine lv_topi (fun x_4 ex_4 => ?_)
      have ld_5 := hc_debtor (a1.toNatClampNeg)
      rw [← ex_4] at ld_5
      exact W.iret (v := x_4) hx hb hr (fun t ht hW => ⟨_, rfl, trivial, ht⟩) (fun _ h => by cases h) dX7_about_62
    by_cases k_6 : i_a2 = 1
    · have ek_6 : a2.toInt = 1 := hi_a2.trans k_6
      refine lv_tableIn (tgt := 63) hx hb dX7_about_12 (by rw [ek_6]; decide) (by rw [ek_6]; decide) (by rw [ek_6]; rfl) (by decide) ?_
      refine lv_aload_n hx hb dX7_about_63 rfl (lv_at hl 0 rfl) ?_
      refine va_get (D := D) (ci := 7) (v := .ref (q 29)) (C := RX7) (T := TX7) (N := 56) hx hb hts (fun _ h => List.mem_cons_of_mem _ (List.mem_append_right _ h)) hown hK hP 0 rfl rfl 29 (by decide) (hts (.fieldLink RX7 53 "CrownTableModel" "kind" "[I") (mem_i 2 rfl)) (fun _ h9 => h9) rfl dX7_about_64 ?_
      refine lv_iload_n hx hb dX7_about_67 rfl (lv_at hl 1 rfl) ?_
      refine va_iald hx hb hK hP 2 1 rfl rfl (vin (a := i_a1) hi_a1 (by omega) (by omega)) dX7_about_68 ?_
      refine lv_topi (fun x_7 ex_7 => ?_)
      exact W.iret (v := x_7) hx hb hr (fun t ht hW => ⟨_, rfl, trivial, ht⟩) (fun _ h => by cases h) dX7_about_69
    by_cases k_8 : i_a2 = 2
    · have ek_8 : a2.toInt = 2 := hi_a2.trans k_8
      refine lv_tableIn (tgt := 70) hx hb dX7_about_12 (by rw [ek_8]; decide) (by rw [ek_8]; decide) (by rw [ek_8]; rfl) (by decide) ?_
      refine lv_aload_n hx hb dX7_about_70 rfl (lv_at hl 0 rfl) ?_
      refine va_get (D := D) (ci := 7) (v := .ref (q 30)) (C := RX7) (T := TX7) (N := 56) hx hb hts (fun _ h => List.mem_cons_of_mem _ (List.mem_append_right _ h)) hown hK hP 0 rfl rfl 30 (by decide) (hts (.fieldLink RX7 56 "CrownTableModel" "whole" "[I") (mem_i 3 rfl)) (fun _ h9 => h9) rfl dX7_about_71 ?_
      refine lv_iload_n hx hb dX7_about_74 rfl (lv_at hl 1 rfl) ?_
      refine va_iald hx hb hK hP 3 1 rfl rfl (vin (a := i_a1) hi_a1 (by omega) (by omega)) dX7_about_75 ?_
      refine lv_topi (fun x_9 ex_9 => ?_)
      exact W.iret (v := x_9) hx hb hr (fun t ht hW => ⟨_, rfl, trivial, ht⟩) (fun _ h => by cases h) dX7_about_76
    by_cases k_10 : i_a2 = 3
    · have ek_10 : a2.toInt = 3 := hi_a2.trans k_10
      refine lv_tableIn (tgt := 77) hx hb dX7_about_12 (by rw [ek_10]; decide) (by rw [ek_10]; decide) (by rw [ek_10]; rfl) (by decide) ?_
      refine lv_aload_n hx hb dX7_about_77 rfl (lv_at hl 0 rfl) ?_
      refine va_get (D := D) (ci := 7) (v := .ref (q 31)) (C := RX7) (T := TX7) (N := 56) hx hb hts (fun _ h => List.mem_cons_of_mem _ (List.mem_append_right _ h)) hown hK hP 0 rfl rfl 31 (by decide) (hts (.fieldLink RX7 59 "CrownTableModel" "left" "[I") (mem_i 4 rfl)) (fun _ h9 => h9) rfl dX7_about_78 ?_
      refine lv_iload_n hx hb dX7_about_81 rfl (lv_at hl 1 rfl) ?_
      refine va_iald hx hb hK hP 4 1 rfl rfl (vin (a := i_a1) hi_a1 (by omega) (by omega)) dX7_about_82 ?_
      refine lv_topi (fun x_11 ex_11 => ?_)
      exact W.iret (v := x_11) hx hb hr (fun t ht hW => ⟨_, rfl, trivial, ht⟩) (fun _ h => by cases h) dX7_about_83
    by_cases k_12 : i_a2 = 4
    · have ek_12 : a2.toInt = 4 := hi_a2.trans k_12
      refine lv_tableIn (tgt := 84) hx hb dX7_about_12 (by rw [ek_12]; decide) (by rw [ek_12]; decide) (by rw [ek_12]; rfl) (by decide) ?_
      refine lv_aload_n hx hb dX7_about_84 rfl (lv_at hl 0 rfl) ?_
      refine va_get (D := D) (ci := 7) (v := .ref (q 32)) (C := RX7) (T := TX7) (N := 56) hx hb hts (fun _ h => List.mem_cons_of_mem _ (List.mem_append_right _ h)) hown hK hP 0 rfl rfl 32 (by decide) (hts (.fieldLink RX7 62 "CrownTableModel" "made" "[I") (mem_i 5 rfl)) (fun _ h9 => h9) rfl dX7_about_85 ?_
      refine lv_iload_n hx hb dX7_about_88 rfl (lv_at hl 1 rfl) ?_
      refine va_iald hx hb hK hP 5 1 rfl rfl (vin (a := i_a1) hi_a1 (by omega) (by omega)) dX7_about_89 ?_
      refine lv_topi (fun x_13 ex_13 => ?_)
      exact W.iret (v := x_13) hx hb hr (fun t ht hW => ⟨_, rfl, trivial, ht⟩) (fun _ h => by cases h) dX7_about_90
    by_cases k_14 : i_a2 = 5
    · have ek_14 : a2.toInt = 5 := hi_a2.trans k_14
      refine lv_tableIn (tgt := 91) hx hb dX7_about_12 (by rw [ek_14]; decide) (by rw [ek_14]; decide) (by rw [ek_14]; rfl) (by decide) ?_
      refine lv_aload_n hx hb dX7_about_91 rfl (lv_at hl 0 rfl) ?_
      refine va_get (D := D) (ci := 7) (v := .ref (q 33)) (C := RX7) (T := TX7) (N := 56) hx hb hts (fun _ h => List.mem_cons_of_mem _ (List.mem_append_right _ h)) hown hK hP 0 rfl rfl 33 (by decide) (hts (.fieldLink RX7 65 "CrownTableModel" "pledge" "[I") (mem_i 6 rfl)) (fun _ h9 => h9) rfl dX7_about_92 ?_
      refine lv_iload_n hx hb dX7_about_95 rfl (lv_at hl 1 rfl) ?_
      refine va_iald hx hb hK hP 6 1 rfl rfl (vin (a := i_a1) hi_a1 (by omega) (by omega)) dX7_about_96 ?_
      refine lv_topi (fun x_15 ex_15 => ?_)
      have ld_16 := hc_pledge (a1.toNatClampNeg)
      rw [← ex_15] at ld_16
      exact W.iret (v := x_15) hx hb hr (fun t ht hW => ⟨_, rfl, trivial, ht⟩) (fun _ h => by cases h) dX7_about_97
    by_cases k_17 : i_a2 = 6
    · have ek_17 : a2.toInt = 6 := hi_a2.trans k_17
      refine lv_tableIn (tgt := 98) hx hb dX7_about_12 (by rw [ek_17]; decide) (by rw [ek_17]; decide) (by rw [ek_17]; rfl) (by decide) ?_
      refine lv_aload_n hx hb dX7_about_98 rfl (lv_at hl 0 rfl) ?_
      refine va_get (D := D) (ci := 7) (v := .ref (q 34)) (C := RX7) (T := TX7) (N := 56) hx hb hts (fun _ h => List.mem_cons_of_mem _ (List.mem_append_right _ h)) hown hK hP 0 rfl rfl 34 (by decide) (hts (.fieldLink RX7 68 "CrownTableModel" "pardoned" "[I") (mem_i 7 rfl)) (fun _ h9 => h9) rfl dX7_about_99 ?_
      refine lv_iload_n hx hb dX7_about_102 rfl (lv_at hl 1 rfl) ?_
      refine va_iald hx hb hK hP 7 1 rfl rfl (vin (a := i_a1) hi_a1 (by omega) (by omega)) dX7_about_103 ?_
      refine lv_topi (fun x_18 ex_18 => ?_)
      exact W.iret (v := x_18) hx hb hr (fun t ht hW => ⟨_, rfl, trivial, ht⟩) (fun _ h => by cases h) dX7_about_104
    refine lv_tableOut (tgt := 105) hx hb dX7_about_12 (by rw [hi_a2]; omega) (by decide) ?_
    refine lv_bipush (v := (-2)) hx hb dX7_about_105 (by decide) ?_
    have kzz_19 : ((-2) : Int32).toInt = (-2) := by decide
    exact W.iret (v := (-2)) hx hb hr (fun t ht hW => ⟨_, rfl, trivial, ht⟩) (fun _ h => by cases h) dX7_about_107
  · skip
    refine iif_neF (a := 0) (tgt := 11) hx hb (by decide) dX7_about_5 (by decide) (by decide) ?_
    refine lv_bipush (v := (-2)) hx hb dX7_about_8 (by decide) ?_
    have kzz_20 : ((-2) : Int32).toInt = (-2) := by decide
    exact W.iret (v := (-2)) hx hb hr (fun t ht hW => ⟨_, rfl, trivial, ht⟩) (fun _ h => by cases h) dX7_about_10

set_option maxHeartbeats 4000000 in
set_option maxRecDepth 100000 in
theorem k_X7_owedOf (l : Launch) (D : va_G) (c : Nat → ClassId) (ts : Nat × Nat) (sz : Nat) (A_self : Nat) (q : Nat → Nat) (v : Nat → Int32) (w : Nat → Int64) (f_debtor : Nat → Int32) (f_left : Nat → Int32) (a1 : Int32) (i_a1 : Int) (hi_a1 : a1.toInt = i_a1) (hv_2 : 0 ≤ (v 2).toInt ∧ (v 2).toInt ≤ 800) (hv_8 : 0 ≤ (v 8).toInt ∧ (v 8).toInt ≤ 10) (hv_21 : 0 ≤ (v 21).toInt ∧ (v 21).toInt ≤ 40) (hv_24 : 0 ≤ (v 24).toInt ∧ (v 24).toInt ≤ 1000) (hv_27 : 0 ≤ (v 27).toInt ∧ (v 27).toInt ≤ 400) (hv_42 : 0 ≤ (v 42).toInt ∧ (v 42).toInt ≤ 4000) (hv_52 : 0 ≤ (v 52).toInt ∧ (v 52).toInt ≤ 2000) (hc_debtor : ∀ j : Nat, 0 ≤ (f_debtor j).toInt ∧ (f_debtor j).toInt ≤ 15) : Met l yX7_owedOf wsX7_owedOf ({ frames := 0, cells := 0, slots := 0, locals := 0 }) (va_Pc [.ref A_self, .int a1] (Pre0 D c ts [(A_self, .inr (7, o7 q v w)), (q 28, .inl (c 1, 400, .inl f_debtor)), (q 31, .inl (c 1, 400, .inl f_left))] sz)) (vp_Si (fun r : Int32 => (r.toInt = owm f_debtor f_left i_a1 0 (v 27).toInt.toNat) ∧ (0 ≤ r.toInt ∧ r.toInt ≤ 400))) 0 0 (fun _ => False) := by
  refine Met.ofW (cc := cX7_owedOf) (maxL := 4) (ret := (some .int)) (by decide) rfl ?_
  intro p e s m args below meth cd s₁ B hml hv
  obtain ⟨rfl, hsz, hP, hD0, hAm, hSt⟩ := hv
  have hx := B.exec
  have hb := B.bytes
  have hr := B.returns
  have hts := atoms_spec (ws := wsX7_owedOf) B.pre
  have hown : s.vm.findClass RX7 = some m.cls := findClass_of_methodNamed B.named
  have hlocks := B.notSynchronized
  have hK := hAm.1
  subst hsz
  have hD := hD0.self (sz := s.heap.size)
  generalize hAe : va_A [(A_self, .inr (7, o7 q v w)), (q 28, .inl (c 1, 400, .inl f_debtor)), (q 31, .inl (c 1, 400, .inl f_left))] s.heap.size = A at hD hSt
  have hA : ∀ q : Nat, s.heap.size ≤ q → A q := fun q h => by rw [← hAe]; exact Or.inr h
  have hS : va_S A s.heap s.heap [] := va_S.rf
  clear hD0 hAe
  have hl := lv_entry ([.ref A_self, .int a1]) (n := 4) (Nat.le_of_ble_eq_true rfl)
  rw [lg_entry_eq]
  generalize (lg_sl ([.ref A_self, .int a1]) ++ List.replicate (4 - (lg_sl ([.ref A_self, .int a1])).length) Slot.unset).toArray = ls at hl ⊢
  have hl : lv_has ls 4 [(0, .ref A_self), (1, .int a1)] := hl
  have rg_a1 := i32r a1
  refine lv_iconst (v := 0) hx hb dX7_owedOf_0 (by decide) ?_
  refine lv_istore_n (lv' := [(2, .int 0), (0, .ref A_self), (1, .int a1)]) hx hb dX7_owedOf_1 rfl hl (by decide) rfl (fun ls hl => ?_)
  refine lv_iconst (v := 0) hx hb dX7_owedOf_2 (by decide) ?_
  refine lv_istore_n (lv' := [(3, .int 0), (2, .int 0), (0, .ref A_self), (1, .int a1)]) hx hb dX7_owedOf_3 rfl hl (by decide) rfl (fun ls hl => ?_)
  have lp_4 : ∀ (N : Nat) (L2 : Int32) (L3 : Int32) (hf4_0 : 0 ≤ L2.toInt) (hf4_1 : L2.toInt ≤ 400) (hf4_2 : 0 ≤ L3.toInt) (hf4_3 : L3.toInt ≤ 400) (hf4_4 : L3.toInt ≤ (v 27).toInt) (hf4_5 : L2.toInt + owm f_debtor f_left i_a1 L3.toInt ((v 27).toInt - L3.toInt).toNat = owm f_debtor f_left i_a1 0 (v 27).toInt.toNat) (hN4 : (400 - L3.toInt).toNat = N) (ls : Array Slot), lv_has ls 4 [(0, .ref A_self), (1, .int a1), (2, .int L2), (3, .int L3)] → W p l e (headSpec wsX7_owedOf ({ frames := 0, cells := 0, slots := 0, locals := 0 })).room s m (([.ref A_self, .int a1] : List Value).toArray) below meth cd s.heap [] 0 0 (MQ below (vp_Si (fun r : Int32 => (r.toInt = owm f_debtor f_left i_a1 0 (v 27).toInt.toNat) ∧ (0 ≤ r.toInt ∧ r.toInt ≤ 400))) ([.ref A_self, .int a1] : List Value).toArray s 0 0 (fun _ => False)) (F0 m 4 ls []) := by
    refine st_ind (fun N ih4 => ?_)
    intro L2 L3 hf4_0 hf4_1 hf4_2 hf4_3 hf4_4 hf4_5 hN4 ls hl
    refine lv_iload_n hx hb dX7_owedOf_4 rfl (lv_at hl 3 rfl) ?_
    refine lv_aload_n hx hb dX7_owedOf_5 rfl (lv_at hl 0 rfl) ?_
    refine va_get (D := D) (ci := 7) (v := .int (v 27)) (C := RX7) (T := TX7) (N := 56) hx hb hts (fun _ h => List.mem_cons_of_mem _ (List.mem_append_right _ h)) hown hK hP 0 rfl rfl 27 (by decide) (hts (.fieldLink RX7 277 "CrownTableModel" "debts" "I") (mem_i 1 rfl)) (fun _ h9 => h9) rfl dX7_owedOf_6 ?_
    refine iicmp_ge (a := L3.toInt) (b := (v 27).toInt) (tgt := 45) hx hb rfl rfl dX7_owedOf_9 (by decide) (fun k_1 => ?_) (fun k_1 => ?_)
    · skip
      refine lv_iload_n hx hb dX7_owedOf_45 rfl (lv_at hl 2 rfl) ?_
      exact W.iret (v := L2) hx hb hr (fun t ht hW => ⟨_, rfl, ⟨(by have e9 : ((v 27).toInt - L3.toInt).toNat = 0 := (by omega); rw [e9] at hf4_5; have z9 : owm f_debtor f_left i_a1 L3.toInt 0 = 0 := rfl; omega), by omega⟩, ht⟩) (fun _ h => by cases h) dX7_owedOf_46
    · skip
      have ow9 := owm_step f_debtor f_left i_a1 (d := L3.toInt) (n := (v 27).toInt) (by omega)
      have ow8 := owm_bd f_debtor f_left i_a1 (L3.toInt + 1) ((v 27).toInt - (L3.toInt + 1)).toNat
      have ow5 := owm_bd f_debtor f_left i_a1 0 (v 27).toInt.toNat
      refine lv_iload_n hx hb dX7_owedOf_12 rfl (lv_at hl 2 rfl) ?_
      refine lv_aload_n hx hb dX7_owedOf_13 rfl (lv_at hl 0 rfl) ?_
      refine va_get (D := D) (ci := 7) (v := .ref (q 28)) (C := RX7) (T := TX7) (N := 56) hx hb hts (fun _ h => List.mem_cons_of_mem _ (List.mem_append_right _ h)) hown hK hP 0 rfl rfl 28 (by decide) (hts (.fieldLink RX7 50 "CrownTableModel" "debtor" "[I") (mem_i 2 rfl)) (fun _ h9 => h9) rfl dX7_owedOf_14 ?_
      refine lv_iload_n hx hb dX7_owedOf_17 rfl (lv_at hl 3 rfl) ?_
      refine va_iald hx hb hK hP 1 1 rfl rfl (vin (a := L3.toInt) rfl (by omega) (by omega)) dX7_owedOf_18 ?_
      refine lv_topi (fun x_2 ex_2 => ?_)
      have ld_3 := hc_debtor (L3.toNatClampNeg)
      rw [← ex_2] at ld_3
      have lf_4 : (f_debtor L3.toInt.toNat).toInt = x_2.toInt := by rw [ex_2, clampN (x := L3) rfl]
      refine lv_iload_n hx hb dX7_owedOf_19 rfl (lv_at hl 1 rfl) ?_
      refine iicmp_ne (a := x_2.toInt) (b := i_a1) (tgt := 36) hx hb rfl hi_a1 dX7_owedOf_20 (by decide) (fun k_5 => ?_) (fun k_5 => ?_)
      · skip
        refine lv_iconst (v := 0) hx hb dX7_owedOf_36 (by decide) ?_
        rw [if_neg (show ¬ ((f_debtor L3.toInt.toNat).toInt = i_a1 ∧ 0 < (f_left L3.toInt.toNat).toInt) by omega)] at ow9
        refine lv_iadd hx hb dX7_owedOf_37 ?_
        refine lv_topi (fun x_6 ex_6 => ?_)
        have tx_6 : x_6.toInt = (L2.toInt + 0) := by rw [ex_6]; exact add_ti (a := L2.toInt) (b := 0) rfl (by decide) (by omega) (by omega)
        refine lv_istore_n (lv' := [(2, .int x_6), (0, .ref A_self), (1, .int a1), (3, .int L3)]) hx hb dX7_owedOf_38 rfl hl (by decide) rfl (fun ls hl => ?_)
        obtain ⟨x_7, ex_7⟩ : ∃ y : Int32, y = L3 + 1 := ⟨_, rfl⟩
        have tx_7 : x_7.toInt = L3.toInt + 1 := by rw [ex_7]; exact add_ti (a := L3.toInt) (b := 1) rfl (by decide) (by omega) (by omega)
        refine lv_iinc (v := x_7) (lv' := [(3, .int x_7), (2, .int x_6), (0, .ref A_self), (1, .int a1)]) hx hb dX7_owedOf_39 hl (k := 3) rfl (by rw [ex_7]; rfl) (by decide) rfl (fun ls hl => ?_)
        refine lv_goto (tgt := 4) hx hb dX7_owedOf_42 (by decide) ?_
        have ow6 : owm f_debtor f_left i_a1 x_7.toInt ((v 27).toInt - x_7.toInt).toNat = owm f_debtor f_left i_a1 (L3.toInt + 1) ((v 27).toInt - (L3.toInt + 1)).toNat := by rw [show x_7.toInt = L3.toInt + 1 from tx_7]
        have hl := lv_sub hl [2, 3, 1, 0] rfl
        exact (ih4 ((400 - x_7.toInt).toNat) (by omega) x_6 x_7 (by omega) (by omega) (by omega) (by omega) (by omega) (by omega) rfl _ hl)
      · skip
        refine lv_aload_n hx hb dX7_owedOf_23 rfl (lv_at hl 0 rfl) ?_
        refine va_get (D := D) (ci := 7) (v := .ref (q 31)) (C := RX7) (T := TX7) (N := 56) hx hb hts (fun _ h => List.mem_cons_of_mem _ (List.mem_append_right _ h)) hown hK hP 0 rfl rfl 31 (by decide) (hts (.fieldLink RX7 59 "CrownTableModel" "left" "[I") (mem_i 3 rfl)) (fun _ h9 => h9) rfl dX7_owedOf_24 ?_
        refine lv_iload_n hx hb dX7_owedOf_27 rfl (lv_at hl 3 rfl) ?_
        refine va_iald hx hb hK hP 2 1 rfl rfl (vin (a := L3.toInt) rfl (by omega) (by omega)) dX7_owedOf_28 ?_
        refine lv_topi (fun x_8 ex_8 => ?_)
        have lf_9 : (f_left L3.toInt.toNat).toInt = x_8.toInt := by rw [ex_8, clampN (x := L3) rfl]
        refine iif_le (a := x_8.toInt) (tgt := 36) hx hb rfl dX7_owedOf_29 (by decide) (fun k_10 => ?_) (fun k_10 => ?_)
        · skip
          refine lv_iconst (v := 0) hx hb dX7_owedOf_36 (by decide) ?_
          rw [if_neg (show ¬ ((f_debtor L3.toInt.toNat).toInt = i_a1 ∧ 0 < (f_left L3.toInt.toNat).toInt) by omega)] at ow9
          refine lv_iadd hx hb dX7_owedOf_37 ?_
          refine lv_topi (fun x_11 ex_11 => ?_)
          have tx_11 : x_11.toInt = (L2.toInt + 0) := by rw [ex_11]; exact add_ti (a := L2.toInt) (b := 0) rfl (by decide) (by omega) (by omega)
          refine lv_istore_n (lv' := [(2, .int x_11), (0, .ref A_self), (1, .int a1), (3, .int L3)]) hx hb dX7_owedOf_38 rfl hl (by decide) rfl (fun ls hl => ?_)
          obtain ⟨x_12, ex_12⟩ : ∃ y : Int32, y = L3 + 1 := ⟨_, rfl⟩
          have tx_12 : x_12.toInt = L3.toInt + 1 := by rw [ex_12]; exact add_ti (a := L3.toInt) (b := 1) rfl (by decide) (by omega) (by omega)
          refine lv_iinc (v := x_12) (lv' := [(3, .int x_12), (2, .int x_11), (0, .ref A_self), (1, .int a1)]) hx hb dX7_owedOf_39 hl (k := 3) rfl (by rw [ex_12]; rfl) (by decide) rfl (fun ls hl => ?_)
          refine lv_goto (tgt := 4) hx hb dX7_owedOf_42 (by decide) ?_
          have ow6 : owm f_debtor f_left i_a1 x_12.toInt ((v 27).toInt - x_12.toInt).toNat = owm f_debtor f_left i_a1 (L3.toInt + 1) ((v 27).toInt - (L3.toInt + 1)).toNat := by rw [show x_12.toInt = L3.toInt + 1 from tx_12]
          have hl := lv_sub hl [2, 3, 1, 0] rfl
          exact (ih4 ((400 - x_12.toInt).toNat) (by omega) x_11 x_12 (by omega) (by omega) (by omega) (by omega) (by omega) (by omega) rfl _ hl)
        · skip
          refine lv_iconst (v := 1) hx hb dX7_owedOf_32 (by decide) ?_
          refine lv_goto (tgt := 37) hx hb dX7_owedOf_33 (by decide) ?_
          rw [if_pos (show (f_debtor L3.toInt.toNat).toInt = i_a1 ∧ 0 < (f_left L3.toInt.toNat).toInt by omega)] at ow9
          refine lv_iadd hx hb dX7_owedOf_37 ?_
          refine lv_topi (fun x_13 ex_13 => ?_)
          have tx_13 : x_13.toInt = (L2.toInt + 1) := by rw [ex_13]; exact add_ti (a := L2.toInt) (b := 1) rfl (by decide) (by omega) (by omega)
          refine lv_istore_n (lv' := [(2, .int x_13), (0, .ref A_self), (1, .int a1), (3, .int L3)]) hx hb dX7_owedOf_38 rfl hl (by decide) rfl (fun ls hl => ?_)
          obtain ⟨x_14, ex_14⟩ : ∃ y : Int32, y = L3 + 1 := ⟨_, rfl⟩
          have tx_14 : x_14.toInt = L3.toInt + 1 := by rw [ex_14]; exact add_ti (a := L3.toInt) (b := 1) rfl (by decide) (by omega) (by omega)
          refine lv_iinc (v := x_14) (lv' := [(3, .int x_14), (2, .int x_13), (0, .ref A_self), (1, .int a1)]) hx hb dX7_owedOf_39 hl (k := 3) rfl (by rw [ex_14]; rfl) (by decide) rfl (fun ls hl => ?_)
          refine lv_goto (tgt := 4) hx hb dX7_owedOf_42 (by decide) ?_
          have ow6 : owm f_debtor f_left i_a1 x_14.toInt ((v 27).toInt - x_14.toInt).toNat = owm f_debtor f_left i_a1 (L3.toInt + 1) ((v 27).toInt - (L3.toInt + 1)).toNat := by rw [show x_14.toInt = L3.toInt + 1 from tx_14]
          have hl := lv_sub hl [2, 3, 1, 0] rfl
          exact (ih4 ((400 - x_14.toInt).toNat) (by omega) x_13 x_14 (by omega) (by omega) (by omega) (by omega) (by omega) (by omega) rfl _ hl)
  have kzz_15 : (0 : Int32).toInt = 0 := by decide
  have hl := lv_sub hl [2, 3, 1, 0] rfl
  exact (lp_4 _ 0 0 (by omega) (by omega) (by omega) (by omega) (by omega) (by rw [show (0 : Int32).toInt = 0 from rfl, Int.sub_zero]; omega) rfl _ hl)

set_option maxHeartbeats 4000000 in
set_option maxRecDepth 100000 in
theorem k_X7_owe (l : Launch) (D : va_G) (c : Nat → ClassId) (ts : Nat × Nat) (sz : Nat) (A_self : Nat) (q : Nat → Nat) (v : Nat → Int32) (w : Nat → Int64) (f_debtor : Nat → Int32) (f_left : Nat → Int32) (f_credit : Nat → Int64) (f_held : Nat → Int32) (f_cameAt : Nat → Int32) (a1 : Int32) (i_a1 : Int) (hi_a1 : a1.toInt = i_a1) (a2 : Int32) (i_a2 : Int) (hi_a2 : a2.toInt = i_a2) (hv_2 : 0 ≤ (v 2).toInt ∧ (v 2).toInt ≤ 800) (hv_8 : 0 ≤ (v 8).toInt ∧ (v 8).toInt ≤ 10) (hv_21 : 0 ≤ (v 21).toInt ∧ (v 21).toInt ≤ 40) (hv_24 : 0 ≤ (v 24).toInt ∧ (v 24).toInt ≤ 1000) (hv_27 : 0 ≤ (v 27).toInt ∧ (v 27).toInt ≤ 400) (hv_42 : 0 ≤ (v 42).toInt ∧ (v 42).toInt ≤ 4000) (hv_52 : 0 ≤ (v 52).toInt ∧ (v 52).toInt ≤ 2000) (hc_debtor : ∀ j : Nat, 0 ≤ (f_debtor j).toInt ∧ (f_debtor j).toInt ≤ 15) : Met l yX7_owe wsX7_owe ({ frames := 2, cells := 0, slots := 0, locals := 42 }) (va_Pc [.ref A_self, .int a1, .int a2] (Pre0 D c ts [(A_self, .inr (7, o7 q v w)), (q 28, .inl (c 1, 400, .inl f_debtor)), (q 31, .inl (c 1, 400, .inl f_left)), (q 35, .inl (c 2, 16, .inr (.inl f_credit))), (q 36, .inl (c 3, 16, .inl f_held)), (q 37, .inl (c 1, 16, .inl f_cameAt))] sz)) (vp_Sl (fun r : Int64 => True)) 0 0 (fun _ => False) := by
  refine Met.ofW (cc := cX7_owe) (maxL := 3) (ret := (some .long)) (by decide) rfl ?_
  intro p e s m args below meth cd s₁ B hml hv
  obtain ⟨rfl, hsz, hP, hD0, hAm, hSt⟩ := hv
  have hx := B.exec
  have hb := B.bytes
  have hr := B.returns
  have hts := atoms_spec (ws := wsX7_owe) B.pre
  have hown : s.vm.findClass RX7 = some m.cls := findClass_of_methodNamed B.named
  have hlocks := B.notSynchronized
  have hK := hAm.1
  subst hsz
  have hD := hD0.self (sz := s.heap.size)
  generalize hAe : va_A [(A_self, .inr (7, o7 q v w)), (q 28, .inl (c 1, 400, .inl f_debtor)), (q 31, .inl (c 1, 400, .inl f_left)), (q 35, .inl (c 2, 16, .inr (.inl f_credit))), (q 36, .inl (c 3, 16, .inl f_held)), (q 37, .inl (c 1, 16, .inl f_cameAt))] s.heap.size = A at hD hSt
  have hA : ∀ q : Nat, s.heap.size ≤ q → A q := fun q h => by rw [← hAe]; exact Or.inr h
  have hS : va_S A s.heap s.heap [] := va_S.rf
  clear hD0 hAe
  have hl := lv_entry ([.ref A_self, .int a1, .int a2]) (n := 3) (Nat.le_of_ble_eq_true rfl)
  rw [lg_entry_eq]
  generalize (lg_sl ([.ref A_self, .int a1, .int a2]) ++ List.replicate (3 - (lg_sl ([.ref A_self, .int a1, .int a2])).length) Slot.unset).toArray = ls at hl ⊢
  have hl : lv_has ls 3 [(0, .ref A_self), (1, .int a1), (2, .int a2)] := hl
  have rg_a1 := i32r a1
  have rg_a2 := i32r a2
  refine lv_iload_n hx hb dX7_owe_0 rfl (lv_at hl 1 rfl) ?_
  have hPc := hP.sub (ws' := []) [] rfl
  have hDc := hD.sub (ws' := []) [] (by decide) rfl
  have hFc := va_free (wc := []) hD hS hA [] rfl
  refine va_csi (va_runS (As := [.int a1]) (rest := []) ⟨hx, hb, hml, hown, hts⟩ (k_X7_isPerson l D c ts s.heap.size a1 i_a1 hi_a1) (cwS 1 hts gX7_owe_X7_isPerson rfl rfl rfl ⟨rfl, hdX7_isPerson⟩ ⟨(show 1 + 1 ≤ 2 by decide), (show 8 + (1 + 11) + 22 ≤ 42 by decide)⟩) ⟨Pre0.blind, Pre0.at hPc hDc hAm hSt hS hFc⟩ rfl rfl hl.1 rfl (lv_room (Nat.le_of_ble_eq_true rfl)) dX7_owe_1 ⟨(show 0 + 0 ≤ 0 by decide), (show 0 + 0 ≤ 0 by decide)⟩) (fun r_2 hw_1 => ?_)
  rcases hw_1 with ⟨hw_1, rfl⟩ | ⟨hw_1, rfl⟩
  · skip
    refine iif_neT (a := 1) (tgt := 11) hx hb (by decide) dX7_owe_4 (by decide) (by decide) ?_
    refine lv_iload_n hx hb dX7_owe_11 rfl (lv_at hl 2 rfl) ?_
    by_cases k_3 : i_a2 = 0
    · have ek_3 : a2.toInt = 0 := hi_a2.trans k_3
      refine lv_tableIn (tgt := 48) hx hb dX7_owe_12 (by rw [ek_3]; decide) (by rw [ek_3]; decide) (by rw [ek_3]; rfl) (by decide) ?_
      refine lv_aload_n hx hb dX7_owe_48 rfl (lv_at hl 0 rfl) ?_
      refine lv_iload_n hx hb dX7_owe_49 rfl (lv_at hl 1 rfl) ?_
      have hPc := hP.sub (ws' := [(A_self, .inr (7, o7 q v w)), (q 28, .inl (c 1, 400, .inl f_debtor)), (q 31, .inl (c 1, 400, .inl f_left))]) [0, 1, 2] rfl
      have hDc := hD.sub (ws' := [(A_self, .inr (7, o7 q v w)), (q 28, .inl (c 1, 400, .inl f_debtor)), (q 31, .inl (c 1, 400, .inl f_left))]) [0, 1, 2] (by decide) rfl
      have hFc := va_free (wc := [(A_self, .inr (7, o7 q v w)), (q 28, .inl (c 1, 400, .inl f_debtor)), (q 31, .inl (c 1, 400, .inl f_left))]) hD hS hA [0, 1, 2] rfl
      refine va_csl (va_runV (As := [.int a1]) (rest := []) ⟨hx, hb, hml, hown, hts⟩ (k_X7_allOf l D c ts s.heap.size A_self q v w f_debtor f_left a1 i_a1 hi_a1 (show 0 ≤ (v 2).toInt ∧ (v 2).toInt ≤ 800 by omega) (show 0 ≤ (v 8).toInt ∧ (v 8).toInt ≤ 10 by omega) (show 0 ≤ (v 21).toInt ∧ (v 21).toInt ≤ 40 by omega) (show 0 ≤ (v 24).toInt ∧ (v 24).toInt ≤ 1000 by omega) (show 0 ≤ (v 27).toInt ∧ (v 27).toInt ≤ 400 by omega) (show 0 ≤ (v 42).toInt ∧ (v 42).toInt ≤ 4000 by omega) (show 0 ≤ (v 52).toInt ∧ (v 52).toInt ≤ 2000 by omega) hc_debtor) (cwV 1 hts gX7_owe_X7_allOf rfl rfl rfl ⟨rfl, hdX7_allOf⟩ ⟨(show 0 + 1 ≤ 2 by decide), (show 8 + (5 + 11) + 0 ≤ 42 by decide)⟩) ⟨Pre0.blind, va_recv hK hPc (ci := 7) (q0 := 0) rfl rfl, Pre0.at hPc hDc hAm hSt hS hFc⟩ rfl rfl hl.1 rfl (lv_room (Nat.le_of_ble_eq_true rfl)) dX7_owe_50 ⟨(show 0 + 0 ≤ 0 by decide), (show 0 + 0 ≤ 0 by decide)⟩) (fun r_5 hw_4 => ?_)
      exact W.lret (v := r_5) hx hb hr (fun t ht hW => ⟨_, rfl, trivial, ht⟩) (fun _ h => by cases h) dX7_owe_53
    by_cases k_6 : i_a2 = 1
    · have ek_6 : a2.toInt = 1 := hi_a2.trans k_6
      refine lv_tableIn (tgt := 54) hx hb dX7_owe_12 (by rw [ek_6]; decide) (by rw [ek_6]; decide) (by rw [ek_6]; rfl) (by decide) ?_
      refine lv_aload_n hx hb dX7_owe_54 rfl (lv_at hl 0 rfl) ?_
      refine va_get (D := D) (ci := 7) (v := .ref (q 35)) (C := RX7) (T := TX7) (N := 56) hx hb hts (fun _ h => List.mem_cons_of_mem _ (List.mem_append_right _ h)) hown hK hP 0 rfl rfl 35 (by decide) (hts (.fieldLink RX7 71 "CrownTableModel" "credit" "[J") (mem_i 2 rfl)) (fun _ h9 => h9) rfl dX7_owe_55 ?_
      refine lv_iload_n hx hb dX7_owe_58 rfl (lv_at hl 1 rfl) ?_
      refine va_lald hx hb hK hP 3 2 rfl rfl (vin (a := i_a1) hi_a1 (by omega) (by omega)) dX7_owe_59 ?_
      refine lv_topl (fun x_7 ex_7 => ?_)
      exact W.lret (v := x_7) hx hb hr (fun t ht hW => ⟨_, rfl, trivial, ht⟩) (fun _ h => by cases h) dX7_owe_60
    by_cases k_8 : i_a2 = 2
    · have ek_8 : a2.toInt = 2 := hi_a2.trans k_8
      refine lv_tableIn (tgt := 61) hx hb dX7_owe_12 (by rw [ek_8]; decide) (by rw [ek_8]; decide) (by rw [ek_8]; rfl) (by decide) ?_
      refine lv_aload_n hx hb dX7_owe_61 rfl (lv_at hl 0 rfl) ?_
      refine va_get (D := D) (ci := 7) (v := .ref (q 36)) (C := RX7) (T := TX7) (N := 56) hx hb hts (fun _ h => List.mem_cons_of_mem _ (List.mem_append_right _ h)) hown hK hP 0 rfl rfl 36 (by decide) (hts (.fieldLink RX7 75 "CrownTableModel" "held" "[Z") (mem_i 3 rfl)) (fun _ h9 => h9) rfl dX7_owe_62 ?_
      refine lv_iload_n hx hb dX7_owe_65 rfl (lv_at hl 1 rfl) ?_
      refine va_zald hx hb hK hP 4 3 rfl rfl (vin (a := i_a1) hi_a1 (by omega) (by omega)) dX7_owe_66 ?_
      refine lv_topi (fun x_9 ex_9 => ?_)
      refine iif_eq (a := x_9.toInt) (tgt := 74) hx hb rfl dX7_owe_67 (by decide) (fun k_10 => ?_) (fun k_10 => ?_)
      · skip
        refine lv_lconst (v := 0) hx hb dX7_owe_74 (by decide) ?_
        exact W.lret (v := 0) hx hb hr (fun t ht hW => ⟨_, rfl, trivial, ht⟩) (fun _ h => by cases h) dX7_owe_75
      · skip
        refine lv_lconst (v := 1) hx hb dX7_owe_70 (by decide) ?_
        refine lv_goto (tgt := 75) hx hb dX7_owe_71 (by decide) ?_
        exact W.lret (v := 1) hx hb hr (fun t ht hW => ⟨_, rfl, trivial, ht⟩) (fun _ h => by cases h) dX7_owe_75
    by_cases k_11 : i_a2 = 3
    · have ek_11 : a2.toInt = 3 := hi_a2.trans k_11
      refine lv_tableIn (tgt := 76) hx hb dX7_owe_12 (by rw [ek_11]; decide) (by rw [ek_11]; decide) (by rw [ek_11]; rfl) (by decide) ?_
      refine lv_aload_n hx hb dX7_owe_76 rfl (lv_at hl 0 rfl) ?_
      refine lv_iload_n hx hb dX7_owe_77 rfl (lv_at hl 1 rfl) ?_
      have hPc := hP.sub (ws' := [(A_self, .inr (7, o7 q v w)), (q 28, .inl (c 1, 400, .inl f_debtor)), (q 31, .inl (c 1, 400, .inl f_left))]) [0, 1, 2] rfl
      have hDc := hD.sub (ws' := [(A_self, .inr (7, o7 q v w)), (q 28, .inl (c 1, 400, .inl f_debtor)), (q 31, .inl (c 1, 400, .inl f_left))]) [0, 1, 2] (by decide) rfl
      have hFc := va_free (wc := [(A_self, .inr (7, o7 q v w)), (q 28, .inl (c 1, 400, .inl f_debtor)), (q 31, .inl (c 1, 400, .inl f_left))]) hD hS hA [0, 1, 2] rfl
      refine va_csi (va_runV (As := [.int a1]) (rest := []) ⟨hx, hb, hml, hown, hts⟩ (k_X7_owedOf l D c ts s.heap.size A_self q v w f_debtor f_left a1 i_a1 hi_a1 (show 0 ≤ (v 2).toInt ∧ (v 2).toInt ≤ 800 by omega) (show 0 ≤ (v 8).toInt ∧ (v 8).toInt ≤ 10 by omega) (show 0 ≤ (v 21).toInt ∧ (v 21).toInt ≤ 40 by omega) (show 0 ≤ (v 24).toInt ∧ (v 24).toInt ≤ 1000 by omega) (show 0 ≤ (v 27).toInt ∧ (v 27).toInt ≤ 400 by omega) (show 0 ≤ (v 42).toInt ∧ (v 42).toInt ≤ 4000 by omega) (show 0 ≤ (v 52).toInt ∧ (v 52).toInt ≤ 2000 by omega) hc_debtor) (cwV 1 hts gX7_owe_X7_owedOf rfl rfl rfl ⟨rfl, hdX7_owedOf⟩ ⟨(show 0 + 1 ≤ 2 by decide), (show 8 + (4 + 11) + 0 ≤ 42 by decide)⟩) ⟨Pre0.blind, va_recv hK hPc (ci := 7) (q0 := 0) rfl rfl, Pre0.at hPc hDc hAm hSt hS hFc⟩ rfl rfl hl.1 rfl (lv_room (Nat.le_of_ble_eq_true rfl)) dX7_owe_78 ⟨(show 0 + 0 ≤ 0 by decide), (show 0 + 0 ≤ 0 by decide)⟩) (fun r_13 hw_12 => ?_)
      have hw_12 : (r_13.toInt = owm f_debtor f_left i_a1 0 (v 27).toInt.toNat) ∧ (0 ≤ r_13.toInt ∧ r_13.toInt ≤ 400) := hw_12
      refine lv_i2l hx hb dX7_owe_81 rfl ?_
      exact W.lret (v := r_13.toInt64) hx hb hr (fun t ht hW => ⟨_, rfl, trivial, ht⟩) (fun _ h => by cases h) dX7_owe_82
    by_cases k_14 : i_a2 = 4
    · have ek_14 : a2.toInt = 4 := hi_a2.trans k_14
      refine lv_tableIn (tgt := 83) hx hb dX7_owe_12 (by rw [ek_14]; decide) (by rw [ek_14]; decide) (by rw [ek_14]; rfl) (by decide) ?_
      refine lv_aload_n hx hb dX7_owe_83 rfl (lv_at hl 0 rfl) ?_
      refine va_get (D := D) (ci := 7) (v := .ref (q 37)) (C := RX7) (T := TX7) (N := 56) hx hb hts (fun _ h => List.mem_cons_of_mem _ (List.mem_append_right _ h)) hown hK hP 0 rfl rfl 37 (by decide) (hts (.fieldLink RX7 79 "CrownTableModel" "cameAt" "[I") (mem_i 4 rfl)) (fun _ h9 => h9) rfl dX7_owe_84 ?_
      refine lv_iload_n hx hb dX7_owe_87 rfl (lv_at hl 1 rfl) ?_
      refine va_iald hx hb hK hP 5 1 rfl rfl (vin (a := i_a1) hi_a1 (by omega) (by omega)) dX7_owe_88 ?_
      refine lv_topi (fun x_15 ex_15 => ?_)
      refine lv_aload_n hx hb dX7_owe_89 rfl (lv_at hl 0 rfl) ?_
      refine va_get (D := D) (ci := 7) (v := .int (v 24)) (C := RX7) (T := TX7) (N := 56) hx hb hts (fun _ h => List.mem_cons_of_mem _ (List.mem_append_right _ h)) hown hK hP 0 rfl rfl 24 (by decide) (hts (.fieldLink RX7 267 "CrownTableModel" "term" "I") (mem_i 5 rfl)) (fun _ h9 => h9) rfl dX7_owe_90 ?_
      refine iicmp_ne (a := x_15.toInt) (b := (v 24).toInt) (tgt := 100) hx hb rfl rfl dX7_owe_93 (by decide) (fun k_16 => ?_) (fun k_16 => ?_)
      · skip
        refine lv_lconst (v := 0) hx hb dX7_owe_100 (by decide) ?_
        exact W.lret (v := 0) hx hb hr (fun t ht hW => ⟨_, rfl, trivial, ht⟩) (fun _ h => by cases h) dX7_owe_101
      · skip
        refine lv_lconst (v := 1) hx hb dX7_owe_96 (by decide) ?_
        refine lv_goto (tgt := 101) hx hb dX7_owe_97 (by decide) ?_
        exact W.lret (v := 1) hx hb hr (fun t ht hW => ⟨_, rfl, trivial, ht⟩) (fun _ h => by cases h) dX7_owe_101
    refine lv_tableOut (tgt := 102) hx hb dX7_owe_12 (by rw [hi_a2]; omega) (by decide) ?_
    refine lv_ldc2 (v := (-1)) hx hb hown (hts (.constantLong RX7 338 (-1)) (mem_i 1 rfl)) dX7_owe_102 ?_
    exact W.lret (v := (-1)) hx hb hr (fun t ht hW => ⟨_, rfl, trivial, ht⟩) (fun _ h => by cases h) dX7_owe_105
  · skip
    refine iif_neF (a := 0) (tgt := 11) hx hb (by decide) dX7_owe_4 (by decide) (by decide) ?_
    refine lv_ldc2 (v := (-1)) hx hb hown (hts (.constantLong RX7 338 (-1)) (mem_i 1 rfl)) dX7_owe_7 ?_
    exact W.lret (v := (-1)) hx hb hr (fun t ht hW => ⟨_, rfl, trivial, ht⟩) (fun _ h => by cases h) dX7_owe_10

set_option maxHeartbeats 4000000 in
set_option maxRecDepth 100000 in
theorem k_X7_line (l : Launch) (D : va_G) (c : Nat → ClassId) (ts : Nat × Nat) (sz : Nat) (A_self : Nat) (q : Nat → Nat) (v : Nat → Int32) (w : Nat → Int64) (f_lineTerm : Nat → Int32) (f_linePerson : Nat → Int32) (f_lineDebt : Nat → Int32) (f_lineAct : Nat → Int32) (f_linePaid : Nat → Int32) (f_lineStatement : Nat → Int32) (f_lineText : Nat → Int32) (f_lineStick : Nat → Int32) (f_lineGone : Nat → Int32) (a1 : Int32) (i_a1 : Int) (hi_a1 : a1.toInt = i_a1) (a2 : Int32) (i_a2 : Int) (hi_a2 : a2.toInt = i_a2) (hv_2 : 0 ≤ (v 2).toInt ∧ (v 2).toInt ≤ 800) (hv_8 : 0 ≤ (v 8).toInt ∧ (v 8).toInt ≤ 10) (hv_21 : 0 ≤ (v 21).toInt ∧ (v 21).toInt ≤ 40) (hv_24 : 0 ≤ (v 24).toInt ∧ (v 24).toInt ≤ 1000) (hv_27 : 0 ≤ (v 27).toInt ∧ (v 27).toInt ≤ 400) (hv_42 : 0 ≤ (v 42).toInt ∧ (v 42).toInt ≤ 4000) (hv_52 : 0 ≤ (v 52).toInt ∧ (v 52).toInt ≤ 2000) : Met l yX7_line wsX7_line ({ frames := 1, cells := 0, slots := 0, locals := 22 }) (va_Pc [.ref A_self, .int a1, .int a2] (Pre0 D c ts [(A_self, .inr (7, o7 q v w)), (q 43, .inl (c 1, 4000, .inl f_lineTerm)), (q 44, .inl (c 1, 4000, .inl f_linePerson)), (q 45, .inl (c 1, 4000, .inl f_lineDebt)), (q 46, .inl (c 1, 4000, .inl f_lineAct)), (q 47, .inl (c 1, 4000, .inl f_linePaid)), (q 48, .inl (c 1, 4000, .inl f_lineStatement)), (q 49, .inl (c 1, 4000, .inl f_lineText)), (q 50, .inl (c 1, 4000, .inl f_lineStick)), (q 51, .inl (c 1, 4000, .inl f_lineGone))] sz)) (vp_Si (fun r : Int32 => True)) 0 0 (fun _ => False) := by
  refine Met.ofW (cc := cX7_line) (maxL := 3) (ret := (some .int)) (by decide) rfl ?_
  intro p e s m args below meth cd s₁ B hml hv
  obtain ⟨rfl, hsz, hP, hD0, hAm, hSt⟩ := hv
  have hx := B.exec
  have hb := B.bytes
  have hr := B.returns
  have hts := atoms_spec (ws := wsX7_line) B.pre
  have hown : s.vm.findClass RX7 = some m.cls := findClass_of_methodNamed B.named
  have hlocks := B.notSynchronized
  have hK := hAm.1
  subst hsz
  have hD := hD0.self (sz := s.heap.size)
  generalize hAe : va_A [(A_self, .inr (7, o7 q v w)), (q 43, .inl (c 1, 4000, .inl f_lineTerm)), (q 44, .inl (c 1, 4000, .inl f_linePerson)), (q 45, .inl (c 1, 4000, .inl f_lineDebt)), (q 46, .inl (c 1, 4000, .inl f_lineAct)), (q 47, .inl (c 1, 4000, .inl f_linePaid)), (q 48, .inl (c 1, 4000, .inl f_lineStatement)), (q 49, .inl (c 1, 4000, .inl f_lineText)), (q 50, .inl (c 1, 4000, .inl f_lineStick)), (q 51, .inl (c 1, 4000, .inl f_lineGone))] s.heap.size = A at hD hSt
  have hA : ∀ q : Nat, s.heap.size ≤ q → A q := fun q h => by rw [← hAe]; exact Or.inr h
  have hS : va_S A s.heap s.heap [] := va_S.rf
  clear hD0 hAe
  have hl := lv_entry ([.ref A_self, .int a1, .int a2]) (n := 3) (Nat.le_of_ble_eq_true rfl)
  rw [lg_entry_eq]
  generalize (lg_sl ([.ref A_self, .int a1, .int a2]) ++ List.replicate (3 - (lg_sl ([.ref A_self, .int a1, .int a2])).length) Slot.unset).toArray = ls at hl ⊢
  have hl : lv_has ls 3 [(0, .ref A_self), (1, .int a1), (2, .int a2)] := hl
  have rg_a1 := i32r a1
  have rg_a2 := i32r a2
  refine lv_iload_n hx hb dX7_line_0 rfl (lv_at hl 1 rfl) ?_
  refine lv_iconst (v := 0) hx hb dX7_line_1 (by decide) ?_
  refine lv_aload_n hx hb dX7_line_2 rfl (lv_at hl 0 rfl) ?_
  refine va_get (D := D) (ci := 7) (v := .int (v 42)) (C := RX7) (T := TX7) (N := 56) hx hb hts (fun _ h => List.mem_cons_of_mem _ (List.mem_append_right _ h)) hown hK hP 0 rfl rfl 42 (by decide) (hts (.fieldLink RX7 319 "CrownTableModel" "lines" "I") (mem_i 1 rfl)) (fun _ h9 => h9) rfl dX7_line_3 ?_
  refine lv_iconst (v := 1) hx hb dX7_line_6 (by decide) ?_
  refine lv_isub hx hb dX7_line_7 ?_
  refine lv_topi (fun x_1 ex_1 => ?_)
  have tx_1 : x_1.toInt = ((v 42).toInt - 1) := by rw [ex_1]; exact sub_ti (a := (v 42).toInt) (b := 1) rfl (by decide) (by omega) (by omega)
  have hPc := hP.sub (ws' := []) [] rfl
  have hDc := hD.sub (ws' := []) [] (by decide) rfl
  have hFc := va_free (wc := []) hD hS hA [] rfl
  have kzz_2 : (0 : Int32).toInt = 0 := by decide
  refine va_csi (va_runS (As := [.int a1, .int 0, .int x_1]) (rest := []) ⟨hx, hb, hml, hown, hts⟩ (k_X7_in l D c ts s.heap.size a1 i_a1 hi_a1 0 0 (by decide) x_1 ((v 42).toInt - 1) tx_1) (cwS 3 hts gX7_line_X7_in rfl rfl rfl ⟨rfl, hdX7_in⟩ ⟨(show 0 + 1 ≤ 1 by decide), (show 8 + (3 + 11) + 0 ≤ 22 by decide)⟩) ⟨Pre0.blind, Pre0.at hPc hDc hAm hSt hS hFc⟩ rfl rfl hl.1 rfl (lv_room (Nat.le_of_ble_eq_true rfl)) dX7_line_8 ⟨(show 0 + 0 ≤ 0 by decide), (show 0 + 0 ≤ 0 by decide)⟩) (fun r_4 hw_3 => ?_)
  rcases hw_3 with ⟨hw_3, rfl⟩ | ⟨hw_3, rfl⟩
  · skip
    refine iif_neT (a := 1) (tgt := 17) hx hb (by decide) dX7_line_11 (by decide) (by decide) ?_
    refine lv_iload_n hx hb dX7_line_17 rfl (lv_at hl 2 rfl) ?_
    by_cases k_5 : i_a2 = 0
    · have ek_5 : a2.toInt = 0 := hi_a2.trans k_5
      refine lv_tableIn (tgt := 64) hx hb dX7_line_18 (by rw [ek_5]; decide) (by rw [ek_5]; decide) (by rw [ek_5]; rfl) (by decide) ?_
      refine lv_aload_n hx hb dX7_line_64 rfl (lv_at hl 0 rfl) ?_
      refine va_get (D := D) (ci := 7) (v := .ref (q 43)) (C := RX7) (T := TX7) (N := 56) hx hb hts (fun _ h => List.mem_cons_of_mem _ (List.mem_append_right _ h)) hown hK hP 0 rfl rfl 43 (by decide) (hts (.fieldLink RX7 85 "CrownTableModel" "lineTerm" "[I") (mem_i 2 rfl)) (fun _ h9 => h9) rfl dX7_line_65 ?_
      refine lv_iload_n hx hb dX7_line_68 rfl (lv_at hl 1 rfl) ?_
      refine va_iald hx hb hK hP 1 1 rfl rfl (vin (a := i_a1) hi_a1 (by omega) (by omega)) dX7_line_69 ?_
      refine lv_topi (fun x_6 ex_6 => ?_)
      exact W.iret (v := x_6) hx hb hr (fun t ht hW => ⟨_, rfl, trivial, ht⟩) (fun _ h => by cases h) dX7_line_70
    by_cases k_7 : i_a2 = 1
    · have ek_7 : a2.toInt = 1 := hi_a2.trans k_7
      refine lv_tableIn (tgt := 71) hx hb dX7_line_18 (by rw [ek_7]; decide) (by rw [ek_7]; decide) (by rw [ek_7]; rfl) (by decide) ?_
      refine lv_aload_n hx hb dX7_line_71 rfl (lv_at hl 0 rfl) ?_
      refine va_get (D := D) (ci := 7) (v := .ref (q 44)) (C := RX7) (T := TX7) (N := 56) hx hb hts (fun _ h => List.mem_cons_of_mem _ (List.mem_append_right _ h)) hown hK hP 0 rfl rfl 44 (by decide) (hts (.fieldLink RX7 88 "CrownTableModel" "linePerson" "[I") (mem_i 3 rfl)) (fun _ h9 => h9) rfl dX7_line_72 ?_
      refine lv_iload_n hx hb dX7_line_75 rfl (lv_at hl 1 rfl) ?_
      refine va_iald hx hb hK hP 2 1 rfl rfl (vin (a := i_a1) hi_a1 (by omega) (by omega)) dX7_line_76 ?_
      refine lv_topi (fun x_8 ex_8 => ?_)
      exact W.iret (v := x_8) hx hb hr (fun t ht hW => ⟨_, rfl, trivial, ht⟩) (fun _ h => by cases h) dX7_line_77
    by_cases k_9 : i_a2 = 2
    · have ek_9 : a2.toInt = 2 := hi_a2.trans k_9
      refine lv_tableIn (tgt := 78) hx hb dX7_line_18 (by rw [ek_9]; decide) (by rw [ek_9]; decide) (by rw [ek_9]; rfl) (by decide) ?_
      refine lv_aload_n hx hb dX7_line_78 rfl (lv_at hl 0 rfl) ?_
      refine va_get (D := D) (ci := 7) (v := .ref (q 45)) (C := RX7) (T := TX7) (N := 56) hx hb hts (fun _ h => List.mem_cons_of_mem _ (List.mem_append_right _ h)) hown hK hP 0 rfl rfl 45 (by decide) (hts (.fieldLink RX7 91 "CrownTableModel" "lineDebt" "[I") (mem_i 4 rfl)) (fun _ h9 => h9) rfl dX7_line_79 ?_
      refine lv_iload_n hx hb dX7_line_82 rfl (lv_at hl 1 rfl) ?_
      refine va_iald hx hb hK hP 3 1 rfl rfl (vin (a := i_a1) hi_a1 (by omega) (by omega)) dX7_line_83 ?_
      refine lv_topi (fun x_10 ex_10 => ?_)
      exact W.iret (v := x_10) hx hb hr (fun t ht hW => ⟨_, rfl, trivial, ht⟩) (fun _ h => by cases h) dX7_line_84
    by_cases k_11 : i_a2 = 3
    · have ek_11 : a2.toInt = 3 := hi_a2.trans k_11
      refine lv_tableIn (tgt := 85) hx hb dX7_line_18 (by rw [ek_11]; decide) (by rw [ek_11]; decide) (by rw [ek_11]; rfl) (by decide) ?_
      refine lv_aload_n hx hb dX7_line_85 rfl (lv_at hl 0 rfl) ?_
      refine va_get (D := D) (ci := 7) (v := .ref (q 46)) (C := RX7) (T := TX7) (N := 56) hx hb hts (fun _ h => List.mem_cons_of_mem _ (List.mem_append_right _ h)) hown hK hP 0 rfl rfl 46 (by decide) (hts (.fieldLink RX7 94 "CrownTableModel" "lineAct" "[I") (mem_i 5 rfl)) (fun _ h9 => h9) rfl dX7_line_86 ?_
      refine lv_iload_n hx hb dX7_line_89 rfl (lv_at hl 1 rfl) ?_
      refine va_iald hx hb hK hP 4 1 rfl rfl (vin (a := i_a1) hi_a1 (by omega) (by omega)) dX7_line_90 ?_
      refine lv_topi (fun x_12 ex_12 => ?_)
      exact W.iret (v := x_12) hx hb hr (fun t ht hW => ⟨_, rfl, trivial, ht⟩) (fun _ h => by cases h) dX7_line_91
    by_cases k_13 : i_a2 = 4
    · have ek_13 : a2.toInt = 4 := hi_a2.trans k_13
      refine lv_tableIn (tgt := 92) hx hb dX7_line_18 (by rw [ek_13]; decide) (by rw [ek_13]; decide) (by rw [ek_13]; rfl) (by decide) ?_
      refine lv_aload_n hx hb dX7_line_92 rfl (lv_at hl 0 rfl) ?_
      refine va_get (D := D) (ci := 7) (v := .ref (q 47)) (C := RX7) (T := TX7) (N := 56) hx hb hts (fun _ h => List.mem_cons_of_mem _ (List.mem_append_right _ h)) hown hK hP 0 rfl rfl 47 (by decide) (hts (.fieldLink RX7 97 "CrownTableModel" "linePaid" "[I") (mem_i 6 rfl)) (fun _ h9 => h9) rfl dX7_line_93 ?_
      refine lv_iload_n hx hb dX7_line_96 rfl (lv_at hl 1 rfl) ?_
      refine va_iald hx hb hK hP 5 1 rfl rfl (vin (a := i_a1) hi_a1 (by omega) (by omega)) dX7_line_97 ?_
      refine lv_topi (fun x_14 ex_14 => ?_)
      exact W.iret (v := x_14) hx hb hr (fun t ht hW => ⟨_, rfl, trivial, ht⟩) (fun _ h => by cases h) dX7_line_98
    by_cases k_15 : i_a2 = 5
    · have ek_15 : a2.toInt = 5 := hi_a2.trans k_15
      refine lv_tableIn (tgt := 99) hx hb dX7_line_18 (by rw [ek_15]; decide) (by rw [ek_15]; decide) (by rw [ek_15]; rfl) (by decide) ?_
      refine lv_aload_n hx hb dX7_line_99 rfl (lv_at hl 0 rfl) ?_
      refine va_get (D := D) (ci := 7) (v := .ref (q 48)) (C := RX7) (T := TX7) (N := 56) hx hb hts (fun _ h => List.mem_cons_of_mem _ (List.mem_append_right _ h)) hown hK hP 0 rfl rfl 48 (by decide) (hts (.fieldLink RX7 100 "CrownTableModel" "lineStatement" "[I") (mem_i 7 rfl)) (fun _ h9 => h9) rfl dX7_line_100 ?_
      refine lv_iload_n hx hb dX7_line_103 rfl (lv_at hl 1 rfl) ?_
      refine va_iald hx hb hK hP 6 1 rfl rfl (vin (a := i_a1) hi_a1 (by omega) (by omega)) dX7_line_104 ?_
      refine lv_topi (fun x_16 ex_16 => ?_)
      exact W.iret (v := x_16) hx hb hr (fun t ht hW => ⟨_, rfl, trivial, ht⟩) (fun _ h => by cases h) dX7_line_105
    by_cases k_17 : i_a2 = 6
    · have ek_17 : a2.toInt = 6 := hi_a2.trans k_17
      refine lv_tableIn (tgt := 106) hx hb dX7_line_18 (by rw [ek_17]; decide) (by rw [ek_17]; decide) (by rw [ek_17]; rfl) (by decide) ?_
      refine lv_aload_n hx hb dX7_line_106 rfl (lv_at hl 0 rfl) ?_
      refine va_get (D := D) (ci := 7) (v := .ref (q 49)) (C := RX7) (T := TX7) (N := 56) hx hb hts (fun _ h => List.mem_cons_of_mem _ (List.mem_append_right _ h)) hown hK hP 0 rfl rfl 49 (by decide) (hts (.fieldLink RX7 103 "CrownTableModel" "lineText" "[I") (mem_i 8 rfl)) (fun _ h9 => h9) rfl dX7_line_107 ?_
      refine lv_iload_n hx hb dX7_line_110 rfl (lv_at hl 1 rfl) ?_
      refine va_iald hx hb hK hP 7 1 rfl rfl (vin (a := i_a1) hi_a1 (by omega) (by omega)) dX7_line_111 ?_
      refine lv_topi (fun x_18 ex_18 => ?_)
      exact W.iret (v := x_18) hx hb hr (fun t ht hW => ⟨_, rfl, trivial, ht⟩) (fun _ h => by cases h) dX7_line_112
    by_cases k_19 : i_a2 = 7
    · have ek_19 : a2.toInt = 7 := hi_a2.trans k_19
      refine lv_tableIn (tgt := 113) hx hb dX7_line_18 (by rw [ek_19]; decide) (by rw [ek_19]; decide) (by rw [ek_19]; rfl) (by decide) ?_
      refine lv_aload_n hx hb dX7_line_113 rfl (lv_at hl 0 rfl) ?_
      refine va_get (D := D) (ci := 7) (v := .ref (q 50)) (C := RX7) (T := TX7) (N := 56) hx hb hts (fun _ h => List.mem_cons_of_mem _ (List.mem_append_right _ h)) hown hK hP 0 rfl rfl 50 (by decide) (hts (.fieldLink RX7 106 "CrownTableModel" "lineStick" "[I") (mem_i 9 rfl)) (fun _ h9 => h9) rfl dX7_line_114 ?_
      refine lv_iload_n hx hb dX7_line_117 rfl (lv_at hl 1 rfl) ?_
      refine va_iald hx hb hK hP 8 1 rfl rfl (vin (a := i_a1) hi_a1 (by omega) (by omega)) dX7_line_118 ?_
      refine lv_topi (fun x_20 ex_20 => ?_)
      exact W.iret (v := x_20) hx hb hr (fun t ht hW => ⟨_, rfl, trivial, ht⟩) (fun _ h => by cases h) dX7_line_119
    refine lv_tableOut (tgt := 120) hx hb dX7_line_18 (by rw [hi_a2]; omega) (by decide) ?_
    refine lv_bipush (v := (-2)) hx hb dX7_line_120 (by decide) ?_
    have kzz_21 : ((-2) : Int32).toInt = (-2) := by decide
    exact W.iret (v := (-2)) hx hb hr (fun t ht hW => ⟨_, rfl, trivial, ht⟩) (fun _ h => by cases h) dX7_line_122
  · skip
    refine iif_neF (a := 0) (tgt := 17) hx hb (by decide) dX7_line_11 (by decide) (by decide) ?_
    refine lv_bipush (v := (-2)) hx hb dX7_line_14 (by decide) ?_
    have kzz_22 : ((-2) : Int32).toInt = (-2) := by decide
    exact W.iret (v := (-2)) hx hb hr (fun t ht hW => ⟨_, rfl, trivial, ht⟩) (fun _ h => by cases h) dX7_line_16

set_option maxHeartbeats 4000000 in
set_option maxRecDepth 100000 in
theorem k_X7_as (l : Launch) (D : va_G) (c : Nat → ClassId) (ts : Nat × Nat) (sz : Nat) (A_self : Nat) (q : Nat → Nat) (v : Nat → Int32) (w : Nat → Int64) (f_whole : Nat → Int32) (f_made : Nat → Int32) (f_lineDebt : Nat → Int32) (f_lineTerm : Nat → Int32) (f_lineGone : Nat → Int32) (a1 : Int32) (i_a1 : Int) (hi_a1 : a1.toInt = i_a1) (a2 : Int32) (i_a2 : Int) (hi_a2 : a2.toInt = i_a2) (hv_2 : 0 ≤ (v 2).toInt ∧ (v 2).toInt ≤ 800) (hv_8 : 0 ≤ (v 8).toInt ∧ (v 8).toInt ≤ 10) (hv_21 : 0 ≤ (v 21).toInt ∧ (v 21).toInt ≤ 40) (hv_24 : 0 ≤ (v 24).toInt ∧ (v 24).toInt ≤ 1000) (hv_27 : 0 ≤ (v 27).toInt ∧ (v 27).toInt ≤ 400) (hv_42 : 0 ≤ (v 42).toInt ∧ (v 42).toInt ≤ 4000) (hv_52 : 0 ≤ (v 52).toInt ∧ (v 52).toInt ≤ 2000) : Met l yX7_as wsX7_as ({ frames := 2, cells := 0, slots := 0, locals := 43 }) (va_Pc [.ref A_self, .int a1, .int a2] (Pre0 D c ts [(A_self, .inr (7, o7 q v w)), (q 30, .inl (c 1, 400, .inl f_whole)), (q 32, .inl (c 1, 400, .inl f_made)), (q 45, .inl (c 1, 4000, .inl f_lineDebt)), (q 43, .inl (c 1, 4000, .inl f_lineTerm)), (q 51, .inl (c 1, 4000, .inl f_lineGone))] sz)) (vp_Si (fun r : Int32 => True)) 0 0 (fun _ => False) := by
  refine Met.ofW (cc := cX7_as) (maxL := 5) (ret := (some .int)) (by decide) rfl ?_
  intro p e s m args below meth cd s₁ B hml hv
  obtain ⟨rfl, hsz, hP, hD0, hAm, hSt⟩ := hv
  have hx := B.exec
  have hb := B.bytes
  have hr := B.returns
  have hts := atoms_spec (ws := wsX7_as) B.pre
  have hown : s.vm.findClass RX7 = some m.cls := findClass_of_methodNamed B.named
  have hlocks := B.notSynchronized
  have hK := hAm.1
  subst hsz
  have hD := hD0.self (sz := s.heap.size)
  generalize hAe : va_A [(A_self, .inr (7, o7 q v w)), (q 30, .inl (c 1, 400, .inl f_whole)), (q 32, .inl (c 1, 400, .inl f_made)), (q 45, .inl (c 1, 4000, .inl f_lineDebt)), (q 43, .inl (c 1, 4000, .inl f_lineTerm)), (q 51, .inl (c 1, 4000, .inl f_lineGone))] s.heap.size = A at hD hSt
  have hA : ∀ q : Nat, s.heap.size ≤ q → A q := fun q h => by rw [← hAe]; exact Or.inr h
  have hS : va_S A s.heap s.heap [] := va_S.rf
  clear hD0 hAe
  have hl := lv_entry ([.ref A_self, .int a1, .int a2]) (n := 5) (Nat.le_of_ble_eq_true rfl)
  rw [lg_entry_eq]
  generalize (lg_sl ([.ref A_self, .int a1, .int a2]) ++ List.replicate (5 - (lg_sl ([.ref A_self, .int a1, .int a2])).length) Slot.unset).toArray = ls at hl ⊢
  have hl : lv_has ls 5 [(0, .ref A_self), (1, .int a1), (2, .int a2)] := hl
  have rg_a1 := i32r a1
  have rg_a2 := i32r a2
  refine lv_aload_n hx hb dX7_as_0 rfl (lv_at hl 0 rfl) ?_
  refine lv_iload_n hx hb dX7_as_1 rfl (lv_at hl 1 rfl) ?_
  have hPc := hP.sub (ws' := [(A_self, .inr (7, o7 q v w))]) [0] rfl
  have hDc := hD.sub (ws' := [(A_self, .inr (7, o7 q v w))]) [0] (by decide) rfl
  have hFc := va_free (wc := [(A_self, .inr (7, o7 q v w))]) hD hS hA [0] rfl
  refine va_csi (va_runV (As := [.int a1]) (rest := []) ⟨hx, hb, hml, hown, hts⟩ (k_X7_isDebt l D c ts s.heap.size A_self q v w a1 i_a1 hi_a1 (show 0 ≤ (v 2).toInt ∧ (v 2).toInt ≤ 800 by omega) (show 0 ≤ (v 8).toInt ∧ (v 8).toInt ≤ 10 by omega) (show 0 ≤ (v 21).toInt ∧ (v 21).toInt ≤ 40 by omega) (show 0 ≤ (v 24).toInt ∧ (v 24).toInt ≤ 1000 by omega) (show 0 ≤ (v 27).toInt ∧ (v 27).toInt ≤ 400 by omega) (show 0 ≤ (v 42).toInt ∧ (v 42).toInt ≤ 4000 by omega) (show 0 ≤ (v 52).toInt ∧ (v 52).toInt ≤ 2000 by omega)) (cwV 1 hts gX7_as_X7_isDebt rfl rfl rfl ⟨rfl, hdX7_isDebt⟩ ⟨(show 1 + 1 ≤ 2 by decide), (show 8 + (2 + 11) + 22 ≤ 43 by decide)⟩) ⟨Pre0.blind, va_recv hK hPc (ci := 7) (q0 := 0) rfl rfl, Pre0.at hPc hDc hAm hSt hS hFc⟩ rfl rfl hl.1 rfl (lv_room (Nat.le_of_ble_eq_true rfl)) dX7_as_2 ⟨(show 0 + 0 ≤ 0 by decide), (show 0 + 0 ≤ 0 by decide)⟩) (fun r_2 hw_1 => ?_)
  have hw_1 : (((0 ≤ i_a1 ∧ i_a1 ≤ (v 27).toInt - 1) ∧ r_2 = 1) ∨ ((¬ (0 ≤ i_a1 ∧ i_a1 ≤ (v 27).toInt - 1)) ∧ r_2 = 0)) := hw_1
  rcases hw_1 with ⟨hw_1, rfl⟩ | ⟨hw_1, rfl⟩
  · skip
    refine iif_eqF (a := 1) (tgt := 20) hx hb (by decide) dX7_as_5 (by decide) (by decide) ?_
    refine lv_iload_n hx hb dX7_as_8 rfl (lv_at hl 2 rfl) ?_
    refine lv_iconst (v := 0) hx hb dX7_as_9 (by decide) ?_
    refine lv_aload_n hx hb dX7_as_10 rfl (lv_at hl 0 rfl) ?_
    refine va_get (D := D) (ci := 7) (v := .int (v 24)) (C := RX7) (T := TX7) (N := 56) hx hb hts (fun _ h => List.mem_cons_of_mem _ (List.mem_append_right _ h)) hown hK hP 0 rfl rfl 24 (by decide) (hts (.fieldLink RX7 267 "CrownTableModel" "term" "I") (mem_i 1 rfl)) (fun _ h9 => h9) rfl dX7_as_11 ?_
    have hPc := hP.sub (ws' := []) [] rfl
    have hDc := hD.sub (ws' := []) [] (by decide) rfl
    have hFc := va_free (wc := []) hD hS hA [] rfl
    have kzz_3 : (0 : Int32).toInt = 0 := by decide
    refine va_csi (va_runS (As := [.int a2, .int 0, .int (v 24)]) (rest := []) ⟨hx, hb, hml, hown, hts⟩ (k_X7_in l D c ts s.heap.size a2 i_a2 hi_a2 0 0 (by decide) (v 24) ((v 24).toInt) rfl) (cwS 3 hts gX7_as_X7_in rfl rfl rfl ⟨rfl, hdX7_in⟩ ⟨(show 0 + 1 ≤ 2 by decide), (show 8 + (3 + 11) + 0 ≤ 43 by decide)⟩) ⟨Pre0.blind, Pre0.at hPc hDc hAm hSt hS hFc⟩ rfl rfl hl.1 rfl (lv_room (Nat.le_of_ble_eq_true rfl)) dX7_as_14 ⟨(show 0 + 0 ≤ 0 by decide), (show 0 + 0 ≤ 0 by decide)⟩) (fun r_5 hw_4 => ?_)
    rcases hw_4 with ⟨hw_4, rfl⟩ | ⟨hw_4, rfl⟩
    · skip
      refine iif_neT (a := 1) (tgt := 23) hx hb (by decide) dX7_as_17 (by decide) (by decide) ?_
      refine lv_aload_n hx hb dX7_as_23 rfl (lv_at hl 0 rfl) ?_
      refine va_get (D := D) (ci := 7) (v := .ref (q 32)) (C := RX7) (T := TX7) (N := 56) hx hb hts (fun _ h => List.mem_cons_of_mem _ (List.mem_append_right _ h)) hown hK hP 0 rfl rfl 32 (by decide) (hts (.fieldLink RX7 62 "CrownTableModel" "made" "[I") (mem_i 2 rfl)) (fun _ h9 => h9) rfl dX7_as_24 ?_
      refine lv_iload_n hx hb dX7_as_27 rfl (lv_at hl 1 rfl) ?_
      refine va_iald hx hb hK hP 2 1 rfl rfl (vin (a := i_a1) hi_a1 (by omega) (by omega)) dX7_as_28 ?_
      refine lv_topi (fun x_6 ex_6 => ?_)
      refine lv_iload_n hx hb dX7_as_29 rfl (lv_at hl 2 rfl) ?_
      refine iicmp_le (a := x_6.toInt) (b := i_a2) (tgt := 35) hx hb rfl hi_a2 dX7_as_30 (by decide) (fun k_7 => ?_) (fun k_7 => ?_)
      · skip
        refine lv_aload_n hx hb dX7_as_35 rfl (lv_at hl 0 rfl) ?_
        refine va_get (D := D) (ci := 7) (v := .ref (q 30)) (C := RX7) (T := TX7) (N := 56) hx hb hts (fun _ h => List.mem_cons_of_mem _ (List.mem_append_right _ h)) hown hK hP 0 rfl rfl 30 (by decide) (hts (.fieldLink RX7 56 "CrownTableModel" "whole" "[I") (mem_i 3 rfl)) (fun _ h9 => h9) rfl dX7_as_36 ?_
        refine lv_iload_n hx hb dX7_as_39 rfl (lv_at hl 1 rfl) ?_
        refine va_iald hx hb hK hP 1 1 rfl rfl (vin (a := i_a1) hi_a1 (by omega) (by omega)) dX7_as_40 ?_
        refine lv_topi (fun x_8 ex_8 => ?_)
        refine lv_istore_n (lv' := [(3, .int x_8), (0, .ref A_self), (1, .int a1), (2, .int a2)]) hx hb dX7_as_41 rfl hl (by decide) rfl (fun ls hl => ?_)
        refine lv_iconst (v := 0) hx hb dX7_as_42 (by decide) ?_
        refine lv_istore (lv' := [(4, .int 0), (3, .int x_8), (0, .ref A_self), (1, .int a1), (2, .int a2)]) hx hb dX7_as_43 hl (by decide) rfl (fun ls hl => ?_)
        have lp_45 : ∀ (N : Nat) (L3 : Int32) (L4 : Int32) (hf45_0 : 0 ≤ L4.toInt) (hf45_1 : L4.toInt ≤ 4000) (hf45_2 : L4.toInt ≤ (v 42).toInt) (hN45 : (4000 - L4.toInt).toNat = N) (ls : Array Slot), lv_has ls 5 [(0, .ref A_self), (1, .int a1), (2, .int a2), (3, .int L3), (4, .int L4)] → W p l e (headSpec wsX7_as ({ frames := 2, cells := 0, slots := 0, locals := 43 })).room s m (([.ref A_self, .int a1, .int a2] : List Value).toArray) below meth cd s.heap [] 0 0 (MQ below (vp_Si (fun r : Int32 => True)) ([.ref A_self, .int a1, .int a2] : List Value).toArray s 0 0 (fun _ => False)) (F0 m 45 ls []) := by
          refine st_ind (fun N ih45 => ?_)
          intro L3 L4 hf45_0 hf45_1 hf45_2 hN45 ls hl
          have rg_L3 := i32r L3
          refine lv_iload hx hb dX7_as_45 (lv_at hl 4 rfl) ?_
          refine lv_aload_n hx hb dX7_as_47 rfl (lv_at hl 0 rfl) ?_
          refine va_get (D := D) (ci := 7) (v := .int (v 42)) (C := RX7) (T := TX7) (N := 56) hx hb hts (fun _ h => List.mem_cons_of_mem _ (List.mem_append_right _ h)) hown hK hP 0 rfl rfl 42 (by decide) (hts (.fieldLink RX7 319 "CrownTableModel" "lines" "I") (mem_i 4 rfl)) (fun _ h9 => h9) rfl dX7_as_48 ?_
          refine iicmp_ge (a := L4.toInt) (b := (v 42).toInt) (tgt := 96) hx hb rfl rfl dX7_as_51 (by decide) (fun k_9 => ?_) (fun k_9 => ?_)
          · skip
            refine lv_iload_n hx hb dX7_as_96 rfl (lv_at hl 3 rfl) ?_
            exact W.iret (v := L3) hx hb hr (fun t ht hW => ⟨_, rfl, trivial, ht⟩) (fun _ h => by cases h) dX7_as_97
          · skip
            refine lv_iload_n hx hb dX7_as_54 rfl (lv_at hl 3 rfl) ?_
            have lp_88 : ∀ (K0 : Int32) (ls : Array Slot), lv_has ls 5 [(0, .ref A_self), (1, .int a1), (2, .int a2), (3, .int L3), (4, .int L4)] → W p l e (headSpec wsX7_as ({ frames := 2, cells := 0, slots := 0, locals := 43 })).room s m (([.ref A_self, .int a1, .int a2] : List Value).toArray) below meth cd s.heap [] 0 0 (MQ below (vp_Si (fun r : Int32 => True)) ([.ref A_self, .int a1, .int a2] : List Value).toArray s 0 0 (fun _ => False)) (F0 m 88 ls [.int K0, .int L3]) := by
              intro K0 ls hl
              have rg_K0 := i32r K0
              refine lv_isub hx hb dX7_as_88 ?_
              refine lv_topi (fun x_10 ex_10 => ?_)
              refine lv_istore_n (lv' := [(3, .int x_10), (0, .ref A_self), (1, .int a1), (2, .int a2), (4, .int L4)]) hx hb dX7_as_89 rfl hl (by decide) rfl (fun ls hl => ?_)
              obtain ⟨x_11, ex_11⟩ : ∃ y : Int32, y = L4 + 1 := ⟨_, rfl⟩
              have tx_11 : x_11.toInt = L4.toInt + 1 := by rw [ex_11]; exact add_ti (a := L4.toInt) (b := 1) rfl (by decide) (by omega) (by omega)
              refine lv_iinc (v := x_11) (lv' := [(4, .int x_11), (3, .int x_10), (0, .ref A_self), (1, .int a1), (2, .int a2)]) hx hb dX7_as_90 hl (k := 4) rfl (by rw [ex_11]; rfl) (by decide) rfl (fun ls hl => ?_)
              refine lv_goto (tgt := 45) hx hb dX7_as_93 (by decide) ?_
              have hl := lv_sub hl [2, 3, 4, 1, 0] rfl
              exact (ih45 ((4000 - x_11.toInt).toNat) (by omega) x_10 x_11 (by omega) (by omega) (by omega) rfl _ hl)
            refine lv_aload_n hx hb dX7_as_55 rfl (lv_at hl 0 rfl) ?_
            refine va_get (D := D) (ci := 7) (v := .ref (q 45)) (C := RX7) (T := TX7) (N := 56) hx hb hts (fun _ h => List.mem_cons_of_mem _ (List.mem_append_right _ h)) hown hK hP 0 rfl rfl 45 (by decide) (hts (.fieldLink RX7 91 "CrownTableModel" "lineDebt" "[I") (mem_i 5 rfl)) (fun _ h9 => h9) rfl dX7_as_56 ?_
            refine lv_iload hx hb dX7_as_59 (lv_at hl 4 rfl) ?_
            refine va_iald hx hb hK hP 3 1 rfl rfl (vin (a := L4.toInt) rfl (by omega) (by omega)) dX7_as_61 ?_
            refine lv_topi (fun x_12 ex_12 => ?_)
            refine lv_iload_n hx hb dX7_as_62 rfl (lv_at hl 1 rfl) ?_
            refine iicmp_ne (a := x_12.toInt) (b := i_a1) (tgt := 87) hx hb rfl hi_a1 dX7_as_63 (by decide) (fun k_13 => ?_) (fun k_13 => ?_)
            · skip
              refine lv_iconst (v := 0) hx hb dX7_as_87 (by decide) ?_
              have kzz_14 : (0 : Int32).toInt = 0 := by decide
              exact lp_88 0 _ hl
            · skip
              refine lv_aload_n hx hb dX7_as_66 rfl (lv_at hl 0 rfl) ?_
              refine va_get (D := D) (ci := 7) (v := .ref (q 43)) (C := RX7) (T := TX7) (N := 56) hx hb hts (fun _ h => List.mem_cons_of_mem _ (List.mem_append_right _ h)) hown hK hP 0 rfl rfl 43 (by decide) (hts (.fieldLink RX7 85 "CrownTableModel" "lineTerm" "[I") (mem_i 6 rfl)) (fun _ h9 => h9) rfl dX7_as_67 ?_
              refine lv_iload hx hb dX7_as_70 (lv_at hl 4 rfl) ?_
              refine va_iald hx hb hK hP 4 1 rfl rfl (vin (a := L4.toInt) rfl (by omega) (by omega)) dX7_as_72 ?_
              refine lv_topi (fun x_15 ex_15 => ?_)
              refine lv_iload_n hx hb dX7_as_73 rfl (lv_at hl 2 rfl) ?_
              refine iicmp_gt (a := x_15.toInt) (b := i_a2) (tgt := 87) hx hb rfl hi_a2 dX7_as_74 (by decide) (fun k_16 => ?_) (fun k_16 => ?_)
              · skip
                refine lv_iconst (v := 0) hx hb dX7_as_87 (by decide) ?_
                have kzz_17 : (0 : Int32).toInt = 0 := by decide
                exact lp_88 0 _ hl
              · skip
                refine lv_aload_n hx hb dX7_as_77 rfl (lv_at hl 0 rfl) ?_
                refine va_get (D := D) (ci := 7) (v := .ref (q 51)) (C := RX7) (T := TX7) (N := 56) hx hb hts (fun _ h => List.mem_cons_of_mem _ (List.mem_append_right _ h)) hown hK hP 0 rfl rfl 51 (by decide) (hts (.fieldLink RX7 109 "CrownTableModel" "lineGone" "[I") (mem_i 7 rfl)) (fun _ h9 => h9) rfl dX7_as_78 ?_
                refine lv_iload hx hb dX7_as_81 (lv_at hl 4 rfl) ?_
                refine va_iald hx hb hK hP 5 1 rfl rfl (vin (a := L4.toInt) rfl (by omega) (by omega)) dX7_as_83 ?_
                refine lv_topi (fun x_18 ex_18 => ?_)
                refine lv_goto (tgt := 88) hx hb dX7_as_84 (by decide) ?_
                exact lp_88 x_18 _ hl
        have kzz_19 : (0 : Int32).toInt = 0 := by decide
        have hl := lv_sub hl [2, 3, 4, 1, 0] rfl
        exact (lp_45 _ x_8 0 (by omega) (by omega) (by omega) rfl _ hl)
      · skip
        refine lv_iconst (v := (-1)) hx hb dX7_as_33 (by decide) ?_
        have kzz_20 : ((-1) : Int32).toInt = (-1) := by decide
        exact W.iret (v := (-1)) hx hb hr (fun t ht hW => ⟨_, rfl, trivial, ht⟩) (fun _ h => by cases h) dX7_as_34
    · skip
      refine iif_neF (a := 0) (tgt := 23) hx hb (by decide) dX7_as_17 (by decide) (by decide) ?_
      refine lv_bipush (v := (-2)) hx hb dX7_as_20 (by decide) ?_
      have kzz_21 : ((-2) : Int32).toInt = (-2) := by decide
      exact W.iret (v := (-2)) hx hb hr (fun t ht hW => ⟨_, rfl, trivial, ht⟩) (fun _ h => by cases h) dX7_as_22
  · skip
    refine iif_eqT (a := 0) (tgt := 20) hx hb (by decide) dX7_as_5 (by decide) (by decide) ?_
    refine lv_bipush (v := (-2)) hx hb dX7_as_20 (by decide) ?_
    have kzz_22 : ((-2) : Int32).toInt = (-2) := by decide
    exact W.iret (v := (-2)) hx hb hr (fun t ht hW => ⟨_, rfl, trivial, ht⟩) (fun _ h => by cases h) dX7_as_22

set_option maxHeartbeats 4000000 in
set_option maxRecDepth 100000 in
theorem k_X7_worthOf (l : Launch) (D : va_G) (c : Nat → ClassId) (ts : Nat × Nat) (sz : Nat)  (a1 : Int32) (i_a1 : Int) (hi_a1 : a1.toInt = i_a1) (hv_a1 : 0 ≤ i_a1 ∧ i_a1 ≤ 6) : Met l yX7_worthOf wsX7_worthOf ({ frames := 0, cells := 0, slots := 0, locals := 0 }) (va_Pc [.int a1] (Pre0 D c ts [] sz)) (vp_Si (fun r : Int32 => (((i_a1 = 0) ∧ r = 1) ∨ ((i_a1 = 1) ∧ r = 12) ∨ ((i_a1 = 2) ∧ r = 240) ∨ ((i_a1 = 3) ∧ r = 4800) ∨ ((i_a1 = 4) ∧ r = 24000) ∨ ((i_a1 = 5 ∨ i_a1 = 6) ∧ r = 240000)))) 0 0 (fun _ => False) := by
  refine Met.ofW (cc := cX7_worthOf) (maxL := 1) (ret := (some .int)) (by decide) rfl ?_
  intro p e s m args below meth cd s₁ B hml hv
  obtain ⟨rfl, hsz, hP, hD0, hAm, hSt⟩ := hv
  have hx := B.exec
  have hb := B.bytes
  have hr := B.returns
  have hts := atoms_spec (ws := wsX7_worthOf) B.pre
  have hown : s.vm.findClass RX7 = some m.cls := findClass_of_methodNamed B.named
  have hlocks := B.notSynchronized
  have hK := hAm.1
  subst hsz
  have hD := hD0.self (sz := s.heap.size)
  generalize hAe : va_A [] s.heap.size = A at hD hSt
  have hA : ∀ q : Nat, s.heap.size ≤ q → A q := fun q h => by rw [← hAe]; exact Or.inr h
  have hS : va_S A s.heap s.heap [] := va_S.rf
  clear hD0 hAe
  have hl := lv_entry ([.int a1]) (n := 1) (Nat.le_of_ble_eq_true rfl)
  rw [lg_entry_eq]
  generalize (lg_sl ([.int a1]) ++ List.replicate (1 - (lg_sl ([.int a1])).length) Slot.unset).toArray = ls at hl ⊢
  have hl : lv_has ls 1 [(0, .int a1)] := hl
  refine lv_iload_n hx hb dX7_worthOf_0 rfl (lv_at hl 0 rfl) ?_
  by_cases k_1 : i_a1 = 0
  · have ek_1 : a1.toInt = 0 := hi_a1.trans k_1
    refine lv_tableIn (tgt := 36) hx hb dX7_worthOf_1 (by rw [ek_1]; decide) (by rw [ek_1]; decide) (by rw [ek_1]; rfl) (by decide) ?_
    refine lv_iconst (v := 1) hx hb dX7_worthOf_36 (by decide) ?_
    have kzz_2 : (1 : Int32).toInt = 1 := by decide
    exact W.iret (v := 1) hx hb hr (fun t ht hW => ⟨_, rfl, Or.inl ⟨by omega, rfl⟩, ht⟩) (fun _ h => by cases h) dX7_worthOf_37
  by_cases k_3 : i_a1 = 1
  · have ek_3 : a1.toInt = 1 := hi_a1.trans k_3
    refine lv_tableIn (tgt := 38) hx hb dX7_worthOf_1 (by rw [ek_3]; decide) (by rw [ek_3]; decide) (by rw [ek_3]; rfl) (by decide) ?_
    refine lv_bipush (v := 12) hx hb dX7_worthOf_38 (by decide) ?_
    have kzz_4 : (12 : Int32).toInt = 12 := by decide
    exact W.iret (v := 12) hx hb hr (fun t ht hW => ⟨_, rfl, Or.inr (Or.inl ⟨by omega, rfl⟩), ht⟩) (fun _ h => by cases h) dX7_worthOf_40
  by_cases k_5 : i_a1 = 2
  · have ek_5 : a1.toInt = 2 := hi_a1.trans k_5
    refine lv_tableIn (tgt := 41) hx hb dX7_worthOf_1 (by rw [ek_5]; decide) (by rw [ek_5]; decide) (by rw [ek_5]; rfl) (by decide) ?_
    refine lv_sipush (v := 240) hx hb dX7_worthOf_41 (by decide) ?_
    have kzz_6 : (240 : Int32).toInt = 240 := by decide
    exact W.iret (v := 240) hx hb hr (fun t ht hW => ⟨_, rfl, Or.inr (Or.inr (Or.inl ⟨by omega, rfl⟩)), ht⟩) (fun _ h => by cases h) dX7_worthOf_44
  by_cases k_7 : i_a1 = 3
  · have ek_7 : a1.toInt = 3 := hi_a1.trans k_7
    refine lv_tableIn (tgt := 45) hx hb dX7_worthOf_1 (by rw [ek_7]; decide) (by rw [ek_7]; decide) (by rw [ek_7]; rfl) (by decide) ?_
    refine lv_sipush (v := 4800) hx hb dX7_worthOf_45 (by decide) ?_
    have kzz_8 : (4800 : Int32).toInt = 4800 := by decide
    exact W.iret (v := 4800) hx hb hr (fun t ht hW => ⟨_, rfl, Or.inr (Or.inr (Or.inr (Or.inl ⟨by omega, rfl⟩))), ht⟩) (fun _ h => by cases h) dX7_worthOf_48
  by_cases k_9 : i_a1 = 4
  · have ek_9 : a1.toInt = 4 := hi_a1.trans k_9
    refine lv_tableIn (tgt := 49) hx hb dX7_worthOf_1 (by rw [ek_9]; decide) (by rw [ek_9]; decide) (by rw [ek_9]; rfl) (by decide) ?_
    refine lv_sipush (v := 24000) hx hb dX7_worthOf_49 (by decide) ?_
    have kzz_10 : (24000 : Int32).toInt = 24000 := by decide
    exact W.iret (v := 24000) hx hb hr (fun t ht hW => ⟨_, rfl, Or.inr (Or.inr (Or.inr (Or.inr (Or.inl ⟨by omega, rfl⟩)))), ht⟩) (fun _ h => by cases h) dX7_worthOf_52
  refine lv_tableOut (tgt := 53) hx hb dX7_worthOf_1 (by rw [hi_a1]; omega) (by decide) ?_
  refine lv_ldcw (v := 240000) hx hb hown (hts (.constant RX7 340 (240000)) (mem_i 1 rfl)) dX7_worthOf_53 ?_
  have kzz_11 : (240000 : Int32).toInt = 240000 := by decide
  exact W.iret (v := 240000) hx hb hr (fun t ht hW => ⟨_, rfl, Or.inr (Or.inr (Or.inr (Or.inr (Or.inr (⟨by omega, rfl⟩))))), ht⟩) (fun _ h => by cases h) dX7_worthOf_56

set_option maxHeartbeats 4000000 in
set_option maxRecDepth 100000 in
theorem k_X7_notch (l : Launch) (D : va_G) (c : Nat → ClassId) (ts : Nat × Nat) (sz : Nat)  (a1 : Int32) (i_a1 : Int) (hi_a1 : a1.toInt = i_a1) (a2 : Int32) (i_a2 : Int) (hi_a2 : a2.toInt = i_a2) (hv_a2 : 0 ≤ i_a2 ∧ i_a2 ≤ 5) : Met l yX7_notch wsX7_notch ({ frames := 1, cells := 0, slots := 0, locals := 20 }) (va_Pc [.int a1, .int a2] (Pre0 D c ts [] sz)) (vp_Si (fun r : Int32 => True)) 0 0 (fun _ => False) := by
  refine Met.ofW (cc := cX7_notch) (maxL := 2) (ret := (some .int)) (by decide) rfl ?_
  intro p e s m args below meth cd s₁ B hml hv
  obtain ⟨rfl, hsz, hP, hD0, hAm, hSt⟩ := hv
  have hx := B.exec
  have hb := B.bytes
  have hr := B.returns
  have hts := atoms_spec (ws := wsX7_notch) B.pre
  have hown : s.vm.findClass RX7 = some m.cls := findClass_of_methodNamed B.named
  have hlocks := B.notSynchronized
  have hK := hAm.1
  subst hsz
  have hD := hD0.self (sz := s.heap.size)
  generalize hAe : va_A [] s.heap.size = A at hD hSt
  have hA : ∀ q : Nat, s.heap.size ≤ q → A q := fun q h => by rw [← hAe]; exact Or.inr h
  have hS : va_S A s.heap s.heap [] := va_S.rf
  clear hD0 hAe
  have hl := lv_entry ([.int a1, .int a2]) (n := 2) (Nat.le_of_ble_eq_true rfl)
  rw [lg_entry_eq]
  generalize (lg_sl ([.int a1, .int a2]) ++ List.replicate (2 - (lg_sl ([.int a1, .int a2])).length) Slot.unset).toArray = ls at hl ⊢
  have hl : lv_has ls 2 [(0, .int a1), (1, .int a2)] := hl
  have rg_a1 := i32r a1
  rcases (show i_a2 = 0 ∨ i_a2 = 1 ∨ i_a2 = 2 ∨ i_a2 = 3 ∨ i_a2 = 4 ∨ i_a2 = 5 by omega) with hsp | hsp | hsp | hsp | hsp | hsp
  · skip
    obtain rfl : a2 = 0 := Int32.toInt_inj.mp (by rw [hi_a2, hsp]; rfl)
    have hl : lv_has ls 2 [(0, .int a1), (1, .int 0)] := hl
    refine lv_iload_n hx hb dX7_notch_0 rfl (lv_at hl 1 rfl) ?_
    refine lv_iconst (v := 5) hx hb dX7_notch_1 (by decide) ?_
    refine iicmp_neT (a := 0) (b := 5) (tgt := 13) hx hb (by decide) (by decide) dX7_notch_2 (by decide) (by decide) ?_
    refine lv_iload_n hx hb dX7_notch_13 rfl (lv_at hl 0 rfl) ?_
    refine lv_iload_n hx hb dX7_notch_14 rfl (lv_at hl 1 rfl) ?_
    refine lv_iconst (v := 1) hx hb dX7_notch_15 (by decide) ?_
    refine lv_iadd hx hb dX7_notch_16 ?_
    refine lk_i (y := 1) (by decide) ?_
    have hPc := hP.sub (ws' := []) [] rfl
    have hDc := hD.sub (ws' := []) [] (by decide) rfl
    have hFc := va_free (wc := []) hD hS hA [] rfl
    have kzz_1 : (1 : Int32).toInt = 1 := by decide
    refine va_csi (va_runS (As := [.int 1]) (rest := [.int a1]) ⟨hx, hb, hml, hown, hts⟩ (k_X7_worthOf l D c ts s.heap.size 1 1 (by decide) (by omega)) (cwS 1 hts gX7_notch_X7_worthOf rfl rfl rfl ⟨rfl, hdX7_worthOf⟩ ⟨(show 0 + 1 ≤ 1 by decide), (show 8 + (1 + 11) + 0 ≤ 20 by decide)⟩) ⟨Pre0.blind, Pre0.at hPc hDc hAm hSt hS hFc⟩ rfl rfl hl.1 rfl (lv_room (Nat.le_of_ble_eq_true rfl)) dX7_notch_17 ⟨(show 0 + 0 ≤ 0 by decide), (show 0 + 0 ≤ 0 by decide)⟩) (fun r_3 hw_2 => ?_)
    rcases hw_2 with ⟨hw_2, rfl⟩ | ⟨hw_2, rfl⟩ | ⟨hw_2, rfl⟩ | ⟨hw_2, rfl⟩ | ⟨hw_2, rfl⟩ | ⟨hw_2, rfl⟩
    · exfalso; omega
    · skip
      refine lv_irem hx hb dX7_notch_20 (by decide) ?_
      refine lv_topi (fun x_4 ex_4 => ?_)
      refine lv_iload_n hx hb dX7_notch_21 rfl (lv_at hl 1 rfl) ?_
      have hPc := hP.sub (ws' := []) [] rfl
      have hDc := hD.sub (ws' := []) [] (by decide) rfl
      have hFc := va_free (wc := []) hD hS hA [] rfl
      have kzz_5 : (0 : Int32).toInt = 0 := by decide
      refine va_csi (va_runS (As := [.int 0]) (rest := [.int x_4]) ⟨hx, hb, hml, hown, hts⟩ (k_X7_worthOf l D c ts s.heap.size 0 0 (by decide) (by omega)) (cwS 1 hts gX7_notch_X7_worthOf rfl rfl rfl ⟨rfl, hdX7_worthOf⟩ ⟨(show 0 + 1 ≤ 1 by decide), (show 8 + (1 + 11) + 0 ≤ 20 by decide)⟩) ⟨Pre0.blind, Pre0.at hPc hDc hAm hSt hS hFc⟩ rfl rfl hl.1 rfl (lv_room (Nat.le_of_ble_eq_true rfl)) dX7_notch_22 ⟨(show 0 + 0 ≤ 0 by decide), (show 0 + 0 ≤ 0 by decide)⟩) (fun r_7 hw_6 => ?_)
      rcases hw_6 with ⟨hw_6, rfl⟩ | ⟨hw_6, rfl⟩ | ⟨hw_6, rfl⟩ | ⟨hw_6, rfl⟩ | ⟨hw_6, rfl⟩ | ⟨hw_6, rfl⟩
      · skip
        refine lv_idiv hx hb dX7_notch_25 (by decide) ?_
        refine lv_topi (fun x_8 ex_8 => ?_)
        exact W.iret (v := x_8) hx hb hr (fun t ht hW => ⟨_, rfl, trivial, ht⟩) (fun _ h => by cases h) dX7_notch_26
      · exfalso; omega
      · exfalso; omega
      · exfalso; omega
      · exfalso; omega
      · exfalso; omega
    · exfalso; omega
    · exfalso; omega
    · exfalso; omega
    · exfalso; omega
  · skip
    obtain rfl : a2 = 1 := Int32.toInt_inj.mp (by rw [hi_a2, hsp]; rfl)
    have hl : lv_has ls 2 [(0, .int a1), (1, .int 1)] := hl
    refine lv_iload_n hx hb dX7_notch_0 rfl (lv_at hl 1 rfl) ?_
    refine lv_iconst (v := 5) hx hb dX7_notch_1 (by decide) ?_
    refine iicmp_neT (a := 1) (b := 5) (tgt := 13) hx hb (by decide) (by decide) dX7_notch_2 (by decide) (by decide) ?_
    refine lv_iload_n hx hb dX7_notch_13 rfl (lv_at hl 0 rfl) ?_
    refine lv_iload_n hx hb dX7_notch_14 rfl (lv_at hl 1 rfl) ?_
    refine lv_iconst (v := 1) hx hb dX7_notch_15 (by decide) ?_
    refine lv_iadd hx hb dX7_notch_16 ?_
    refine lk_i (y := 2) (by decide) ?_
    have hPc := hP.sub (ws' := []) [] rfl
    have hDc := hD.sub (ws' := []) [] (by decide) rfl
    have hFc := va_free (wc := []) hD hS hA [] rfl
    have kzz_9 : (2 : Int32).toInt = 2 := by decide
    refine va_csi (va_runS (As := [.int 2]) (rest := [.int a1]) ⟨hx, hb, hml, hown, hts⟩ (k_X7_worthOf l D c ts s.heap.size 2 2 (by decide) (by omega)) (cwS 1 hts gX7_notch_X7_worthOf rfl rfl rfl ⟨rfl, hdX7_worthOf⟩ ⟨(show 0 + 1 ≤ 1 by decide), (show 8 + (1 + 11) + 0 ≤ 20 by decide)⟩) ⟨Pre0.blind, Pre0.at hPc hDc hAm hSt hS hFc⟩ rfl rfl hl.1 rfl (lv_room (Nat.le_of_ble_eq_true rfl)) dX7_notch_17 ⟨(show 0 + 0 ≤ 0 by decide), (show 0 + 0 ≤ 0 by decide)⟩) (fun r_11 hw_10 => ?_)
    rcases hw_10 with ⟨hw_10, rfl⟩ | ⟨hw_10, rfl⟩ | ⟨hw_10, rfl⟩ | ⟨hw_10, rfl⟩ | ⟨hw_10, rfl⟩ | ⟨hw_10, rfl⟩
    · exfalso; omega
    · exfalso; omega
    · skip
      refine lv_irem hx hb dX7_notch_20 (by decide) ?_
      refine lv_topi (fun x_12 ex_12 => ?_)
      refine lv_iload_n hx hb dX7_notch_21 rfl (lv_at hl 1 rfl) ?_
      have hPc := hP.sub (ws' := []) [] rfl
      have hDc := hD.sub (ws' := []) [] (by decide) rfl
      have hFc := va_free (wc := []) hD hS hA [] rfl
      have kzz_13 : (1 : Int32).toInt = 1 := by decide
      refine va_csi (va_runS (As := [.int 1]) (rest := [.int x_12]) ⟨hx, hb, hml, hown, hts⟩ (k_X7_worthOf l D c ts s.heap.size 1 1 (by decide) (by omega)) (cwS 1 hts gX7_notch_X7_worthOf rfl rfl rfl ⟨rfl, hdX7_worthOf⟩ ⟨(show 0 + 1 ≤ 1 by decide), (show 8 + (1 + 11) + 0 ≤ 20 by decide)⟩) ⟨Pre0.blind, Pre0.at hPc hDc hAm hSt hS hFc⟩ rfl rfl hl.1 rfl (lv_room (Nat.le_of_ble_eq_true rfl)) dX7_notch_22 ⟨(show 0 + 0 ≤ 0 by decide), (show 0 + 0 ≤ 0 by decide)⟩) (fun r_15 hw_14 => ?_)
      rcases hw_14 with ⟨hw_14, rfl⟩ | ⟨hw_14, rfl⟩ | ⟨hw_14, rfl⟩ | ⟨hw_14, rfl⟩ | ⟨hw_14, rfl⟩ | ⟨hw_14, rfl⟩
      · exfalso; omega
      · skip
        refine lv_idiv hx hb dX7_notch_25 (by decide) ?_
        refine lv_topi (fun x_16 ex_16 => ?_)
        exact W.iret (v := x_16) hx hb hr (fun t ht hW => ⟨_, rfl, trivial, ht⟩) (fun _ h => by cases h) dX7_notch_26
      · exfalso; omega
      · exfalso; omega
      · exfalso; omega
      · exfalso; omega
    · exfalso; omega
    · exfalso; omega
    · exfalso; omega
  · skip
    obtain rfl : a2 = 2 := Int32.toInt_inj.mp (by rw [hi_a2, hsp]; rfl)
    have hl : lv_has ls 2 [(0, .int a1), (1, .int 2)] := hl
    refine lv_iload_n hx hb dX7_notch_0 rfl (lv_at hl 1 rfl) ?_
    refine lv_iconst (v := 5) hx hb dX7_notch_1 (by decide) ?_
    refine iicmp_neT (a := 2) (b := 5) (tgt := 13) hx hb (by decide) (by decide) dX7_notch_2 (by decide) (by decide) ?_
    refine lv_iload_n hx hb dX7_notch_13 rfl (lv_at hl 0 rfl) ?_
    refine lv_iload_n hx hb dX7_notch_14 rfl (lv_at hl 1 rfl) ?_
    refine lv_iconst (v := 1) hx hb dX7_notch_15 (by decide) ?_
    refine lv_iadd hx hb dX7_notch_16 ?_
    refine lk_i (y := 3) (by decide) ?_
    have hPc := hP.sub (ws' := []) [] rfl
    have hDc := hD.sub (ws' := []) [] (by decide) rfl
    have hFc := va_free (wc := []) hD hS hA [] rfl
    have kzz_17 : (3 : Int32).toInt = 3 := by decide
    refine va_csi (va_runS (As := [.int 3]) (rest := [.int a1]) ⟨hx, hb, hml, hown, hts⟩ (k_X7_worthOf l D c ts s.heap.size 3 3 (by decide) (by omega)) (cwS 1 hts gX7_notch_X7_worthOf rfl rfl rfl ⟨rfl, hdX7_worthOf⟩ ⟨(show 0 + 1 ≤ 1 by decide), (show 8 + (1 + 11) + 0 ≤ 20 by decide)⟩) ⟨Pre0.blind, Pre0.at hPc hDc hAm hSt hS hFc⟩ rfl rfl hl.1 rfl (lv_room (Nat.le_of_ble_eq_true rfl)) dX7_notch_17 ⟨(show 0 + 0 ≤ 0 by decide), (show 0 + 0 ≤ 0 by decide)⟩) (fun r_19 hw_18 => ?_)
    rcases hw_18 with ⟨hw_18, rfl⟩ | ⟨hw_18, rfl⟩ | ⟨hw_18, rfl⟩ | ⟨hw_18, rfl⟩ | ⟨hw_18, rfl⟩ | ⟨hw_18, rfl⟩
    · exfalso; omega
    · exfalso; omega
    · exfalso; omega
    · skip
      refine lv_irem hx hb dX7_notch_20 (by decide) ?_
      refine lv_topi (fun x_20 ex_20 => ?_)
      refine lv_iload_n hx hb dX7_notch_21 rfl (lv_at hl 1 rfl) ?_
      have hPc := hP.sub (ws' := []) [] rfl
      have hDc := hD.sub (ws' := []) [] (by decide) rfl
      have hFc := va_free (wc := []) hD hS hA [] rfl
      have kzz_21 : (2 : Int32).toInt = 2 := by decide
      refine va_csi (va_runS (As := [.int 2]) (rest := [.int x_20]) ⟨hx, hb, hml, hown, hts⟩ (k_X7_worthOf l D c ts s.heap.size 2 2 (by decide) (by omega)) (cwS 1 hts gX7_notch_X7_worthOf rfl rfl rfl ⟨rfl, hdX7_worthOf⟩ ⟨(show 0 + 1 ≤ 1 by decide), (show 8 + (1 + 11) + 0 ≤ 20 by decide)⟩) ⟨Pre0.blind, Pre0.at hPc hDc hAm hSt hS hFc⟩ rfl rfl hl.1 rfl (lv_room (Nat.le_of_ble_eq_true rfl)) dX7_notch_22 ⟨(show 0 + 0 ≤ 0 by decide), (show 0 + 0 ≤ 0 by decide)⟩) (fun r_23 hw_22 => ?_)
      rcases hw_22 with ⟨hw_22, rfl⟩ | ⟨hw_22, rfl⟩ | ⟨hw_22, rfl⟩ | ⟨hw_22, rfl⟩ | ⟨hw_22, rfl⟩ | ⟨hw_22, rfl⟩
      · exfalso; omega
      · exfalso; omega
      · skip
        refine lv_idiv hx hb dX7_notch_25 (by decide) ?_
        refine lv_topi (fun x_24 ex_24 => ?_)
        exact W.iret (v := x_24) hx hb hr (fun t ht hW => ⟨_, rfl, trivial, ht⟩) (fun _ h => by cases h) dX7_notch_26
      · exfalso; omega
      · exfalso; omega
      · exfalso; omega
    · exfalso; omega
    · exfalso; omega
  · skip
    obtain rfl : a2 = 3 := Int32.toInt_inj.mp (by rw [hi_a2, hsp]; rfl)
    have hl : lv_has ls 2 [(0, .int a1), (1, .int 3)] := hl
    refine lv_iload_n hx hb dX7_notch_0 rfl (lv_at hl 1 rfl) ?_
    refine lv_iconst (v := 5) hx hb dX7_notch_1 (by decide) ?_
    refine iicmp_neT (a := 3) (b := 5) (tgt := 13) hx hb (by decide) (by decide) dX7_notch_2 (by decide) (by decide) ?_
    refine lv_iload_n hx hb dX7_notch_13 rfl (lv_at hl 0 rfl) ?_
    refine lv_iload_n hx hb dX7_notch_14 rfl (lv_at hl 1 rfl) ?_
    refine lv_iconst (v := 1) hx hb dX7_notch_15 (by decide) ?_
    refine lv_iadd hx hb dX7_notch_16 ?_
    refine lk_i (y := 4) (by decide) ?_
    have hPc := hP.sub (ws' := []) [] rfl
    have hDc := hD.sub (ws' := []) [] (by decide) rfl
    have hFc := va_free (wc := []) hD hS hA [] rfl
    have kzz_25 : (4 : Int32).toInt = 4 := by decide
    refine va_csi (va_runS (As := [.int 4]) (rest := [.int a1]) ⟨hx, hb, hml, hown, hts⟩ (k_X7_worthOf l D c ts s.heap.size 4 4 (by decide) (by omega)) (cwS 1 hts gX7_notch_X7_worthOf rfl rfl rfl ⟨rfl, hdX7_worthOf⟩ ⟨(show 0 + 1 ≤ 1 by decide), (show 8 + (1 + 11) + 0 ≤ 20 by decide)⟩) ⟨Pre0.blind, Pre0.at hPc hDc hAm hSt hS hFc⟩ rfl rfl hl.1 rfl (lv_room (Nat.le_of_ble_eq_true rfl)) dX7_notch_17 ⟨(show 0 + 0 ≤ 0 by decide), (show 0 + 0 ≤ 0 by decide)⟩) (fun r_27 hw_26 => ?_)
    rcases hw_26 with ⟨hw_26, rfl⟩ | ⟨hw_26, rfl⟩ | ⟨hw_26, rfl⟩ | ⟨hw_26, rfl⟩ | ⟨hw_26, rfl⟩ | ⟨hw_26, rfl⟩
    · exfalso; omega
    · exfalso; omega
    · exfalso; omega
    · exfalso; omega
    · skip
      refine lv_irem hx hb dX7_notch_20 (by decide) ?_
      refine lv_topi (fun x_28 ex_28 => ?_)
      refine lv_iload_n hx hb dX7_notch_21 rfl (lv_at hl 1 rfl) ?_
      have hPc := hP.sub (ws' := []) [] rfl
      have hDc := hD.sub (ws' := []) [] (by decide) rfl
      have hFc := va_free (wc := []) hD hS hA [] rfl
      have kzz_29 : (3 : Int32).toInt = 3 := by decide
      refine va_csi (va_runS (As := [.int 3]) (rest := [.int x_28]) ⟨hx, hb, hml, hown, hts⟩ (k_X7_worthOf l D c ts s.heap.size 3 3 (by decide) (by omega)) (cwS 1 hts gX7_notch_X7_worthOf rfl rfl rfl ⟨rfl, hdX7_worthOf⟩ ⟨(show 0 + 1 ≤ 1 by decide), (show 8 + (1 + 11) + 0 ≤ 20 by decide)⟩) ⟨Pre0.blind, Pre0.at hPc hDc hAm hSt hS hFc⟩ rfl rfl hl.1 rfl (lv_room (Nat.le_of_ble_eq_true rfl)) dX7_notch_22 ⟨(show 0 + 0 ≤ 0 by decide), (show 0 + 0 ≤ 0 by decide)⟩) (fun r_31 hw_30 => ?_)
      rcases hw_30 with ⟨hw_30, rfl⟩ | ⟨hw_30, rfl⟩ | ⟨hw_30, rfl⟩ | ⟨hw_30, rfl⟩ | ⟨hw_30, rfl⟩ | ⟨hw_30, rfl⟩
      · exfalso; omega
      · exfalso; omega
      · exfalso; omega
      · skip
        refine lv_idiv hx hb dX7_notch_25 (by decide) ?_
        refine lv_topi (fun x_32 ex_32 => ?_)
        exact W.iret (v := x_32) hx hb hr (fun t ht hW => ⟨_, rfl, trivial, ht⟩) (fun _ h => by cases h) dX7_notch_26
      · exfalso; omega
      · exfalso; omega
    · exfalso; omega
  · skip
    obtain rfl : a2 = 4 := Int32.toInt_inj.mp (by rw [hi_a2, hsp]; rfl)
    have hl : lv_has ls 2 [(0, .int a1), (1, .int 4)] := hl
    refine lv_iload_n hx hb dX7_notch_0 rfl (lv_at hl 1 rfl) ?_
    refine lv_iconst (v := 5) hx hb dX7_notch_1 (by decide) ?_
    refine iicmp_neT (a := 4) (b := 5) (tgt := 13) hx hb (by decide) (by decide) dX7_notch_2 (by decide) (by decide) ?_
    refine lv_iload_n hx hb dX7_notch_13 rfl (lv_at hl 0 rfl) ?_
    refine lv_iload_n hx hb dX7_notch_14 rfl (lv_at hl 1 rfl) ?_
    refine lv_iconst (v := 1) hx hb dX7_notch_15 (by decide) ?_
    refine lv_iadd hx hb dX7_notch_16 ?_
    refine lk_i (y := 5) (by decide) ?_
    have hPc := hP.sub (ws' := []) [] rfl
    have hDc := hD.sub (ws' := []) [] (by decide) rfl
    have hFc := va_free (wc := []) hD hS hA [] rfl
    have kzz_33 : (5 : Int32).toInt = 5 := by decide
    refine va_csi (va_runS (As := [.int 5]) (rest := [.int a1]) ⟨hx, hb, hml, hown, hts⟩ (k_X7_worthOf l D c ts s.heap.size 5 5 (by decide) (by omega)) (cwS 1 hts gX7_notch_X7_worthOf rfl rfl rfl ⟨rfl, hdX7_worthOf⟩ ⟨(show 0 + 1 ≤ 1 by decide), (show 8 + (1 + 11) + 0 ≤ 20 by decide)⟩) ⟨Pre0.blind, Pre0.at hPc hDc hAm hSt hS hFc⟩ rfl rfl hl.1 rfl (lv_room (Nat.le_of_ble_eq_true rfl)) dX7_notch_17 ⟨(show 0 + 0 ≤ 0 by decide), (show 0 + 0 ≤ 0 by decide)⟩) (fun r_35 hw_34 => ?_)
    rcases hw_34 with ⟨hw_34, rfl⟩ | ⟨hw_34, rfl⟩ | ⟨hw_34, rfl⟩ | ⟨hw_34, rfl⟩ | ⟨hw_34, rfl⟩ | ⟨hw_34, rfl⟩
    · exfalso; omega
    · exfalso; omega
    · exfalso; omega
    · exfalso; omega
    · exfalso; omega
    · skip
      refine lv_irem hx hb dX7_notch_20 (by decide) ?_
      refine lv_topi (fun x_36 ex_36 => ?_)
      refine lv_iload_n hx hb dX7_notch_21 rfl (lv_at hl 1 rfl) ?_
      have hPc := hP.sub (ws' := []) [] rfl
      have hDc := hD.sub (ws' := []) [] (by decide) rfl
      have hFc := va_free (wc := []) hD hS hA [] rfl
      have kzz_37 : (4 : Int32).toInt = 4 := by decide
      refine va_csi (va_runS (As := [.int 4]) (rest := [.int x_36]) ⟨hx, hb, hml, hown, hts⟩ (k_X7_worthOf l D c ts s.heap.size 4 4 (by decide) (by omega)) (cwS 1 hts gX7_notch_X7_worthOf rfl rfl rfl ⟨rfl, hdX7_worthOf⟩ ⟨(show 0 + 1 ≤ 1 by decide), (show 8 + (1 + 11) + 0 ≤ 20 by decide)⟩) ⟨Pre0.blind, Pre0.at hPc hDc hAm hSt hS hFc⟩ rfl rfl hl.1 rfl (lv_room (Nat.le_of_ble_eq_true rfl)) dX7_notch_22 ⟨(show 0 + 0 ≤ 0 by decide), (show 0 + 0 ≤ 0 by decide)⟩) (fun r_39 hw_38 => ?_)
      rcases hw_38 with ⟨hw_38, rfl⟩ | ⟨hw_38, rfl⟩ | ⟨hw_38, rfl⟩ | ⟨hw_38, rfl⟩ | ⟨hw_38, rfl⟩ | ⟨hw_38, rfl⟩
      · exfalso; omega
      · exfalso; omega
      · exfalso; omega
      · exfalso; omega
      · skip
        refine lv_idiv hx hb dX7_notch_25 (by decide) ?_
        refine lv_topi (fun x_40 ex_40 => ?_)
        exact W.iret (v := x_40) hx hb hr (fun t ht hW => ⟨_, rfl, trivial, ht⟩) (fun _ h => by cases h) dX7_notch_26
      · exfalso; omega
  · skip
    obtain rfl : a2 = 5 := Int32.toInt_inj.mp (by rw [hi_a2, hsp]; rfl)
    have hl : lv_has ls 2 [(0, .int a1), (1, .int 5)] := hl
    refine lv_iload_n hx hb dX7_notch_0 rfl (lv_at hl 1 rfl) ?_
    refine lv_iconst (v := 5) hx hb dX7_notch_1 (by decide) ?_
    refine iicmp_neF (a := 5) (b := 5) (tgt := 13) hx hb (by decide) (by decide) dX7_notch_2 (by decide) (by decide) ?_
    refine lv_iload_n hx hb dX7_notch_5 rfl (lv_at hl 0 rfl) ?_
    refine lv_ldcw (v := 240000) hx hb hown (hts (.constant RX7 340 (240000)) (mem_i 1 rfl)) dX7_notch_6 ?_
    refine lv_idiv hx hb dX7_notch_9 (by decide) ?_
    refine lv_topi (fun x_41 ex_41 => ?_)
    refine lv_goto (tgt := 26) hx hb dX7_notch_10 (by decide) ?_
    exact W.iret (v := x_41) hx hb hr (fun t ht hW => ⟨_, rfl, trivial, ht⟩) (fun _ h => by cases h) dX7_notch_26

set_option maxHeartbeats 4000000 in
set_option maxRecDepth 100000 in
theorem k_X7_next (l : Launch) (D : va_G) (c : Nat → ClassId) (ts : Nat × Nat) (sz : Nat)  (a1 : Int32) (i_a1 : Int) (hi_a1 : a1.toInt = i_a1) (hv_a1 : 0 ≤ i_a1 ∧ i_a1 ≤ 4) : Met l yX7_next wsX7_next ({ frames := 1, cells := 0, slots := 0, locals := 20 }) (va_Pc [.int a1] (Pre0 D c ts [] sz)) (vp_Si (fun r : Int32 => (((i_a1 = 0) ∧ r = 12) ∨ ((i_a1 = 1 ∨ i_a1 = 2) ∧ r = 20) ∨ ((i_a1 = 3) ∧ r = 5) ∨ ((i_a1 = 4) ∧ r = 10)))) 0 0 (fun _ => False) := by
  refine Met.ofW (cc := cX7_next) (maxL := 1) (ret := (some .int)) (by decide) rfl ?_
  intro p e s m args below meth cd s₁ B hml hv
  obtain ⟨rfl, hsz, hP, hD0, hAm, hSt⟩ := hv
  have hx := B.exec
  have hb := B.bytes
  have hr := B.returns
  have hts := atoms_spec (ws := wsX7_next) B.pre
  have hown : s.vm.findClass RX7 = some m.cls := findClass_of_methodNamed B.named
  have hlocks := B.notSynchronized
  have hK := hAm.1
  subst hsz
  have hD := hD0.self (sz := s.heap.size)
  generalize hAe : va_A [] s.heap.size = A at hD hSt
  have hA : ∀ q : Nat, s.heap.size ≤ q → A q := fun q h => by rw [← hAe]; exact Or.inr h
  have hS : va_S A s.heap s.heap [] := va_S.rf
  clear hD0 hAe
  have hl := lv_entry ([.int a1]) (n := 1) (Nat.le_of_ble_eq_true rfl)
  rw [lg_entry_eq]
  generalize (lg_sl ([.int a1]) ++ List.replicate (1 - (lg_sl ([.int a1])).length) Slot.unset).toArray = ls at hl ⊢
  have hl : lv_has ls 1 [(0, .int a1)] := hl
  rcases (show i_a1 = 0 ∨ i_a1 = 1 ∨ i_a1 = 2 ∨ i_a1 = 3 ∨ i_a1 = 4 by omega) with hsp | hsp | hsp | hsp | hsp
  · skip
    obtain rfl : a1 = 0 := Int32.toInt_inj.mp (by rw [hi_a1, hsp]; rfl)
    have hl : lv_has ls 1 [(0, .int 0)] := hl
    refine lv_iload_n hx hb dX7_next_0 rfl (lv_at hl 0 rfl) ?_
    refine lv_iconst (v := 1) hx hb dX7_next_1 (by decide) ?_
    refine lv_iadd hx hb dX7_next_2 ?_
    refine lk_i (y := 1) (by decide) ?_
    have hPc := hP.sub (ws' := []) [] rfl
    have hDc := hD.sub (ws' := []) [] (by decide) rfl
    have hFc := va_free (wc := []) hD hS hA [] rfl
    have kzz_1 : (1 : Int32).toInt = 1 := by decide
    refine va_csi (va_runS (As := [.int 1]) (rest := []) ⟨hx, hb, hml, hown, hts⟩ (k_X7_worthOf l D c ts s.heap.size 1 1 (by decide) (by omega)) (cwS 1 hts gX7_next_X7_worthOf rfl rfl rfl ⟨rfl, hdX7_worthOf⟩ ⟨(show 0 + 1 ≤ 1 by decide), (show 8 + (1 + 11) + 0 ≤ 20 by decide)⟩) ⟨Pre0.blind, Pre0.at hPc hDc hAm hSt hS hFc⟩ rfl rfl hl.1 rfl (lv_room (Nat.le_of_ble_eq_true rfl)) dX7_next_3 ⟨(show 0 + 0 ≤ 0 by decide), (show 0 + 0 ≤ 0 by decide)⟩) (fun r_3 hw_2 => ?_)
    rcases hw_2 with ⟨hw_2, rfl⟩ | ⟨hw_2, rfl⟩ | ⟨hw_2, rfl⟩ | ⟨hw_2, rfl⟩ | ⟨hw_2, rfl⟩ | ⟨hw_2, rfl⟩
    · exfalso; omega
    · skip
      refine lv_iload_n hx hb dX7_next_6 rfl (lv_at hl 0 rfl) ?_
      have hPc := hP.sub (ws' := []) [] rfl
      have hDc := hD.sub (ws' := []) [] (by decide) rfl
      have hFc := va_free (wc := []) hD hS hA [] rfl
      have kzz_4 : (0 : Int32).toInt = 0 := by decide
      refine va_csi (va_runS (As := [.int 0]) (rest := [.int 12]) ⟨hx, hb, hml, hown, hts⟩ (k_X7_worthOf l D c ts s.heap.size 0 0 (by decide) (by omega)) (cwS 1 hts gX7_next_X7_worthOf rfl rfl rfl ⟨rfl, hdX7_worthOf⟩ ⟨(show 0 + 1 ≤ 1 by decide), (show 8 + (1 + 11) + 0 ≤ 20 by decide)⟩) ⟨Pre0.blind, Pre0.at hPc hDc hAm hSt hS hFc⟩ rfl rfl hl.1 rfl (lv_room (Nat.le_of_ble_eq_true rfl)) dX7_next_7 ⟨(show 0 + 0 ≤ 0 by decide), (show 0 + 0 ≤ 0 by decide)⟩) (fun r_6 hw_5 => ?_)
      rcases hw_5 with ⟨hw_5, rfl⟩ | ⟨hw_5, rfl⟩ | ⟨hw_5, rfl⟩ | ⟨hw_5, rfl⟩ | ⟨hw_5, rfl⟩ | ⟨hw_5, rfl⟩
      · skip
        refine lv_idiv hx hb dX7_next_10 (by decide) ?_
        refine lk_i (y := 12) (by decide) ?_
        have kzz_7 : (12 : Int32).toInt = 12 := by decide
        exact W.iret (v := 12) hx hb hr (fun t ht hW => ⟨_, rfl, Or.inl ⟨by omega, rfl⟩, ht⟩) (fun _ h => by cases h) dX7_next_11
      · exfalso; omega
      · exfalso; omega
      · exfalso; omega
      · exfalso; omega
      · exfalso; omega
    · exfalso; omega
    · exfalso; omega
    · exfalso; omega
    · exfalso; omega
  · skip
    obtain rfl : a1 = 1 := Int32.toInt_inj.mp (by rw [hi_a1, hsp]; rfl)
    have hl : lv_has ls 1 [(0, .int 1)] := hl
    refine lv_iload_n hx hb dX7_next_0 rfl (lv_at hl 0 rfl) ?_
    refine lv_iconst (v := 1) hx hb dX7_next_1 (by decide) ?_
    refine lv_iadd hx hb dX7_next_2 ?_
    refine lk_i (y := 2) (by decide) ?_
    have hPc := hP.sub (ws' := []) [] rfl
    have hDc := hD.sub (ws' := []) [] (by decide) rfl
    have hFc := va_free (wc := []) hD hS hA [] rfl
    have kzz_8 : (2 : Int32).toInt = 2 := by decide
    refine va_csi (va_runS (As := [.int 2]) (rest := []) ⟨hx, hb, hml, hown, hts⟩ (k_X7_worthOf l D c ts s.heap.size 2 2 (by decide) (by omega)) (cwS 1 hts gX7_next_X7_worthOf rfl rfl rfl ⟨rfl, hdX7_worthOf⟩ ⟨(show 0 + 1 ≤ 1 by decide), (show 8 + (1 + 11) + 0 ≤ 20 by decide)⟩) ⟨Pre0.blind, Pre0.at hPc hDc hAm hSt hS hFc⟩ rfl rfl hl.1 rfl (lv_room (Nat.le_of_ble_eq_true rfl)) dX7_next_3 ⟨(show 0 + 0 ≤ 0 by decide), (show 0 + 0 ≤ 0 by decide)⟩) (fun r_10 hw_9 => ?_)
    rcases hw_9 with ⟨hw_9, rfl⟩ | ⟨hw_9, rfl⟩ | ⟨hw_9, rfl⟩ | ⟨hw_9, rfl⟩ | ⟨hw_9, rfl⟩ | ⟨hw_9, rfl⟩
    · exfalso; omega
    · exfalso; omega
    · skip
      refine lv_iload_n hx hb dX7_next_6 rfl (lv_at hl 0 rfl) ?_
      have hPc := hP.sub (ws' := []) [] rfl
      have hDc := hD.sub (ws' := []) [] (by decide) rfl
      have hFc := va_free (wc := []) hD hS hA [] rfl
      have kzz_11 : (1 : Int32).toInt = 1 := by decide
      refine va_csi (va_runS (As := [.int 1]) (rest := [.int 240]) ⟨hx, hb, hml, hown, hts⟩ (k_X7_worthOf l D c ts s.heap.size 1 1 (by decide) (by omega)) (cwS 1 hts gX7_next_X7_worthOf rfl rfl rfl ⟨rfl, hdX7_worthOf⟩ ⟨(show 0 + 1 ≤ 1 by decide), (show 8 + (1 + 11) + 0 ≤ 20 by decide)⟩) ⟨Pre0.blind, Pre0.at hPc hDc hAm hSt hS hFc⟩ rfl rfl hl.1 rfl (lv_room (Nat.le_of_ble_eq_true rfl)) dX7_next_7 ⟨(show 0 + 0 ≤ 0 by decide), (show 0 + 0 ≤ 0 by decide)⟩) (fun r_13 hw_12 => ?_)
      rcases hw_12 with ⟨hw_12, rfl⟩ | ⟨hw_12, rfl⟩ | ⟨hw_12, rfl⟩ | ⟨hw_12, rfl⟩ | ⟨hw_12, rfl⟩ | ⟨hw_12, rfl⟩
      · exfalso; omega
      · skip
        refine lv_idiv hx hb dX7_next_10 (by decide) ?_
        refine lk_i (y := 20) (by decide) ?_
        have kzz_14 : (20 : Int32).toInt = 20 := by decide
        exact W.iret (v := 20) hx hb hr (fun t ht hW => ⟨_, rfl, Or.inr (Or.inl ⟨by omega, rfl⟩), ht⟩) (fun _ h => by cases h) dX7_next_11
      · exfalso; omega
      · exfalso; omega
      · exfalso; omega
      · exfalso; omega
    · exfalso; omega
    · exfalso; omega
    · exfalso; omega
  · skip
    obtain rfl : a1 = 2 := Int32.toInt_inj.mp (by rw [hi_a1, hsp]; rfl)
    have hl : lv_has ls 1 [(0, .int 2)] := hl
    refine lv_iload_n hx hb dX7_next_0 rfl (lv_at hl 0 rfl) ?_
    refine lv_iconst (v := 1) hx hb dX7_next_1 (by decide) ?_
    refine lv_iadd hx hb dX7_next_2 ?_
    refine lk_i (y := 3) (by decide) ?_
    have hPc := hP.sub (ws' := []) [] rfl
    have hDc := hD.sub (ws' := []) [] (by decide) rfl
    have hFc := va_free (wc := []) hD hS hA [] rfl
    have kzz_15 : (3 : Int32).toInt = 3 := by decide
    refine va_csi (va_runS (As := [.int 3]) (rest := []) ⟨hx, hb, hml, hown, hts⟩ (k_X7_worthOf l D c ts s.heap.size 3 3 (by decide) (by omega)) (cwS 1 hts gX7_next_X7_worthOf rfl rfl rfl ⟨rfl, hdX7_worthOf⟩ ⟨(show 0 + 1 ≤ 1 by decide), (show 8 + (1 + 11) + 0 ≤ 20 by decide)⟩) ⟨Pre0.blind, Pre0.at hPc hDc hAm hSt hS hFc⟩ rfl rfl hl.1 rfl (lv_room (Nat.le_of_ble_eq_true rfl)) dX7_next_3 ⟨(show 0 + 0 ≤ 0 by decide), (show 0 + 0 ≤ 0 by decide)⟩) (fun r_17 hw_16 => ?_)
    rcases hw_16 with ⟨hw_16, rfl⟩ | ⟨hw_16, rfl⟩ | ⟨hw_16, rfl⟩ | ⟨hw_16, rfl⟩ | ⟨hw_16, rfl⟩ | ⟨hw_16, rfl⟩
    · exfalso; omega
    · exfalso; omega
    · exfalso; omega
    · skip
      refine lv_iload_n hx hb dX7_next_6 rfl (lv_at hl 0 rfl) ?_
      have hPc := hP.sub (ws' := []) [] rfl
      have hDc := hD.sub (ws' := []) [] (by decide) rfl
      have hFc := va_free (wc := []) hD hS hA [] rfl
      have kzz_18 : (2 : Int32).toInt = 2 := by decide
      refine va_csi (va_runS (As := [.int 2]) (rest := [.int 4800]) ⟨hx, hb, hml, hown, hts⟩ (k_X7_worthOf l D c ts s.heap.size 2 2 (by decide) (by omega)) (cwS 1 hts gX7_next_X7_worthOf rfl rfl rfl ⟨rfl, hdX7_worthOf⟩ ⟨(show 0 + 1 ≤ 1 by decide), (show 8 + (1 + 11) + 0 ≤ 20 by decide)⟩) ⟨Pre0.blind, Pre0.at hPc hDc hAm hSt hS hFc⟩ rfl rfl hl.1 rfl (lv_room (Nat.le_of_ble_eq_true rfl)) dX7_next_7 ⟨(show 0 + 0 ≤ 0 by decide), (show 0 + 0 ≤ 0 by decide)⟩) (fun r_20 hw_19 => ?_)
      rcases hw_19 with ⟨hw_19, rfl⟩ | ⟨hw_19, rfl⟩ | ⟨hw_19, rfl⟩ | ⟨hw_19, rfl⟩ | ⟨hw_19, rfl⟩ | ⟨hw_19, rfl⟩
      · exfalso; omega
      · exfalso; omega
      · skip
        refine lv_idiv hx hb dX7_next_10 (by decide) ?_
        refine lk_i (y := 20) (by decide) ?_
        have kzz_21 : (20 : Int32).toInt = 20 := by decide
        exact W.iret (v := 20) hx hb hr (fun t ht hW => ⟨_, rfl, Or.inr (Or.inl ⟨by omega, rfl⟩), ht⟩) (fun _ h => by cases h) dX7_next_11
      · exfalso; omega
      · exfalso; omega
      · exfalso; omega
    · exfalso; omega
    · exfalso; omega
  · skip
    obtain rfl : a1 = 3 := Int32.toInt_inj.mp (by rw [hi_a1, hsp]; rfl)
    have hl : lv_has ls 1 [(0, .int 3)] := hl
    refine lv_iload_n hx hb dX7_next_0 rfl (lv_at hl 0 rfl) ?_
    refine lv_iconst (v := 1) hx hb dX7_next_1 (by decide) ?_
    refine lv_iadd hx hb dX7_next_2 ?_
    refine lk_i (y := 4) (by decide) ?_
    have hPc := hP.sub (ws' := []) [] rfl
    have hDc := hD.sub (ws' := []) [] (by decide) rfl
    have hFc := va_free (wc := []) hD hS hA [] rfl
    have kzz_22 : (4 : Int32).toInt = 4 := by decide
    refine va_csi (va_runS (As := [.int 4]) (rest := []) ⟨hx, hb, hml, hown, hts⟩ (k_X7_worthOf l D c ts s.heap.size 4 4 (by decide) (by omega)) (cwS 1 hts gX7_next_X7_worthOf rfl rfl rfl ⟨rfl, hdX7_worthOf⟩ ⟨(show 0 + 1 ≤ 1 by decide), (show 8 + (1 + 11) + 0 ≤ 20 by decide)⟩) ⟨Pre0.blind, Pre0.at hPc hDc hAm hSt hS hFc⟩ rfl rfl hl.1 rfl (lv_room (Nat.le_of_ble_eq_true rfl)) dX7_next_3 ⟨(show 0 + 0 ≤ 0 by decide), (show 0 + 0 ≤ 0 by decide)⟩) (fun r_24 hw_23 => ?_)
    rcases hw_23 with ⟨hw_23, rfl⟩ | ⟨hw_23, rfl⟩ | ⟨hw_23, rfl⟩ | ⟨hw_23, rfl⟩ | ⟨hw_23, rfl⟩ | ⟨hw_23, rfl⟩
    · exfalso; omega
    · exfalso; omega
    · exfalso; omega
    · exfalso; omega
    · skip
      refine lv_iload_n hx hb dX7_next_6 rfl (lv_at hl 0 rfl) ?_
      have hPc := hP.sub (ws' := []) [] rfl
      have hDc := hD.sub (ws' := []) [] (by decide) rfl
      have hFc := va_free (wc := []) hD hS hA [] rfl
      have kzz_25 : (3 : Int32).toInt = 3 := by decide
      refine va_csi (va_runS (As := [.int 3]) (rest := [.int 24000]) ⟨hx, hb, hml, hown, hts⟩ (k_X7_worthOf l D c ts s.heap.size 3 3 (by decide) (by omega)) (cwS 1 hts gX7_next_X7_worthOf rfl rfl rfl ⟨rfl, hdX7_worthOf⟩ ⟨(show 0 + 1 ≤ 1 by decide), (show 8 + (1 + 11) + 0 ≤ 20 by decide)⟩) ⟨Pre0.blind, Pre0.at hPc hDc hAm hSt hS hFc⟩ rfl rfl hl.1 rfl (lv_room (Nat.le_of_ble_eq_true rfl)) dX7_next_7 ⟨(show 0 + 0 ≤ 0 by decide), (show 0 + 0 ≤ 0 by decide)⟩) (fun r_27 hw_26 => ?_)
      rcases hw_26 with ⟨hw_26, rfl⟩ | ⟨hw_26, rfl⟩ | ⟨hw_26, rfl⟩ | ⟨hw_26, rfl⟩ | ⟨hw_26, rfl⟩ | ⟨hw_26, rfl⟩
      · exfalso; omega
      · exfalso; omega
      · exfalso; omega
      · skip
        refine lv_idiv hx hb dX7_next_10 (by decide) ?_
        refine lk_i (y := 5) (by decide) ?_
        have kzz_28 : (5 : Int32).toInt = 5 := by decide
        exact W.iret (v := 5) hx hb hr (fun t ht hW => ⟨_, rfl, Or.inr (Or.inr (Or.inl ⟨by omega, rfl⟩)), ht⟩) (fun _ h => by cases h) dX7_next_11
      · exfalso; omega
      · exfalso; omega
    · exfalso; omega
  · skip
    obtain rfl : a1 = 4 := Int32.toInt_inj.mp (by rw [hi_a1, hsp]; rfl)
    have hl : lv_has ls 1 [(0, .int 4)] := hl
    refine lv_iload_n hx hb dX7_next_0 rfl (lv_at hl 0 rfl) ?_
    refine lv_iconst (v := 1) hx hb dX7_next_1 (by decide) ?_
    refine lv_iadd hx hb dX7_next_2 ?_
    refine lk_i (y := 5) (by decide) ?_
    have hPc := hP.sub (ws' := []) [] rfl
    have hDc := hD.sub (ws' := []) [] (by decide) rfl
    have hFc := va_free (wc := []) hD hS hA [] rfl
    have kzz_29 : (5 : Int32).toInt = 5 := by decide
    refine va_csi (va_runS (As := [.int 5]) (rest := []) ⟨hx, hb, hml, hown, hts⟩ (k_X7_worthOf l D c ts s.heap.size 5 5 (by decide) (by omega)) (cwS 1 hts gX7_next_X7_worthOf rfl rfl rfl ⟨rfl, hdX7_worthOf⟩ ⟨(show 0 + 1 ≤ 1 by decide), (show 8 + (1 + 11) + 0 ≤ 20 by decide)⟩) ⟨Pre0.blind, Pre0.at hPc hDc hAm hSt hS hFc⟩ rfl rfl hl.1 rfl (lv_room (Nat.le_of_ble_eq_true rfl)) dX7_next_3 ⟨(show 0 + 0 ≤ 0 by decide), (show 0 + 0 ≤ 0 by decide)⟩) (fun r_31 hw_30 => ?_)
    rcases hw_30 with ⟨hw_30, rfl⟩ | ⟨hw_30, rfl⟩ | ⟨hw_30, rfl⟩ | ⟨hw_30, rfl⟩ | ⟨hw_30, rfl⟩ | ⟨hw_30, rfl⟩
    · exfalso; omega
    · exfalso; omega
    · exfalso; omega
    · exfalso; omega
    · exfalso; omega
    · skip
      refine lv_iload_n hx hb dX7_next_6 rfl (lv_at hl 0 rfl) ?_
      have hPc := hP.sub (ws' := []) [] rfl
      have hDc := hD.sub (ws' := []) [] (by decide) rfl
      have hFc := va_free (wc := []) hD hS hA [] rfl
      have kzz_32 : (4 : Int32).toInt = 4 := by decide
      refine va_csi (va_runS (As := [.int 4]) (rest := [.int 240000]) ⟨hx, hb, hml, hown, hts⟩ (k_X7_worthOf l D c ts s.heap.size 4 4 (by decide) (by omega)) (cwS 1 hts gX7_next_X7_worthOf rfl rfl rfl ⟨rfl, hdX7_worthOf⟩ ⟨(show 0 + 1 ≤ 1 by decide), (show 8 + (1 + 11) + 0 ≤ 20 by decide)⟩) ⟨Pre0.blind, Pre0.at hPc hDc hAm hSt hS hFc⟩ rfl rfl hl.1 rfl (lv_room (Nat.le_of_ble_eq_true rfl)) dX7_next_7 ⟨(show 0 + 0 ≤ 0 by decide), (show 0 + 0 ≤ 0 by decide)⟩) (fun r_34 hw_33 => ?_)
      rcases hw_33 with ⟨hw_33, rfl⟩ | ⟨hw_33, rfl⟩ | ⟨hw_33, rfl⟩ | ⟨hw_33, rfl⟩ | ⟨hw_33, rfl⟩ | ⟨hw_33, rfl⟩
      · exfalso; omega
      · exfalso; omega
      · exfalso; omega
      · exfalso; omega
      · skip
        refine lv_idiv hx hb dX7_next_10 (by decide) ?_
        refine lk_i (y := 10) (by decide) ?_
        have kzz_35 : (10 : Int32).toInt = 10 := by decide
        exact W.iret (v := 10) hx hb hr (fun t ht hW => ⟨_, rfl, Or.inr (Or.inr (Or.inr (⟨by omega, rfl⟩))), ht⟩) (fun _ h => by cases h) dX7_next_11
      · exfalso; omega

set_option maxHeartbeats 4000000 in
set_option maxRecDepth 100000 in
theorem k_X7_stick (l : Launch) (D : va_G) (c : Nat → ClassId) (ts : Nat × Nat) (sz : Nat) (A_self : Nat) (q : Nat → Nat) (v : Nat → Int32) (w : Nat → Int64) (f_stick : Nat → Int32) (a1 : Int32) (i_a1 : Int) (hi_a1 : a1.toInt = i_a1) (a2 : Int32) (i_a2 : Int) (hi_a2 : a2.toInt = i_a2) (hv_2 : 0 ≤ (v 2).toInt ∧ (v 2).toInt ≤ 800) (hv_8 : 0 ≤ (v 8).toInt ∧ (v 8).toInt ≤ 10) (hv_21 : 0 ≤ (v 21).toInt ∧ (v 21).toInt ≤ 40) (hv_24 : 0 ≤ (v 24).toInt ∧ (v 24).toInt ≤ 1000) (hv_27 : 0 ≤ (v 27).toInt ∧ (v 27).toInt ≤ 400) (hv_42 : 0 ≤ (v 42).toInt ∧ (v 42).toInt ≤ 4000) (hv_52 : 0 ≤ (v 52).toInt ∧ (v 52).toInt ≤ 2000) : Met l yX7_stick wsX7_stick ({ frames := 2, cells := 0, slots := 0, locals := 41 }) (va_Pc [.ref A_self, .int a1, .int a2] (Pre0 D c ts [(A_self, .inr (7, o7 q v w)), (q 53, .inl (c 1, 2000, .inl f_stick))] sz)) (vp_Si (fun r : Int32 => True)) 0 0 (fun _ => False) := by
  refine Met.ofW (cc := cX7_stick) (maxL := 3) (ret := (some .int)) (by decide) rfl ?_
  intro p e s m args below meth cd s₁ B hml hv
  obtain ⟨rfl, hsz, hP, hD0, hAm, hSt⟩ := hv
  have hx := B.exec
  have hb := B.bytes
  have hr := B.returns
  have hts := atoms_spec (ws := wsX7_stick) B.pre
  have hown : s.vm.findClass RX7 = some m.cls := findClass_of_methodNamed B.named
  have hlocks := B.notSynchronized
  have hK := hAm.1
  subst hsz
  have hD := hD0.self (sz := s.heap.size)
  generalize hAe : va_A [(A_self, .inr (7, o7 q v w)), (q 53, .inl (c 1, 2000, .inl f_stick))] s.heap.size = A at hD hSt
  have hA : ∀ q : Nat, s.heap.size ≤ q → A q := fun q h => by rw [← hAe]; exact Or.inr h
  have hS : va_S A s.heap s.heap [] := va_S.rf
  clear hD0 hAe
  have hl := lv_entry ([.ref A_self, .int a1, .int a2]) (n := 3) (Nat.le_of_ble_eq_true rfl)
  rw [lg_entry_eq]
  generalize (lg_sl ([.ref A_self, .int a1, .int a2]) ++ List.replicate (3 - (lg_sl ([.ref A_self, .int a1, .int a2])).length) Slot.unset).toArray = ls at hl ⊢
  have hl : lv_has ls 3 [(0, .ref A_self), (1, .int a1), (2, .int a2)] := hl
  have rg_a1 := i32r a1
  have rg_a2 := i32r a2
  refine lv_iload_n hx hb dX7_stick_0 rfl (lv_at hl 1 rfl) ?_
  refine lv_iconst (v := 0) hx hb dX7_stick_1 (by decide) ?_
  refine lv_aload_n hx hb dX7_stick_2 rfl (lv_at hl 0 rfl) ?_
  refine va_get (D := D) (ci := 7) (v := .int (v 52)) (C := RX7) (T := TX7) (N := 56) hx hb hts (fun _ h => List.mem_cons_of_mem _ (List.mem_append_right _ h)) hown hK hP 0 rfl rfl 52 (by decide) (hts (.fieldLink RX7 322 "CrownTableModel" "sticks" "I") (mem_i 1 rfl)) (fun _ h9 => h9) rfl dX7_stick_3 ?_
  refine lv_iconst (v := 1) hx hb dX7_stick_6 (by decide) ?_
  refine lv_isub hx hb dX7_stick_7 ?_
  refine lv_topi (fun x_1 ex_1 => ?_)
  have tx_1 : x_1.toInt = ((v 52).toInt - 1) := by rw [ex_1]; exact sub_ti (a := (v 52).toInt) (b := 1) rfl (by decide) (by omega) (by omega)
  have hPc := hP.sub (ws' := []) [] rfl
  have hDc := hD.sub (ws' := []) [] (by decide) rfl
  have hFc := va_free (wc := []) hD hS hA [] rfl
  have kzz_2 : (0 : Int32).toInt = 0 := by decide
  refine va_csi (va_runS (As := [.int a1, .int 0, .int x_1]) (rest := []) ⟨hx, hb, hml, hown, hts⟩ (k_X7_in l D c ts s.heap.size a1 i_a1 hi_a1 0 0 (by decide) x_1 ((v 52).toInt - 1) tx_1) (cwS 3 hts gX7_stick_X7_in rfl rfl rfl ⟨rfl, hdX7_in⟩ ⟨(show 0 + 1 ≤ 2 by decide), (show 8 + (3 + 11) + 0 ≤ 41 by decide)⟩) ⟨Pre0.blind, Pre0.at hPc hDc hAm hSt hS hFc⟩ rfl rfl hl.1 rfl (lv_room (Nat.le_of_ble_eq_true rfl)) dX7_stick_8 ⟨(show 0 + 0 ≤ 0 by decide), (show 0 + 0 ≤ 0 by decide)⟩) (fun r_4 hw_3 => ?_)
  rcases hw_3 with ⟨hw_3, rfl⟩ | ⟨hw_3, rfl⟩
  · skip
    refine iif_eqF (a := 1) (tgt := 23) hx hb (by decide) dX7_stick_11 (by decide) (by decide) ?_
    refine lv_iload_n hx hb dX7_stick_14 rfl (lv_at hl 2 rfl) ?_
    refine lv_iconst (v := (-1)) hx hb dX7_stick_15 (by decide) ?_
    refine lv_iconst (v := 5) hx hb dX7_stick_16 (by decide) ?_
    have hPc := hP.sub (ws' := []) [] rfl
    have hDc := hD.sub (ws' := []) [] (by decide) rfl
    have hFc := va_free (wc := []) hD hS hA [] rfl
    have kzz_5 : ((-1) : Int32).toInt = (-1) := by decide
    have kzz_6 : (5 : Int32).toInt = 5 := by decide
    refine va_csi (va_runS (As := [.int a2, .int (-1), .int 5]) (rest := []) ⟨hx, hb, hml, hown, hts⟩ (k_X7_in l D c ts s.heap.size a2 i_a2 hi_a2 (-1) (-1) (by decide) 5 5 (by decide)) (cwS 3 hts gX7_stick_X7_in rfl rfl rfl ⟨rfl, hdX7_in⟩ ⟨(show 0 + 1 ≤ 2 by decide), (show 8 + (3 + 11) + 0 ≤ 41 by decide)⟩) ⟨Pre0.blind, Pre0.at hPc hDc hAm hSt hS hFc⟩ rfl rfl hl.1 rfl (lv_room (Nat.le_of_ble_eq_true rfl)) dX7_stick_17 ⟨(show 0 + 0 ≤ 0 by decide), (show 0 + 0 ≤ 0 by decide)⟩) (fun r_8 hw_7 => ?_)
    rcases hw_7 with ⟨hw_7, rfl⟩ | ⟨hw_7, rfl⟩
    · skip
      refine iif_neT (a := 1) (tgt := 27) hx hb (by decide) dX7_stick_20 (by decide) (by decide) ?_
      refine lv_iload_n hx hb dX7_stick_27 rfl (lv_at hl 2 rfl) ?_
      refine iif_ge (a := i_a2) (tgt := 40) hx hb hi_a2 dX7_stick_28 (by decide) (fun k_9 => ?_) (fun k_9 => ?_)
      · skip
        refine lv_aload_n hx hb dX7_stick_40 rfl (lv_at hl 0 rfl) ?_
        refine va_get (D := D) (ci := 7) (v := .ref (q 53)) (C := RX7) (T := TX7) (N := 56) hx hb hts (fun _ h => List.mem_cons_of_mem _ (List.mem_append_right _ h)) hown hK hP 0 rfl rfl 53 (by decide) (hts (.fieldLink RX7 112 "CrownTableModel" "stick" "[I") (mem_i 2 rfl)) (fun _ h9 => h9) rfl dX7_stick_41 ?_
        refine lv_iload_n hx hb dX7_stick_44 rfl (lv_at hl 1 rfl) ?_
        refine va_iald hx hb hK hP 1 1 rfl rfl (vin (a := i_a1) hi_a1 (by omega) (by omega)) dX7_stick_45 ?_
        refine lv_topi (fun x_10 ex_10 => ?_)
        refine lv_iload_n hx hb dX7_stick_46 rfl (lv_at hl 2 rfl) ?_
        have hPc := hP.sub (ws' := []) [] rfl
        have hDc := hD.sub (ws' := []) [] (by decide) rfl
        have hFc := va_free (wc := []) hD hS hA [] rfl
        refine va_csi (va_runS (As := [.int x_10, .int a2]) (rest := []) ⟨hx, hb, hml, hown, hts⟩ (k_X7_notch l D c ts s.heap.size x_10 x_10.toInt rfl a2 i_a2 hi_a2 (by omega)) (cwS 2 hts gX7_stick_X7_notch rfl rfl rfl ⟨rfl, hdX7_notch⟩ ⟨(show 1 + 1 ≤ 2 by decide), (show 8 + (2 + 11) + 20 ≤ 41 by decide)⟩) ⟨Pre0.blind, Pre0.at hPc hDc hAm hSt hS hFc⟩ rfl rfl hl.1 rfl (lv_room (Nat.le_of_ble_eq_true rfl)) dX7_stick_47 ⟨(show 0 + 0 ≤ 0 by decide), (show 0 + 0 ≤ 0 by decide)⟩) (fun r_12 hw_11 => ?_)
        have rg_r_12 := i32r r_12
        exact W.iret (v := r_12) hx hb hr (fun t ht hW => ⟨_, rfl, trivial, ht⟩) (fun _ h => by cases h) dX7_stick_50
      · skip
        refine lv_aload_n hx hb dX7_stick_31 rfl (lv_at hl 0 rfl) ?_
        refine va_get (D := D) (ci := 7) (v := .ref (q 53)) (C := RX7) (T := TX7) (N := 56) hx hb hts (fun _ h => List.mem_cons_of_mem _ (List.mem_append_right _ h)) hown hK hP 0 rfl rfl 53 (by decide) (hts (.fieldLink RX7 112 "CrownTableModel" "stick" "[I") (mem_i 2 rfl)) (fun _ h9 => h9) rfl dX7_stick_32 ?_
        refine lv_iload_n hx hb dX7_stick_35 rfl (lv_at hl 1 rfl) ?_
        refine va_iald hx hb hK hP 1 1 rfl rfl (vin (a := i_a1) hi_a1 (by omega) (by omega)) dX7_stick_36 ?_
        refine lv_topi (fun x_13 ex_13 => ?_)
        refine lv_goto (tgt := 50) hx hb dX7_stick_37 (by decide) ?_
        exact W.iret (v := x_13) hx hb hr (fun t ht hW => ⟨_, rfl, trivial, ht⟩) (fun _ h => by cases h) dX7_stick_50
    · skip
      refine iif_neF (a := 0) (tgt := 27) hx hb (by decide) dX7_stick_20 (by decide) (by decide) ?_
      refine lv_iconst (v := (-1)) hx hb dX7_stick_23 (by decide) ?_
      refine lv_goto (tgt := 50) hx hb dX7_stick_24 (by decide) ?_
      have kzz_14 : ((-1) : Int32).toInt = (-1) := by decide
      exact W.iret (v := (-1)) hx hb hr (fun t ht hW => ⟨_, rfl, trivial, ht⟩) (fun _ h => by cases h) dX7_stick_50
  · skip
    refine iif_eqT (a := 0) (tgt := 23) hx hb (by decide) dX7_stick_11 (by decide) (by decide) ?_
    refine lv_iconst (v := (-1)) hx hb dX7_stick_23 (by decide) ?_
    refine lv_goto (tgt := 50) hx hb dX7_stick_24 (by decide) ?_
    have kzz_15 : ((-1) : Int32).toInt = (-1) := by decide
    exact W.iret (v := (-1)) hx hb hr (fun t ht hW => ⟨_, rfl, trivial, ht⟩) (fun _ h => by cases h) dX7_stick_50

set_option maxHeartbeats 4000000 in
set_option maxRecDepth 100000 in
theorem k_X7_notch_P (l : Launch) (D : va_G) (c : Nat → ClassId) (ts : Nat × Nat) (sz : Nat)  (a1 : Int32) (i_a1 : Int) (hi_a1 : a1.toInt = i_a1) (a2 : Int32) (i_a2 : Int) (hi_a2 : a2.toInt = i_a2) (hv_a1 : 0 ≤ i_a1 ∧ i_a1 ≤ 10000000) (hv_a2 : 0 ≤ i_a2 ∧ i_a2 ≤ 5) : Met l yX7_notch wsX7_notch ({ frames := 1, cells := 0, slots := 0, locals := 20 }) (va_Pc [.int a1, .int a2] (Pre0 D c ts [] sz)) (vp_Si (fun r : Int32 => (0 ≤ r.toInt) ∧ (i_a2 = 0 → r.toInt = i_a1 % 12) ∧ (i_a2 = 1 → r.toInt = i_a1 / 12 % 20) ∧ (i_a2 = 2 → r.toInt = i_a1 / 240 % 20) ∧ (i_a2 = 3 → r.toInt = i_a1 / 4800 % 5) ∧ (i_a2 = 4 → r.toInt = i_a1 / 24000 % 10) ∧ (i_a2 = 5 → r.toInt = i_a1 / 240000))) 0 0 (fun _ => False) := by
  refine Met.ofW (cc := cX7_notch) (maxL := 2) (ret := (some .int)) (by decide) rfl ?_
  intro p e s m args below meth cd s₁ B hml hv
  obtain ⟨rfl, hsz, hP, hD0, hAm, hSt⟩ := hv
  have hx := B.exec
  have hb := B.bytes
  have hr := B.returns
  have hts := atoms_spec (ws := wsX7_notch) B.pre
  have hown : s.vm.findClass RX7 = some m.cls := findClass_of_methodNamed B.named
  have hlocks := B.notSynchronized
  have hK := hAm.1
  subst hsz
  have hD := hD0.self (sz := s.heap.size)
  generalize hAe : va_A [] s.heap.size = A at hD hSt
  have hA : ∀ q : Nat, s.heap.size ≤ q → A q := fun q h => by rw [← hAe]; exact Or.inr h
  have hS : va_S A s.heap s.heap [] := va_S.rf
  clear hD0 hAe
  have hl := lv_entry ([.int a1, .int a2]) (n := 2) (Nat.le_of_ble_eq_true rfl)
  rw [lg_entry_eq]
  generalize (lg_sl ([.int a1, .int a2]) ++ List.replicate (2 - (lg_sl ([.int a1, .int a2])).length) Slot.unset).toArray = ls at hl ⊢
  have hl : lv_has ls 2 [(0, .int a1), (1, .int a2)] := hl
  rcases (show i_a2 = 0 ∨ i_a2 = 1 ∨ i_a2 = 2 ∨ i_a2 = 3 ∨ i_a2 = 4 ∨ i_a2 = 5 by omega) with hsp | hsp | hsp | hsp | hsp | hsp
  · skip
    obtain rfl : a2 = 0 := Int32.toInt_inj.mp (by rw [hi_a2, hsp]; rfl)
    have hl : lv_has ls 2 [(0, .int a1), (1, .int 0)] := hl
    refine lv_iload_n hx hb dX7_notch_0 rfl (lv_at hl 1 rfl) ?_
    refine lv_iconst (v := 5) hx hb dX7_notch_1 (by decide) ?_
    refine iicmp_neT (a := 0) (b := 5) (tgt := 13) hx hb (by decide) (by decide) dX7_notch_2 (by decide) (by decide) ?_
    refine lv_iload_n hx hb dX7_notch_13 rfl (lv_at hl 0 rfl) ?_
    refine lv_iload_n hx hb dX7_notch_14 rfl (lv_at hl 1 rfl) ?_
    refine lv_iconst (v := 1) hx hb dX7_notch_15 (by decide) ?_
    refine lv_iadd hx hb dX7_notch_16 ?_
    refine lk_i (y := 1) (by decide) ?_
    have hPc := hP.sub (ws' := []) [] rfl
    have hDc := hD.sub (ws' := []) [] (by decide) rfl
    have hFc := va_free (wc := []) hD hS hA [] rfl
    have kzz_1 : (1 : Int32).toInt = 1 := by decide
    refine va_csi (va_runS (As := [.int 1]) (rest := [.int a1]) ⟨hx, hb, hml, hown, hts⟩ (k_X7_worthOf l D c ts s.heap.size 1 1 (by decide) (by omega)) (cwS 1 hts gX7_notch_X7_worthOf rfl rfl rfl ⟨rfl, hdX7_worthOf⟩ ⟨(show 0 + 1 ≤ 1 by decide), (show 8 + (1 + 11) + 0 ≤ 20 by decide)⟩) ⟨Pre0.blind, Pre0.at hPc hDc hAm hSt hS hFc⟩ rfl rfl hl.1 rfl (lv_room (Nat.le_of_ble_eq_true rfl)) dX7_notch_17 ⟨(show 0 + 0 ≤ 0 by decide), (show 0 + 0 ≤ 0 by decide)⟩) (fun r_3 hw_2 => ?_)
    rcases hw_2 with ⟨hw_2, rfl⟩ | ⟨hw_2, rfl⟩ | ⟨hw_2, rfl⟩ | ⟨hw_2, rfl⟩ | ⟨hw_2, rfl⟩ | ⟨hw_2, rfl⟩
    · exfalso; omega
    · skip
      refine lv_irem hx hb dX7_notch_20 (by decide) ?_
      refine lv_topi (fun x_4 ex_4 => ?_)
      have tx_4 : x_4.toInt = (i_a1 % 12) := by rw [ex_4]; exact rem_ti (a := i_a1) (b := 12) hi_a1 (by decide) (by omega) (by omega) (by decide) (by decide)
      refine lv_iload_n hx hb dX7_notch_21 rfl (lv_at hl 1 rfl) ?_
      have hPc := hP.sub (ws' := []) [] rfl
      have hDc := hD.sub (ws' := []) [] (by decide) rfl
      have hFc := va_free (wc := []) hD hS hA [] rfl
      have kzz_5 : (0 : Int32).toInt = 0 := by decide
      refine va_csi (va_runS (As := [.int 0]) (rest := [.int x_4]) ⟨hx, hb, hml, hown, hts⟩ (k_X7_worthOf l D c ts s.heap.size 0 0 (by decide) (by omega)) (cwS 1 hts gX7_notch_X7_worthOf rfl rfl rfl ⟨rfl, hdX7_worthOf⟩ ⟨(show 0 + 1 ≤ 1 by decide), (show 8 + (1 + 11) + 0 ≤ 20 by decide)⟩) ⟨Pre0.blind, Pre0.at hPc hDc hAm hSt hS hFc⟩ rfl rfl hl.1 rfl (lv_room (Nat.le_of_ble_eq_true rfl)) dX7_notch_22 ⟨(show 0 + 0 ≤ 0 by decide), (show 0 + 0 ≤ 0 by decide)⟩) (fun r_7 hw_6 => ?_)
      rcases hw_6 with ⟨hw_6, rfl⟩ | ⟨hw_6, rfl⟩ | ⟨hw_6, rfl⟩ | ⟨hw_6, rfl⟩ | ⟨hw_6, rfl⟩ | ⟨hw_6, rfl⟩
      · skip
        refine lv_idiv hx hb dX7_notch_25 (by decide) ?_
        refine lv_topi (fun x_8 ex_8 => ?_)
        have tx_8 : x_8.toInt = ((i_a1 % 12) / 1) := by rw [ex_8]; exact div_ti (a := (i_a1 % 12)) (b := 1) tx_4 (by decide) (by omega) (by omega) (by decide) (by decide)
        exact W.iret (v := x_8) hx hb hr (fun t ht hW => ⟨_, rfl, ⟨by omega, by omega, by omega, by omega, by omega, by omega, by omega⟩, ht⟩) (fun _ h => by cases h) dX7_notch_26
      · exfalso; omega
      · exfalso; omega
      · exfalso; omega
      · exfalso; omega
      · exfalso; omega
    · exfalso; omega
    · exfalso; omega
    · exfalso; omega
    · exfalso; omega
  · skip
    obtain rfl : a2 = 1 := Int32.toInt_inj.mp (by rw [hi_a2, hsp]; rfl)
    have hl : lv_has ls 2 [(0, .int a1), (1, .int 1)] := hl
    refine lv_iload_n hx hb dX7_notch_0 rfl (lv_at hl 1 rfl) ?_
    refine lv_iconst (v := 5) hx hb dX7_notch_1 (by decide) ?_
    refine iicmp_neT (a := 1) (b := 5) (tgt := 13) hx hb (by decide) (by decide) dX7_notch_2 (by decide) (by decide) ?_
    refine lv_iload_n hx hb dX7_notch_13 rfl (lv_at hl 0 rfl) ?_
    refine lv_iload_n hx hb dX7_notch_14 rfl (lv_at hl 1 rfl) ?_
    refine lv_iconst (v := 1) hx hb dX7_notch_15 (by decide) ?_
    refine lv_iadd hx hb dX7_notch_16 ?_
    refine lk_i (y := 2) (by decide) ?_
    have hPc := hP.sub (ws' := []) [] rfl
    have hDc := hD.sub (ws' := []) [] (by decide) rfl
    have hFc := va_free (wc := []) hD hS hA [] rfl
    have kzz_9 : (2 : Int32).toInt = 2 := by decide
    refine va_csi (va_runS (As := [.int 2]) (rest := [.int a1]) ⟨hx, hb, hml, hown, hts⟩ (k_X7_worthOf l D c ts s.heap.size 2 2 (by decide) (by omega)) (cwS 1 hts gX7_notch_X7_worthOf rfl rfl rfl ⟨rfl, hdX7_worthOf⟩ ⟨(show 0 + 1 ≤ 1 by decide), (show 8 + (1 + 11) + 0 ≤ 20 by decide)⟩) ⟨Pre0.blind, Pre0.at hPc hDc hAm hSt hS hFc⟩ rfl rfl hl.1 rfl (lv_room (Nat.le_of_ble_eq_true rfl)) dX7_notch_17 ⟨(show 0 + 0 ≤ 0 by decide), (show 0 + 0 ≤ 0 by decide)⟩) (fun r_11 hw_10 => ?_)
    rcases hw_10 with ⟨hw_10, rfl⟩ | ⟨hw_10, rfl⟩ | ⟨hw_10, rfl⟩ | ⟨hw_10, rfl⟩ | ⟨hw_10, rfl⟩ | ⟨hw_10, rfl⟩
    · exfalso; omega
    · exfalso; omega
    · skip
      refine lv_irem hx hb dX7_notch_20 (by decide) ?_
      refine lv_topi (fun x_12 ex_12 => ?_)
      have tx_12 : x_12.toInt = (i_a1 % 240) := by rw [ex_12]; exact rem_ti (a := i_a1) (b := 240) hi_a1 (by decide) (by omega) (by omega) (by decide) (by decide)
      refine lv_iload_n hx hb dX7_notch_21 rfl (lv_at hl 1 rfl) ?_
      have hPc := hP.sub (ws' := []) [] rfl
      have hDc := hD.sub (ws' := []) [] (by decide) rfl
      have hFc := va_free (wc := []) hD hS hA [] rfl
      have kzz_13 : (1 : Int32).toInt = 1 := by decide
      refine va_csi (va_runS (As := [.int 1]) (rest := [.int x_12]) ⟨hx, hb, hml, hown, hts⟩ (k_X7_worthOf l D c ts s.heap.size 1 1 (by decide) (by omega)) (cwS 1 hts gX7_notch_X7_worthOf rfl rfl rfl ⟨rfl, hdX7_worthOf⟩ ⟨(show 0 + 1 ≤ 1 by decide), (show 8 + (1 + 11) + 0 ≤ 20 by decide)⟩) ⟨Pre0.blind, Pre0.at hPc hDc hAm hSt hS hFc⟩ rfl rfl hl.1 rfl (lv_room (Nat.le_of_ble_eq_true rfl)) dX7_notch_22 ⟨(show 0 + 0 ≤ 0 by decide), (show 0 + 0 ≤ 0 by decide)⟩) (fun r_15 hw_14 => ?_)
      rcases hw_14 with ⟨hw_14, rfl⟩ | ⟨hw_14, rfl⟩ | ⟨hw_14, rfl⟩ | ⟨hw_14, rfl⟩ | ⟨hw_14, rfl⟩ | ⟨hw_14, rfl⟩
      · exfalso; omega
      · skip
        refine lv_idiv hx hb dX7_notch_25 (by decide) ?_
        refine lv_topi (fun x_16 ex_16 => ?_)
        have tx_16 : x_16.toInt = ((i_a1 % 240) / 12) := by rw [ex_16]; exact div_ti (a := (i_a1 % 240)) (b := 12) tx_12 (by decide) (by omega) (by omega) (by decide) (by decide)
        exact W.iret (v := x_16) hx hb hr (fun t ht hW => ⟨_, rfl, ⟨by omega, by omega, by omega, by omega, by omega, by omega, by omega⟩, ht⟩) (fun _ h => by cases h) dX7_notch_26
      · exfalso; omega
      · exfalso; omega
      · exfalso; omega
      · exfalso; omega
    · exfalso; omega
    · exfalso; omega
    · exfalso; omega
  · skip
    obtain rfl : a2 = 2 := Int32.toInt_inj.mp (by rw [hi_a2, hsp]; rfl)
    have hl : lv_has ls 2 [(0, .int a1), (1, .int 2)] := hl
    refine lv_iload_n hx hb dX7_notch_0 rfl (lv_at hl 1 rfl) ?_
    refine lv_iconst (v := 5) hx hb dX7_notch_1 (by decide) ?_
    refine iicmp_neT (a := 2) (b := 5) (tgt := 13) hx hb (by decide) (by decide) dX7_notch_2 (by decide) (by decide) ?_
    refine lv_iload_n hx hb dX7_notch_13 rfl (lv_at hl 0 rfl) ?_
    refine lv_iload_n hx hb dX7_notch_14 rfl (lv_at hl 1 rfl) ?_
    refine lv_iconst (v := 1) hx hb dX7_notch_15 (by decide) ?_
    refine lv_iadd hx hb dX7_notch_16 ?_
    refine lk_i (y := 3) (by decide) ?_
    have hPc := hP.sub (ws' := []) [] rfl
    have hDc := hD.sub (ws' := []) [] (by decide) rfl
    have hFc := va_free (wc := []) hD hS hA [] rfl
    have kzz_17 : (3 : Int32).toInt = 3 := by decide
    refine va_csi (va_runS (As := [.int 3]) (rest := [.int a1]) ⟨hx, hb, hml, hown, hts⟩ (k_X7_worthOf l D c ts s.heap.size 3 3 (by decide) (by omega)) (cwS 1 hts gX7_notch_X7_worthOf rfl rfl rfl ⟨rfl, hdX7_worthOf⟩ ⟨(show 0 + 1 ≤ 1 by decide), (show 8 + (1 + 11) + 0 ≤ 20 by decide)⟩) ⟨Pre0.blind, Pre0.at hPc hDc hAm hSt hS hFc⟩ rfl rfl hl.1 rfl (lv_room (Nat.le_of_ble_eq_true rfl)) dX7_notch_17 ⟨(show 0 + 0 ≤ 0 by decide), (show 0 + 0 ≤ 0 by decide)⟩) (fun r_19 hw_18 => ?_)
    rcases hw_18 with ⟨hw_18, rfl⟩ | ⟨hw_18, rfl⟩ | ⟨hw_18, rfl⟩ | ⟨hw_18, rfl⟩ | ⟨hw_18, rfl⟩ | ⟨hw_18, rfl⟩
    · exfalso; omega
    · exfalso; omega
    · exfalso; omega
    · skip
      refine lv_irem hx hb dX7_notch_20 (by decide) ?_
      refine lv_topi (fun x_20 ex_20 => ?_)
      have tx_20 : x_20.toInt = (i_a1 % 4800) := by rw [ex_20]; exact rem_ti (a := i_a1) (b := 4800) hi_a1 (by decide) (by omega) (by omega) (by decide) (by decide)
      refine lv_iload_n hx hb dX7_notch_21 rfl (lv_at hl 1 rfl) ?_
      have hPc := hP.sub (ws' := []) [] rfl
      have hDc := hD.sub (ws' := []) [] (by decide) rfl
      have hFc := va_free (wc := []) hD hS hA [] rfl
      have kzz_21 : (2 : Int32).toInt = 2 := by decide
      refine va_csi (va_runS (As := [.int 2]) (rest := [.int x_20]) ⟨hx, hb, hml, hown, hts⟩ (k_X7_worthOf l D c ts s.heap.size 2 2 (by decide) (by omega)) (cwS 1 hts gX7_notch_X7_worthOf rfl rfl rfl ⟨rfl, hdX7_worthOf⟩ ⟨(show 0 + 1 ≤ 1 by decide), (show 8 + (1 + 11) + 0 ≤ 20 by decide)⟩) ⟨Pre0.blind, Pre0.at hPc hDc hAm hSt hS hFc⟩ rfl rfl hl.1 rfl (lv_room (Nat.le_of_ble_eq_true rfl)) dX7_notch_22 ⟨(show 0 + 0 ≤ 0 by decide), (show 0 + 0 ≤ 0 by decide)⟩) (fun r_23 hw_22 => ?_)
      rcases hw_22 with ⟨hw_22, rfl⟩ | ⟨hw_22, rfl⟩ | ⟨hw_22, rfl⟩ | ⟨hw_22, rfl⟩ | ⟨hw_22, rfl⟩ | ⟨hw_22, rfl⟩
      · exfalso; omega
      · exfalso; omega
      · skip
        refine lv_idiv hx hb dX7_notch_25 (by decide) ?_
        refine lv_topi (fun x_24 ex_24 => ?_)
        have tx_24 : x_24.toInt = ((i_a1 % 4800) / 240) := by rw [ex_24]; exact div_ti (a := (i_a1 % 4800)) (b := 240) tx_20 (by decide) (by omega) (by omega) (by decide) (by decide)
        exact W.iret (v := x_24) hx hb hr (fun t ht hW => ⟨_, rfl, ⟨by omega, by omega, by omega, by omega, by omega, by omega, by omega⟩, ht⟩) (fun _ h => by cases h) dX7_notch_26
      · exfalso; omega
      · exfalso; omega
      · exfalso; omega
    · exfalso; omega
    · exfalso; omega
  · skip
    obtain rfl : a2 = 3 := Int32.toInt_inj.mp (by rw [hi_a2, hsp]; rfl)
    have hl : lv_has ls 2 [(0, .int a1), (1, .int 3)] := hl
    refine lv_iload_n hx hb dX7_notch_0 rfl (lv_at hl 1 rfl) ?_
    refine lv_iconst (v := 5) hx hb dX7_notch_1 (by decide) ?_
    refine iicmp_neT (a := 3) (b := 5) (tgt := 13) hx hb (by decide) (by decide) dX7_notch_2 (by decide) (by decide) ?_
    refine lv_iload_n hx hb dX7_notch_13 rfl (lv_at hl 0 rfl) ?_
    refine lv_iload_n hx hb dX7_notch_14 rfl (lv_at hl 1 rfl) ?_
    refine lv_iconst (v := 1) hx hb dX7_notch_15 (by decide) ?_
    refine lv_iadd hx hb dX7_notch_16 ?_
    refine lk_i (y := 4) (by decide) ?_
    have hPc := hP.sub (ws' := []) [] rfl
    have hDc := hD.sub (ws' := []) [] (by decide) rfl
    have hFc := va_free (wc := []) hD hS hA [] rfl
    have kzz_25 : (4 : Int32).toInt = 4 := by decide
    refine va_csi (va_runS (As := [.int 4]) (rest := [.int a1]) ⟨hx, hb, hml, hown, hts⟩ (k_X7_worthOf l D c ts s.heap.size 4 4 (by decide) (by omega)) (cwS 1 hts gX7_notch_X7_worthOf rfl rfl rfl ⟨rfl, hdX7_worthOf⟩ ⟨(show 0 + 1 ≤ 1 by decide), (show 8 + (1 + 11) + 0 ≤ 20 by decide)⟩) ⟨Pre0.blind, Pre0.at hPc hDc hAm hSt hS hFc⟩ rfl rfl hl.1 rfl (lv_room (Nat.le_of_ble_eq_true rfl)) dX7_notch_17 ⟨(show 0 + 0 ≤ 0 by decide), (show 0 + 0 ≤ 0 by decide)⟩) (fun r_27 hw_26 => ?_)
    rcases hw_26 with ⟨hw_26, rfl⟩ | ⟨hw_26, rfl⟩ | ⟨hw_26, rfl⟩ | ⟨hw_26, rfl⟩ | ⟨hw_26, rfl⟩ | ⟨hw_26, rfl⟩
    · exfalso; omega
    · exfalso; omega
    · exfalso; omega
    · exfalso; omega
    · skip
      refine lv_irem hx hb dX7_notch_20 (by decide) ?_
      refine lv_topi (fun x_28 ex_28 => ?_)
      have tx_28 : x_28.toInt = (i_a1 % 24000) := by rw [ex_28]; exact rem_ti (a := i_a1) (b := 24000) hi_a1 (by decide) (by omega) (by omega) (by decide) (by decide)
      refine lv_iload_n hx hb dX7_notch_21 rfl (lv_at hl 1 rfl) ?_
      have hPc := hP.sub (ws' := []) [] rfl
      have hDc := hD.sub (ws' := []) [] (by decide) rfl
      have hFc := va_free (wc := []) hD hS hA [] rfl
      have kzz_29 : (3 : Int32).toInt = 3 := by decide
      refine va_csi (va_runS (As := [.int 3]) (rest := [.int x_28]) ⟨hx, hb, hml, hown, hts⟩ (k_X7_worthOf l D c ts s.heap.size 3 3 (by decide) (by omega)) (cwS 1 hts gX7_notch_X7_worthOf rfl rfl rfl ⟨rfl, hdX7_worthOf⟩ ⟨(show 0 + 1 ≤ 1 by decide), (show 8 + (1 + 11) + 0 ≤ 20 by decide)⟩) ⟨Pre0.blind, Pre0.at hPc hDc hAm hSt hS hFc⟩ rfl rfl hl.1 rfl (lv_room (Nat.le_of_ble_eq_true rfl)) dX7_notch_22 ⟨(show 0 + 0 ≤ 0 by decide), (show 0 + 0 ≤ 0 by decide)⟩) (fun r_31 hw_30 => ?_)
      rcases hw_30 with ⟨hw_30, rfl⟩ | ⟨hw_30, rfl⟩ | ⟨hw_30, rfl⟩ | ⟨hw_30, rfl⟩ | ⟨hw_30, rfl⟩ | ⟨hw_30, rfl⟩
      · exfalso; omega
      · exfalso; omega
      · exfalso; omega
      · skip
        refine lv_idiv hx hb dX7_notch_25 (by decide) ?_
        refine lv_topi (fun x_32 ex_32 => ?_)
        have tx_32 : x_32.toInt = ((i_a1 % 24000) / 4800) := by rw [ex_32]; exact div_ti (a := (i_a1 % 24000)) (b := 4800) tx_28 (by decide) (by omega) (by omega) (by decide) (by decide)
        exact W.iret (v := x_32) hx hb hr (fun t ht hW => ⟨_, rfl, ⟨by omega, by omega, by omega, by omega, by omega, by omega, by omega⟩, ht⟩) (fun _ h => by cases h) dX7_notch_26
      · exfalso; omega
      · exfalso; omega
    · exfalso; omega
  · skip
    obtain rfl : a2 = 4 := Int32.toInt_inj.mp (by rw [hi_a2, hsp]; rfl)
    have hl : lv_has ls 2 [(0, .int a1), (1, .int 4)] := hl
    refine lv_iload_n hx hb dX7_notch_0 rfl (lv_at hl 1 rfl) ?_
    refine lv_iconst (v := 5) hx hb dX7_notch_1 (by decide) ?_
    refine iicmp_neT (a := 4) (b := 5) (tgt := 13) hx hb (by decide) (by decide) dX7_notch_2 (by decide) (by decide) ?_
    refine lv_iload_n hx hb dX7_notch_13 rfl (lv_at hl 0 rfl) ?_
    refine lv_iload_n hx hb dX7_notch_14 rfl (lv_at hl 1 rfl) ?_
    refine lv_iconst (v := 1) hx hb dX7_notch_15 (by decide) ?_
    refine lv_iadd hx hb dX7_notch_16 ?_
    refine lk_i (y := 5) (by decide) ?_
    have hPc := hP.sub (ws' := []) [] rfl
    have hDc := hD.sub (ws' := []) [] (by decide) rfl
    have hFc := va_free (wc := []) hD hS hA [] rfl
    have kzz_33 : (5 : Int32).toInt = 5 := by decide
    refine va_csi (va_runS (As := [.int 5]) (rest := [.int a1]) ⟨hx, hb, hml, hown, hts⟩ (k_X7_worthOf l D c ts s.heap.size 5 5 (by decide) (by omega)) (cwS 1 hts gX7_notch_X7_worthOf rfl rfl rfl ⟨rfl, hdX7_worthOf⟩ ⟨(show 0 + 1 ≤ 1 by decide), (show 8 + (1 + 11) + 0 ≤ 20 by decide)⟩) ⟨Pre0.blind, Pre0.at hPc hDc hAm hSt hS hFc⟩ rfl rfl hl.1 rfl (lv_room (Nat.le_of_ble_eq_true rfl)) dX7_notch_17 ⟨(show 0 + 0 ≤ 0 by decide), (show 0 + 0 ≤ 0 by decide)⟩) (fun r_35 hw_34 => ?_)
    rcases hw_34 with ⟨hw_34, rfl⟩ | ⟨hw_34, rfl⟩ | ⟨hw_34, rfl⟩ | ⟨hw_34, rfl⟩ | ⟨hw_34, rfl⟩ | ⟨hw_34, rfl⟩
    · exfalso; omega
    · exfalso; omega
    · exfalso; omega
    · exfalso; omega
    · exfalso; omega
    · skip
      refine lv_irem hx hb dX7_notch_20 (by decide) ?_
      refine lv_topi (fun x_36 ex_36 => ?_)
      have tx_36 : x_36.toInt = (i_a1 % 240000) := by rw [ex_36]; exact rem_ti (a := i_a1) (b := 240000) hi_a1 (by decide) (by omega) (by omega) (by decide) (by decide)
      refine lv_iload_n hx hb dX7_notch_21 rfl (lv_at hl 1 rfl) ?_
      have hPc := hP.sub (ws' := []) [] rfl
      have hDc := hD.sub (ws' := []) [] (by decide) rfl
      have hFc := va_free (wc := []) hD hS hA [] rfl
      have kzz_37 : (4 : Int32).toInt = 4 := by decide
      refine va_csi (va_runS (As := [.int 4]) (rest := [.int x_36]) ⟨hx, hb, hml, hown, hts⟩ (k_X7_worthOf l D c ts s.heap.size 4 4 (by decide) (by omega)) (cwS 1 hts gX7_notch_X7_worthOf rfl rfl rfl ⟨rfl, hdX7_worthOf⟩ ⟨(show 0 + 1 ≤ 1 by decide), (show 8 + (1 + 11) + 0 ≤ 20 by decide)⟩) ⟨Pre0.blind, Pre0.at hPc hDc hAm hSt hS hFc⟩ rfl rfl hl.1 rfl (lv_room (Nat.le_of_ble_eq_true rfl)) dX7_notch_22 ⟨(show 0 + 0 ≤ 0 by decide), (show 0 + 0 ≤ 0 by decide)⟩) (fun r_39 hw_38 => ?_)
      rcases hw_38 with ⟨hw_38, rfl⟩ | ⟨hw_38, rfl⟩ | ⟨hw_38, rfl⟩ | ⟨hw_38, rfl⟩ | ⟨hw_38, rfl⟩ | ⟨hw_38, rfl⟩
      · exfalso; omega
      · exfalso; omega
      · exfalso; omega
      · exfalso; omega
      · skip
        refine lv_idiv hx hb dX7_notch_25 (by decide) ?_
        refine lv_topi (fun x_40 ex_40 => ?_)
        have tx_40 : x_40.toInt = ((i_a1 % 240000) / 24000) := by rw [ex_40]; exact div_ti (a := (i_a1 % 240000)) (b := 24000) tx_36 (by decide) (by omega) (by omega) (by decide) (by decide)
        exact W.iret (v := x_40) hx hb hr (fun t ht hW => ⟨_, rfl, ⟨by omega, by omega, by omega, by omega, by omega, by omega, by omega⟩, ht⟩) (fun _ h => by cases h) dX7_notch_26
      · exfalso; omega
  · skip
    obtain rfl : a2 = 5 := Int32.toInt_inj.mp (by rw [hi_a2, hsp]; rfl)
    have hl : lv_has ls 2 [(0, .int a1), (1, .int 5)] := hl
    refine lv_iload_n hx hb dX7_notch_0 rfl (lv_at hl 1 rfl) ?_
    refine lv_iconst (v := 5) hx hb dX7_notch_1 (by decide) ?_
    refine iicmp_neF (a := 5) (b := 5) (tgt := 13) hx hb (by decide) (by decide) dX7_notch_2 (by decide) (by decide) ?_
    refine lv_iload_n hx hb dX7_notch_5 rfl (lv_at hl 0 rfl) ?_
    refine lv_ldcw (v := 240000) hx hb hown (hts (.constant RX7 340 (240000)) (mem_i 1 rfl)) dX7_notch_6 ?_
    refine lv_idiv hx hb dX7_notch_9 (by decide) ?_
    refine lv_topi (fun x_41 ex_41 => ?_)
    have tx_41 : x_41.toInt = (i_a1 / 240000) := by rw [ex_41]; exact div_ti (a := i_a1) (b := 240000) hi_a1 (by decide) (by omega) (by omega) (by decide) (by decide)
    refine lv_goto (tgt := 26) hx hb dX7_notch_10 (by decide) ?_
    exact W.iret (v := x_41) hx hb hr (fun t ht hW => ⟨_, rfl, ⟨by omega, by omega, by omega, by omega, by omega, by omega, by omega⟩, ht⟩) (fun _ h => by cases h) dX7_notch_26

set_option maxHeartbeats 4000000 in
set_option maxRecDepth 100000 in
theorem k_X7_fits (l : Launch) (D : va_G) (c : Nat → ClassId) (ts : Nat × Nat) (sz : Nat) (A_self : Nat) (q : Nat → Nat) (v : Nat → Int32) (w : Nat → Int64) (f_stick : Nat → Int32) (a1 : Int32) (i_a1 : Int) (hi_a1 : a1.toInt = i_a1) (a2 : Int32) (i_a2 : Int) (hi_a2 : a2.toInt = i_a2) (hv_2 : 0 ≤ (v 2).toInt ∧ (v 2).toInt ≤ 800) (hv_8 : 0 ≤ (v 8).toInt ∧ (v 8).toInt ≤ 10) (hv_21 : 0 ≤ (v 21).toInt ∧ (v 21).toInt ≤ 40) (hv_24 : 0 ≤ (v 24).toInt ∧ (v 24).toInt ≤ 1000) (hv_27 : 0 ≤ (v 27).toInt ∧ (v 27).toInt ≤ 400) (hv_42 : 0 ≤ (v 42).toInt ∧ (v 42).toInt ≤ 4000) (hv_52 : 0 ≤ (v 52).toInt ∧ (v 52).toInt ≤ 2000) : Met l yX7_fits wsX7_fits ({ frames := 2, cells := 0, slots := 0, locals := 41 }) (va_Pc [.ref A_self, .int a1, .int a2] (Pre0 D c ts [(A_self, .inr (7, o7 q v w)), (q 53, .inl (c 1, 2000, .inl f_stick))] sz)) (vp_Si (fun r : Int32 => True)) 0 0 (fun _ => False) := by
  refine Met.ofW (cc := cX7_fits) (maxL := 4) (ret := (some .int)) (by decide) rfl ?_
  intro p e s m args below meth cd s₁ B hml hv
  obtain ⟨rfl, hsz, hP, hD0, hAm, hSt⟩ := hv
  have hx := B.exec
  have hb := B.bytes
  have hr := B.returns
  have hts := atoms_spec (ws := wsX7_fits) B.pre
  have hown : s.vm.findClass RX7 = some m.cls := findClass_of_methodNamed B.named
  have hlocks := B.notSynchronized
  have hK := hAm.1
  subst hsz
  have hD := hD0.self (sz := s.heap.size)
  generalize hAe : va_A [(A_self, .inr (7, o7 q v w)), (q 53, .inl (c 1, 2000, .inl f_stick))] s.heap.size = A at hD hSt
  have hA : ∀ q : Nat, s.heap.size ≤ q → A q := fun q h => by rw [← hAe]; exact Or.inr h
  have hS : va_S A s.heap s.heap [] := va_S.rf
  clear hD0 hAe
  have hl := lv_entry ([.ref A_self, .int a1, .int a2]) (n := 4) (Nat.le_of_ble_eq_true rfl)
  rw [lg_entry_eq]
  generalize (lg_sl ([.ref A_self, .int a1, .int a2]) ++ List.replicate (4 - (lg_sl ([.ref A_self, .int a1, .int a2])).length) Slot.unset).toArray = ls at hl ⊢
  have hl : lv_has ls 4 [(0, .ref A_self), (1, .int a1), (2, .int a2)] := hl
  have rg_a1 := i32r a1
  have rg_a2 := i32r a2
  refine lv_iload_n hx hb dX7_fits_0 rfl (lv_at hl 1 rfl) ?_
  refine lv_iconst (v := 0) hx hb dX7_fits_1 (by decide) ?_
  refine lv_aload_n hx hb dX7_fits_2 rfl (lv_at hl 0 rfl) ?_
  refine va_get (D := D) (ci := 7) (v := .int (v 52)) (C := RX7) (T := TX7) (N := 56) hx hb hts (fun _ h => List.mem_cons_of_mem _ (List.mem_append_right _ h)) hown hK hP 0 rfl rfl 52 (by decide) (hts (.fieldLink RX7 322 "CrownTableModel" "sticks" "I") (mem_i 1 rfl)) (fun _ h9 => h9) rfl dX7_fits_3 ?_
  refine lv_iconst (v := 1) hx hb dX7_fits_6 (by decide) ?_
  refine lv_isub hx hb dX7_fits_7 ?_
  refine lv_topi (fun x_1 ex_1 => ?_)
  have tx_1 : x_1.toInt = ((v 52).toInt - 1) := by rw [ex_1]; exact sub_ti (a := (v 52).toInt) (b := 1) rfl (by decide) (by omega) (by omega)
  have hPc := hP.sub (ws' := []) [] rfl
  have hDc := hD.sub (ws' := []) [] (by decide) rfl
  have hFc := va_free (wc := []) hD hS hA [] rfl
  have kzz_2 : (0 : Int32).toInt = 0 := by decide
  refine va_csi (va_runS (As := [.int a1, .int 0, .int x_1]) (rest := []) ⟨hx, hb, hml, hown, hts⟩ (k_X7_in l D c ts s.heap.size a1 i_a1 hi_a1 0 0 (by decide) x_1 ((v 52).toInt - 1) tx_1) (cwS 3 hts gX7_fits_X7_in rfl rfl rfl ⟨rfl, hdX7_in⟩ ⟨(show 0 + 1 ≤ 2 by decide), (show 8 + (3 + 11) + 0 ≤ 41 by decide)⟩) ⟨Pre0.blind, Pre0.at hPc hDc hAm hSt hS hFc⟩ rfl rfl hl.1 rfl (lv_room (Nat.le_of_ble_eq_true rfl)) dX7_fits_8 ⟨(show 0 + 0 ≤ 0 by decide), (show 0 + 0 ≤ 0 by decide)⟩) (fun r_4 hw_3 => ?_)
  rcases hw_3 with ⟨hw_3, rfl⟩ | ⟨hw_3, rfl⟩
  · skip
    refine iif_eqF (a := 1) (tgt := 25) hx hb (by decide) dX7_fits_11 (by decide) (by decide) ?_
    refine lv_iload_n hx hb dX7_fits_14 rfl (lv_at hl 2 rfl) ?_
    refine lv_iconst (v := 0) hx hb dX7_fits_15 (by decide) ?_
    refine lv_ldcw (v := 10000000) hx hb hown (hts (.constant RX7 311 (10000000)) (mem_i 2 rfl)) dX7_fits_16 ?_
    have hPc := hP.sub (ws' := []) [] rfl
    have hDc := hD.sub (ws' := []) [] (by decide) rfl
    have hFc := va_free (wc := []) hD hS hA [] rfl
    have kzz_5 : (0 : Int32).toInt = 0 := by decide
    have kzz_6 : (10000000 : Int32).toInt = 10000000 := by decide
    refine va_csi (va_runS (As := [.int a2, .int 0, .int 10000000]) (rest := []) ⟨hx, hb, hml, hown, hts⟩ (k_X7_in l D c ts s.heap.size a2 i_a2 hi_a2 0 0 (by decide) 10000000 10000000 (by decide)) (cwS 3 hts gX7_fits_X7_in rfl rfl rfl ⟨rfl, hdX7_in⟩ ⟨(show 0 + 1 ≤ 2 by decide), (show 8 + (3 + 11) + 0 ≤ 41 by decide)⟩) ⟨Pre0.blind, Pre0.at hPc hDc hAm hSt hS hFc⟩ rfl rfl hl.1 rfl (lv_room (Nat.le_of_ble_eq_true rfl)) dX7_fits_19 ⟨(show 0 + 0 ≤ 0 by decide), (show 0 + 0 ≤ 0 by decide)⟩) (fun r_8 hw_7 => ?_)
    rcases hw_7 with ⟨hw_7, rfl⟩ | ⟨hw_7, rfl⟩
    · skip
      refine iif_neT (a := 1) (tgt := 27) hx hb (by decide) dX7_fits_22 (by decide) (by decide) ?_
      refine lv_iconst (v := 0) hx hb dX7_fits_27 (by decide) ?_
      refine lv_istore_n (lv' := [(3, .int 0), (0, .ref A_self), (1, .int a1), (2, .int a2)]) hx hb dX7_fits_28 rfl hl (by decide) rfl (fun ls hl => ?_)
      have lp_29 : ∀ (N : Nat) (L3 : Int32) (hf29_0 : 0 ≤ L3.toInt) (hf29_1 : L3.toInt ≤ 6) (hN29 : (6 - L3.toInt).toNat = N) (ls : Array Slot), lv_has ls 4 [(0, .ref A_self), (1, .int a1), (2, .int a2), (3, .int L3)] → W p l e (headSpec wsX7_fits ({ frames := 2, cells := 0, slots := 0, locals := 41 })).room s m (([.ref A_self, .int a1, .int a2] : List Value).toArray) below meth cd s.heap [] 0 0 (MQ below (vp_Si (fun r : Int32 => True)) ([.ref A_self, .int a1, .int a2] : List Value).toArray s 0 0 (fun _ => False)) (F0 m 29 ls []) := by
        refine st_ind (fun N ih29 => ?_)
        intro L3 hf29_0 hf29_1 hN29 ls hl
        refine lv_iload_n hx hb dX7_fits_29 rfl (lv_at hl 3 rfl) ?_
        refine lv_bipush (v := 6) hx hb dX7_fits_30 (by decide) ?_
        refine iicmp_ge (a := L3.toInt) (b := 6) (tgt := 61) hx hb rfl (by decide) dX7_fits_32 (by decide) (fun k_9 => ?_) (fun k_9 => ?_)
        · skip
          refine lv_bipush (v := 6) hx hb dX7_fits_61 (by decide) ?_
          have kzz_10 : (6 : Int32).toInt = 6 := by decide
          exact W.iret (v := 6) hx hb hr (fun t ht hW => ⟨_, rfl, trivial, ht⟩) (fun _ h => by cases h) dX7_fits_63
        · skip
          refine lv_aload_n hx hb dX7_fits_35 rfl (lv_at hl 0 rfl) ?_
          refine va_get (D := D) (ci := 7) (v := .ref (q 53)) (C := RX7) (T := TX7) (N := 56) hx hb hts (fun _ h => List.mem_cons_of_mem _ (List.mem_append_right _ h)) hown hK hP 0 rfl rfl 53 (by decide) (hts (.fieldLink RX7 112 "CrownTableModel" "stick" "[I") (mem_i 3 rfl)) (fun _ h9 => h9) rfl dX7_fits_36 ?_
          refine lv_iload_n hx hb dX7_fits_39 rfl (lv_at hl 1 rfl) ?_
          refine va_iald hx hb hK hP 1 1 rfl rfl (vin (a := i_a1) hi_a1 (by omega) (by omega)) dX7_fits_40 ?_
          refine lv_topi (fun x_11 ex_11 => ?_)
          refine lv_iload_n hx hb dX7_fits_41 rfl (lv_at hl 3 rfl) ?_
          have hPc := hP.sub (ws' := []) [] rfl
          have hDc := hD.sub (ws' := []) [] (by decide) rfl
          have hFc := va_free (wc := []) hD hS hA [] rfl
          refine va_csi (va_runS (As := [.int x_11, .int L3]) (rest := []) ⟨hx, hb, hml, hown, hts⟩ (k_X7_notch l D c ts s.heap.size x_11 x_11.toInt rfl L3 L3.toInt rfl (by omega)) (cwS 2 hts gX7_fits_X7_notch rfl rfl rfl ⟨rfl, hdX7_notch⟩ ⟨(show 1 + 1 ≤ 2 by decide), (show 8 + (2 + 11) + 20 ≤ 41 by decide)⟩) ⟨Pre0.blind, Pre0.at hPc hDc hAm hSt hS hFc⟩ rfl rfl hl.1 rfl (lv_room (Nat.le_of_ble_eq_true rfl)) dX7_fits_42 ⟨(show 0 + 0 ≤ 0 by decide), (show 0 + 0 ≤ 0 by decide)⟩) (fun r_13 hw_12 => ?_)
          have rg_r_13 := i32r r_13
          refine lv_iload_n hx hb dX7_fits_45 rfl (lv_at hl 2 rfl) ?_
          refine lv_iload_n hx hb dX7_fits_46 rfl (lv_at hl 3 rfl) ?_
          have hPc := hP.sub (ws' := []) [] rfl
          have hDc := hD.sub (ws' := []) [] (by decide) rfl
          have hFc := va_free (wc := []) hD hS hA [] rfl
          refine va_csi (va_runS (As := [.int a2, .int L3]) (rest := [.int r_13]) ⟨hx, hb, hml, hown, hts⟩ (k_X7_notch_P l D c ts s.heap.size a2 i_a2 hi_a2 L3 L3.toInt rfl (by omega) (by omega)) (cwS 2 hts gX7_fits_X7_notch rfl rfl rfl ⟨rfl, hdX7_notch⟩ ⟨(show 1 + 1 ≤ 2 by decide), (show 8 + (2 + 11) + 20 ≤ 41 by decide)⟩) ⟨Pre0.blind, Pre0.at hPc hDc hAm hSt hS hFc⟩ rfl rfl hl.1 rfl (lv_room (Nat.le_of_ble_eq_true rfl)) dX7_fits_47 ⟨(show 0 + 0 ≤ 0 by decide), (show 0 + 0 ≤ 0 by decide)⟩) (fun r_15 hw_14 => ?_)
          have rg_r_15 := i32r r_15
          refine iicmp_eq (a := r_13.toInt) (b := r_15.toInt) (tgt := 55) hx hb rfl rfl dX7_fits_50 (by decide) (fun k_16 => ?_) (fun k_16 => ?_)
          · skip
            obtain ⟨x_17, ex_17⟩ : ∃ y : Int32, y = L3 + 1 := ⟨_, rfl⟩
            have tx_17 : x_17.toInt = L3.toInt + 1 := by rw [ex_17]; exact add_ti (a := L3.toInt) (b := 1) rfl (by decide) (by omega) (by omega)
            refine lv_iinc (v := x_17) (lv' := [(3, .int x_17), (0, .ref A_self), (1, .int a1), (2, .int a2)]) hx hb dX7_fits_55 hl (k := 3) rfl (by rw [ex_17]; rfl) (by decide) rfl (fun ls hl => ?_)
            refine lv_goto (tgt := 29) hx hb dX7_fits_58 (by decide) ?_
            have hl := lv_sub hl [1, 2, 3, 0] rfl
            exact (ih29 ((6 - x_17.toInt).toNat) (by omega) x_17 (by omega) (by omega) rfl _ hl)
          · skip
            refine lv_iload_n hx hb dX7_fits_53 rfl (lv_at hl 3 rfl) ?_
            exact W.iret (v := L3) hx hb hr (fun t ht hW => ⟨_, rfl, trivial, ht⟩) (fun _ h => by cases h) dX7_fits_54
      have kzz_18 : (0 : Int32).toInt = 0 := by decide
      have hl := lv_sub hl [1, 2, 3, 0] rfl
      exact (lp_29 _ 0 (by omega) (by omega) rfl _ hl)
    · skip
      refine iif_neF (a := 0) (tgt := 27) hx hb (by decide) dX7_fits_22 (by decide) (by decide) ?_
      refine lv_iconst (v := (-1)) hx hb dX7_fits_25 (by decide) ?_
      have kzz_19 : ((-1) : Int32).toInt = (-1) := by decide
      exact W.iret (v := (-1)) hx hb hr (fun t ht hW => ⟨_, rfl, trivial, ht⟩) (fun _ h => by cases h) dX7_fits_26
  · skip
    refine iif_eqT (a := 0) (tgt := 25) hx hb (by decide) dX7_fits_11 (by decide) (by decide) ?_
    refine lv_iconst (v := (-1)) hx hb dX7_fits_25 (by decide) ?_
    have kzz_20 : ((-1) : Int32).toInt = (-1) := by decide
    exact W.iret (v := (-1)) hx hb hr (fun t ht hW => ⟨_, rfl, trivial, ht⟩) (fun _ h => by cases h) dX7_fits_26

set_option maxHeartbeats 4000000 in
set_option maxRecDepth 100000 in
theorem k_X7_cloth (l : Launch) (D : va_G) (c : Nat → ClassId) (ts : Nat × Nat) (sz : Nat) (A_self : Nat) (q : Nat → Nat) (v : Nat → Int32) (w : Nat → Int64) (f_cloth : Nat → Int32) (a1 : Int32) (i_a1 : Int) (hi_a1 : a1.toInt = i_a1) (hv_2 : 0 ≤ (v 2).toInt ∧ (v 2).toInt ≤ 800) (hv_8 : 0 ≤ (v 8).toInt ∧ (v 8).toInt ≤ 10) (hv_21 : 0 ≤ (v 21).toInt ∧ (v 21).toInt ≤ 40) (hv_24 : 0 ≤ (v 24).toInt ∧ (v 24).toInt ≤ 1000) (hv_27 : 0 ≤ (v 27).toInt ∧ (v 27).toInt ≤ 400) (hv_42 : 0 ≤ (v 42).toInt ∧ (v 42).toInt ≤ 4000) (hv_52 : 0 ≤ (v 52).toInt ∧ (v 52).toInt ≤ 2000) : Met l yX7_cloth wsX7_cloth ({ frames := 1, cells := 0, slots := 0, locals := 22 }) (va_Pc [.ref A_self, .int a1] (Pre0 D c ts [(A_self, .inr (7, o7 q v w)), (q 55, .inl (c 1, 6, .inl f_cloth))] sz)) (vp_Si (fun r : Int32 => ((¬ (0 ≤ i_a1 ∧ i_a1 ≤ 5) ∧ r.toInt = -1) ∨ ((0 ≤ i_a1 ∧ i_a1 ≤ 5) ∧ r.toInt = (f_cloth i_a1.toNat).toInt)))) 0 0 (fun _ => False) := by
  refine Met.ofW (cc := cX7_cloth) (maxL := 2) (ret := (some .int)) (by decide) rfl ?_
  intro p e s m args below meth cd s₁ B hml hv
  obtain ⟨rfl, hsz, hP, hD0, hAm, hSt⟩ := hv
  have hx := B.exec
  have hb := B.bytes
  have hr := B.returns
  have hts := atoms_spec (ws := wsX7_cloth) B.pre
  have hown : s.vm.findClass RX7 = some m.cls := findClass_of_methodNamed B.named
  have hlocks := B.notSynchronized
  have hK := hAm.1
  subst hsz
  have hD := hD0.self (sz := s.heap.size)
  generalize hAe : va_A [(A_self, .inr (7, o7 q v w)), (q 55, .inl (c 1, 6, .inl f_cloth))] s.heap.size = A at hD hSt
  have hA : ∀ q : Nat, s.heap.size ≤ q → A q := fun q h => by rw [← hAe]; exact Or.inr h
  have hS : va_S A s.heap s.heap [] := va_S.rf
  clear hD0 hAe
  have hl := lv_entry ([.ref A_self, .int a1]) (n := 2) (Nat.le_of_ble_eq_true rfl)
  rw [lg_entry_eq]
  generalize (lg_sl ([.ref A_self, .int a1]) ++ List.replicate (2 - (lg_sl ([.ref A_self, .int a1])).length) Slot.unset).toArray = ls at hl ⊢
  have hl : lv_has ls 2 [(0, .ref A_self), (1, .int a1)] := hl
  have rg_a1 := i32r a1
  refine lv_iload_n hx hb dX7_cloth_0 rfl (lv_at hl 1 rfl) ?_
  refine lv_iconst (v := 0) hx hb dX7_cloth_1 (by decide) ?_
  refine lv_iconst (v := 5) hx hb dX7_cloth_2 (by decide) ?_
  have hPc := hP.sub (ws' := []) [] rfl
  have hDc := hD.sub (ws' := []) [] (by decide) rfl
  have hFc := va_free (wc := []) hD hS hA [] rfl
  have kzz_1 : (0 : Int32).toInt = 0 := by decide
  have kzz_2 : (5 : Int32).toInt = 5 := by decide
  refine va_csi (va_runS (As := [.int a1, .int 0, .int 5]) (rest := []) ⟨hx, hb, hml, hown, hts⟩ (k_X7_in l D c ts s.heap.size a1 i_a1 hi_a1 0 0 (by decide) 5 5 (by decide)) (cwS 3 hts gX7_cloth_X7_in rfl rfl rfl ⟨rfl, hdX7_in⟩ ⟨(show 0 + 1 ≤ 1 by decide), (show 8 + (3 + 11) + 0 ≤ 22 by decide)⟩) ⟨Pre0.blind, Pre0.at hPc hDc hAm hSt hS hFc⟩ rfl rfl hl.1 rfl (lv_room (Nat.le_of_ble_eq_true rfl)) dX7_cloth_3 ⟨(show 0 + 0 ≤ 0 by decide), (show 0 + 0 ≤ 0 by decide)⟩) (fun r_4 hw_3 => ?_)
  rcases hw_3 with ⟨hw_3, rfl⟩ | ⟨hw_3, rfl⟩
  · skip
    refine iif_eqF (a := 1) (tgt := 18) hx hb (by decide) dX7_cloth_6 (by decide) (by decide) ?_
    refine lv_aload_n hx hb dX7_cloth_9 rfl (lv_at hl 0 rfl) ?_
    refine va_get (D := D) (ci := 7) (v := .ref (q 55)) (C := RX7) (T := TX7) (N := 56) hx hb hts (fun _ h => List.mem_cons_of_mem _ (List.mem_append_right _ h)) hown hK hP 0 rfl rfl 55 (by decide) (hts (.fieldLink RX7 118 "CrownTableModel" "cloth" "[I") (mem_i 1 rfl)) (fun _ h9 => h9) rfl dX7_cloth_10 ?_
    refine lv_iload_n hx hb dX7_cloth_13 rfl (lv_at hl 1 rfl) ?_
    refine va_iald hx hb hK hP 1 1 rfl rfl (vin (a := i_a1) hi_a1 (by omega) (by omega)) dX7_cloth_14 ?_
    refine lv_topi (fun x_5 ex_5 => ?_)
    have lf_6 : (f_cloth i_a1.toNat).toInt = x_5.toInt := by rw [ex_5, clampN (x := a1) hi_a1]
    refine lv_goto (tgt := 19) hx hb dX7_cloth_15 (by decide) ?_
    exact W.iret (v := x_5) hx hb hr (fun t ht hW => ⟨_, rfl, (by omega), ht⟩) (fun _ h => by cases h) dX7_cloth_19
  · skip
    refine iif_eqT (a := 0) (tgt := 18) hx hb (by decide) dX7_cloth_6 (by decide) (by decide) ?_
    refine lv_iconst (v := (-1)) hx hb dX7_cloth_18 (by decide) ?_
    have kzz_7 : ((-1) : Int32).toInt = (-1) := by decide
    exact W.iret (v := (-1)) hx hb hr (fun t ht hW => ⟨_, rfl, (by omega), ht⟩) (fun _ h => by cases h) dX7_cloth_19

set_option maxHeartbeats 4000000 in
set_option maxRecDepth 100000 in
theorem k_X7_count (l : Launch) (D : va_G) (c : Nat → ClassId) (ts : Nat × Nat) (sz : Nat) (A_self : Nat) (q : Nat → Nat) (v : Nat → Int32) (w : Nat → Int64) (a1 : Int32) (i_a1 : Int) (hi_a1 : a1.toInt = i_a1) (hv_2 : 0 ≤ (v 2).toInt ∧ (v 2).toInt ≤ 800) (hv_8 : 0 ≤ (v 8).toInt ∧ (v 8).toInt ≤ 10) (hv_21 : 0 ≤ (v 21).toInt ∧ (v 21).toInt ≤ 40) (hv_24 : 0 ≤ (v 24).toInt ∧ (v 24).toInt ≤ 1000) (hv_27 : 0 ≤ (v 27).toInt ∧ (v 27).toInt ≤ 400) (hv_42 : 0 ≤ (v 42).toInt ∧ (v 42).toInt ≤ 4000) (hv_52 : 0 ≤ (v 52).toInt ∧ (v 52).toInt ≤ 2000) : Met l yX7_count wsX7_count ({ frames := 0, cells := 0, slots := 0, locals := 0 }) (va_Pc [.ref A_self, .int a1] (Pre0 D c ts [(A_self, .inr (7, o7 q v w))] sz)) (vp_Si (fun r : Int32 => True)) 0 0 (fun _ => False) := by
  refine Met.ofW (cc := cX7_count) (maxL := 2) (ret := (some .int)) (by decide) rfl ?_
  intro p e s m args below meth cd s₁ B hml hv
  obtain ⟨rfl, hsz, hP, hD0, hAm, hSt⟩ := hv
  have hx := B.exec
  have hb := B.bytes
  have hr := B.returns
  have hts := atoms_spec (ws := wsX7_count) B.pre
  have hown : s.vm.findClass RX7 = some m.cls := findClass_of_methodNamed B.named
  have hlocks := B.notSynchronized
  have hK := hAm.1
  subst hsz
  have hD := hD0.self (sz := s.heap.size)
  generalize hAe : va_A [(A_self, .inr (7, o7 q v w))] s.heap.size = A at hD hSt
  have hA : ∀ q : Nat, s.heap.size ≤ q → A q := fun q h => by rw [← hAe]; exact Or.inr h
  have hS : va_S A s.heap s.heap [] := va_S.rf
  clear hD0 hAe
  have hl := lv_entry ([.ref A_self, .int a1]) (n := 2) (Nat.le_of_ble_eq_true rfl)
  rw [lg_entry_eq]
  generalize (lg_sl ([.ref A_self, .int a1]) ++ List.replicate (2 - (lg_sl ([.ref A_self, .int a1])).length) Slot.unset).toArray = ls at hl ⊢
  have hl : lv_has ls 2 [(0, .ref A_self), (1, .int a1)] := hl
  have rg_a1 := i32r a1
  refine lv_iload_n hx hb dX7_count_0 rfl (lv_at hl 1 rfl) ?_
  by_cases k_1 : i_a1 = 0
  · have ek_1 : a1.toInt = 0 := hi_a1.trans k_1
    refine lv_tableIn (tgt := 40) hx hb dX7_count_1 (by rw [ek_1]; decide) (by rw [ek_1]; decide) (by rw [ek_1]; rfl) (by decide) ?_
    refine lv_aload_n hx hb dX7_count_40 rfl (lv_at hl 0 rfl) ?_
    refine va_get (D := D) (ci := 7) (v := .int (v 27)) (C := RX7) (T := TX7) (N := 56) hx hb hts (fun _ h => List.mem_cons_of_mem _ (List.mem_append_right _ h)) hown hK hP 0 rfl rfl 27 (by decide) (hts (.fieldLink RX7 277 "CrownTableModel" "debts" "I") (mem_i 1 rfl)) (fun _ h9 => h9) rfl dX7_count_41 ?_
    exact W.iret (v := (v 27)) hx hb hr (fun t ht hW => ⟨_, rfl, trivial, ht⟩) (fun _ h => by cases h) dX7_count_44
  by_cases k_2 : i_a1 = 1
  · have ek_2 : a1.toInt = 1 := hi_a1.trans k_2
    refine lv_tableIn (tgt := 45) hx hb dX7_count_1 (by rw [ek_2]; decide) (by rw [ek_2]; decide) (by rw [ek_2]; rfl) (by decide) ?_
    refine lv_aload_n hx hb dX7_count_45 rfl (lv_at hl 0 rfl) ?_
    refine va_get (D := D) (ci := 7) (v := .int (v 42)) (C := RX7) (T := TX7) (N := 56) hx hb hts (fun _ h => List.mem_cons_of_mem _ (List.mem_append_right _ h)) hown hK hP 0 rfl rfl 42 (by decide) (hts (.fieldLink RX7 319 "CrownTableModel" "lines" "I") (mem_i 2 rfl)) (fun _ h9 => h9) rfl dX7_count_46 ?_
    exact W.iret (v := (v 42)) hx hb hr (fun t ht hW => ⟨_, rfl, trivial, ht⟩) (fun _ h => by cases h) dX7_count_49
  by_cases k_3 : i_a1 = 2
  · have ek_3 : a1.toInt = 2 := hi_a1.trans k_3
    refine lv_tableIn (tgt := 50) hx hb dX7_count_1 (by rw [ek_3]; decide) (by rw [ek_3]; decide) (by rw [ek_3]; rfl) (by decide) ?_
    refine lv_aload_n hx hb dX7_count_50 rfl (lv_at hl 0 rfl) ?_
    refine va_get (D := D) (ci := 7) (v := .int (v 52)) (C := RX7) (T := TX7) (N := 56) hx hb hts (fun _ h => List.mem_cons_of_mem _ (List.mem_append_right _ h)) hown hK hP 0 rfl rfl 52 (by decide) (hts (.fieldLink RX7 322 "CrownTableModel" "sticks" "I") (mem_i 3 rfl)) (fun _ h9 => h9) rfl dX7_count_51 ?_
    exact W.iret (v := (v 52)) hx hb hr (fun t ht hW => ⟨_, rfl, trivial, ht⟩) (fun _ h => by cases h) dX7_count_54
  by_cases k_4 : i_a1 = 3
  · have ek_4 : a1.toInt = 3 := hi_a1.trans k_4
    refine lv_tableIn (tgt := 55) hx hb dX7_count_1 (by rw [ek_4]; decide) (by rw [ek_4]; decide) (by rw [ek_4]; rfl) (by decide) ?_
    refine lv_aload_n hx hb dX7_count_55 rfl (lv_at hl 0 rfl) ?_
    refine va_get (D := D) (ci := 7) (v := .int (v 8)) (C := RX7) (T := TX7) (N := 56) hx hb hts (fun _ h => List.mem_cons_of_mem _ (List.mem_append_right _ h)) hown hK hP 0 rfl rfl 8 (by decide) (hts (.fieldLink RX7 220 "CrownTableModel" "texts" "I") (mem_i 4 rfl)) (fun _ h9 => h9) rfl dX7_count_56 ?_
    exact W.iret (v := (v 8)) hx hb hr (fun t ht hW => ⟨_, rfl, trivial, ht⟩) (fun _ h => by cases h) dX7_count_59
  by_cases k_5 : i_a1 = 4
  · have ek_5 : a1.toInt = 4 := hi_a1.trans k_5
    refine lv_tableIn (tgt := 60) hx hb dX7_count_1 (by rw [ek_5]; decide) (by rw [ek_5]; decide) (by rw [ek_5]; rfl) (by decide) ?_
    refine lv_aload_n hx hb dX7_count_60 rfl (lv_at hl 0 rfl) ?_
    refine va_get (D := D) (ci := 7) (v := .int (v 24)) (C := RX7) (T := TX7) (N := 56) hx hb hts (fun _ h => List.mem_cons_of_mem _ (List.mem_append_right _ h)) hown hK hP 0 rfl rfl 24 (by decide) (hts (.fieldLink RX7 267 "CrownTableModel" "term" "I") (mem_i 5 rfl)) (fun _ h9 => h9) rfl dX7_count_61 ?_
    exact W.iret (v := (v 24)) hx hb hr (fun t ht hW => ⟨_, rfl, trivial, ht⟩) (fun _ h => by cases h) dX7_count_64
  by_cases k_6 : i_a1 = 5
  · have ek_6 : a1.toInt = 5 := hi_a1.trans k_6
    refine lv_tableIn (tgt := 65) hx hb dX7_count_1 (by rw [ek_6]; decide) (by rw [ek_6]; decide) (by rw [ek_6]; rfl) (by decide) ?_
    refine lv_aload_n hx hb dX7_count_65 rfl (lv_at hl 0 rfl) ?_
    refine va_get (D := D) (ci := 7) (v := .int (v 2)) (C := RX7) (T := TX7) (N := 56) hx hb hts (fun _ h => List.mem_cons_of_mem _ (List.mem_append_right _ h)) hown hK hP 0 rfl rfl 2 (by decide) (hts (.fieldLink RX7 125 "CrownTableModel" "taped" "I") (mem_i 6 rfl)) (fun _ h9 => h9) rfl dX7_count_66 ?_
    exact W.iret (v := (v 2)) hx hb hr (fun t ht hW => ⟨_, rfl, trivial, ht⟩) (fun _ h => by cases h) dX7_count_69
  refine lv_tableOut (tgt := 70) hx hb dX7_count_1 (by rw [hi_a1]; omega) (by decide) ?_
  refine lv_iconst (v := (-1)) hx hb dX7_count_70 (by decide) ?_
  have kzz_7 : ((-1) : Int32).toInt = (-1) := by decide
  exact W.iret (v := (-1)) hx hb hr (fun t ht hW => ⟨_, rfl, trivial, ht⟩) (fun _ h => by cases h) dX7_count_71

set_option maxHeartbeats 4000000 in
set_option maxRecDepth 100000 in
theorem k_X7_wrong (l : Launch) (D : va_G) (c : Nat → ClassId) (ts : Nat × Nat) (sz : Nat) (A_self : Nat) (q : Nat → Nat) (v : Nat → Int32) (w : Nat → Int64) (hv_2 : 0 ≤ (v 2).toInt ∧ (v 2).toInt ≤ 800) (hv_8 : 0 ≤ (v 8).toInt ∧ (v 8).toInt ≤ 10) (hv_21 : 0 ≤ (v 21).toInt ∧ (v 21).toInt ≤ 40) (hv_24 : 0 ≤ (v 24).toInt ∧ (v 24).toInt ≤ 1000) (hv_27 : 0 ≤ (v 27).toInt ∧ (v 27).toInt ≤ 400) (hv_42 : 0 ≤ (v 42).toInt ∧ (v 42).toInt ≤ 4000) (hv_52 : 0 ≤ (v 52).toInt ∧ (v 52).toInt ≤ 2000) (hq0 : 0 ≤ (v 5).toInt) : Met l yX7_wrong wsX7_wrong ({ frames := 0, cells := 0, slots := 0, locals := 0 }) (va_Pc [.ref A_self] (Pre0 D c ts [(A_self, .inr (7, o7 q v w))] sz)) (va_Qv (fun (u : Int32 × Unit) => (0 ≤ u.1.toInt)) (fun u t => va_P D vwCl [(A_self, .inr (7, o7 q (upd v 17 u.1) w))] t.heap ∧ va_D (va_A [(A_self, .inr (7, o7 q v w))] sz) [(A_self, .inr (7, o7 q (upd v 17 u.1) w))]) (va_A [(A_self, .inr (7, o7 q v w))] sz)) 0 0 (va_A [(A_self, .inr (7, o7 q v w))] sz) := by
  refine Met.ofW (cc := cX7_wrong) (maxL := 1) (ret := none) (by decide) rfl ?_
  intro p e s m args below meth cd s₁ B hml hv
  obtain ⟨rfl, hsz, hP, hD0, hAm, hSt⟩ := hv
  have hx := B.exec
  have hb := B.bytes
  have hr := B.returns
  have hts := atoms_spec (ws := wsX7_wrong) B.pre
  have hown : s.vm.findClass RX7 = some m.cls := findClass_of_methodNamed B.named
  have hlocks := B.notSynchronized
  have hK := hAm.1
  subst hsz
  have hD := hD0.self (sz := s.heap.size)
  generalize hAe : va_A [(A_self, .inr (7, o7 q v w))] s.heap.size = A at hD hSt ⊢
  have hA : ∀ q : Nat, s.heap.size ≤ q → A q := fun q h => by rw [← hAe]; exact Or.inr h
  have hS : va_S A s.heap s.heap [] := va_S.rf
  clear hD0 hAe
  have hl := lv_entry ([.ref A_self]) (n := 1) (Nat.le_of_ble_eq_true rfl)
  rw [lg_entry_eq]
  generalize (lg_sl ([.ref A_self]) ++ List.replicate (1 - (lg_sl ([.ref A_self])).length) Slot.unset).toArray = ls at hl ⊢
  have hl : lv_has ls 1 [(0, .ref A_self)] := hl
  refine lv_aload_n hx hb dX7_wrong_0 rfl (lv_at hl 0 rfl) ?_
  refine lv_aload_n hx hb dX7_wrong_1 rfl (lv_at hl 0 rfl) ?_
  refine va_get (D := D) (ci := 7) (v := .int (v 17)) (C := RX7) (T := TX7) (N := 56) hx hb hts (fun _ h => List.mem_cons_of_mem _ (List.mem_append_right _ h)) hown hK hP 0 rfl rfl 17 (by decide) (hts (.fieldLink RX7 208 "CrownTableModel" "fault" "I") (mem_i 1 rfl)) (fun _ h9 => h9) rfl dX7_wrong_2 ?_
  refine iif_ge (a := (v 17).toInt) (tgt := 15) hx hb rfl dX7_wrong_5 (by decide) (fun k_1 => ?_) (fun k_1 => ?_)
  · skip
    refine lv_aload_n hx hb dX7_wrong_15 rfl (lv_at hl 0 rfl) ?_
    refine va_get (D := D) (ci := 7) (v := .int (v 17)) (C := RX7) (T := TX7) (N := 56) hx hb hts (fun _ h => List.mem_cons_of_mem _ (List.mem_append_right _ h)) hown hK hP 0 rfl rfl 17 (by decide) (hts (.fieldLink RX7 208 "CrownTableModel" "fault" "I") (mem_i 1 rfl)) (fun _ h9 => h9) rfl dX7_wrong_16 ?_
    refine va_put (D := D) (ci := 7) (v := .int (v 17)) (ty := .int) (C := RX7) (T := TX7) (N := 56) hx hb hts (fun _ h => List.mem_cons_of_mem _ (List.mem_append_right _ h)) tyX7 tyX7_ok nmX7 hown hK hP hD hS 0 rfl rfl 17 (by decide) (hts (.fieldLink RX7 208 "CrownTableModel" "fault" "I") (mem_i 1 rfl)) (fun _ h9 => h9) rfl (by decide +kernel) rfl rfl (Nat.le_of_ble_eq_true rfl) dX7_wrong_19 (fun H locs hP hD hS => ?_)
    have hP : va_P D vwCl [(A_self, .inr (7, o7 q (upd v 17 (v 17)) w))] H := hP
    have hD : va_D A [(A_self, .inr (7, o7 q (upd v 17 (v 17)) w))] := hD
    have hP9 := hP.sub (ws' := [(A_self, .inr (7, o7 q (upd v 17 (v 17)) w))]) [0] rfl
    have hD9 := hD.sub (ws' := [(A_self, .inr (7, o7 q (upd v 17 (v 17)) w))]) [0] (by decide) rfl
    refine W.widen (k := 0) (n := 0) (by omega) (by omega) ?_
    exact W.vret hx hb hr (fun t ht hW => ⟨⟨((v 17), ()), rfl, (show 0 ≤ (v 17).toInt by omega), ⟨by rw [ht]; exact hP9, hD9⟩⟩, hS.F ht⟩) hS.2.2 dX7_wrong_22
  · skip
    refine lv_aload_n hx hb dX7_wrong_8 rfl (lv_at hl 0 rfl) ?_
    refine va_get (D := D) (ci := 7) (v := .int (v 5)) (C := RX7) (T := TX7) (N := 56) hx hb hts (fun _ h => List.mem_cons_of_mem _ (List.mem_append_right _ h)) hown hK hP 0 rfl rfl 5 (by decide) (hts (.fieldLink RX7 139 "CrownTableModel" "tkAt" "I") (mem_i 2 rfl)) (fun _ h9 => h9) rfl dX7_wrong_9 ?_
    refine lv_goto (tgt := 19) hx hb dX7_wrong_12 (by decide) ?_
    refine va_put (D := D) (ci := 7) (v := .int (v 5)) (ty := .int) (C := RX7) (T := TX7) (N := 56) hx hb hts (fun _ h => List.mem_cons_of_mem _ (List.mem_append_right _ h)) tyX7 tyX7_ok nmX7 hown hK hP hD hS 0 rfl rfl 17 (by decide) (hts (.fieldLink RX7 208 "CrownTableModel" "fault" "I") (mem_i 1 rfl)) (fun _ h9 => h9) rfl (by decide +kernel) rfl rfl (Nat.le_of_ble_eq_true rfl) dX7_wrong_19 (fun H locs hP hD hS => ?_)
    have hP : va_P D vwCl [(A_self, .inr (7, o7 q (upd v 17 (v 5)) w))] H := hP
    have hD : va_D A [(A_self, .inr (7, o7 q (upd v 17 (v 5)) w))] := hD
    have hP9 := hP.sub (ws' := [(A_self, .inr (7, o7 q (upd v 17 (v 5)) w))]) [0] rfl
    have hD9 := hD.sub (ws' := [(A_self, .inr (7, o7 q (upd v 17 (v 5)) w))]) [0] (by decide) rfl
    refine W.widen (k := 0) (n := 0) (by omega) (by omega) ?_
    exact W.vret hx hb hr (fun t ht hW => ⟨⟨((v 5), ()), rfl, (show 0 ≤ (v 5).toInt by omega), ⟨by rw [ht]; exact hP9, hD9⟩⟩, hS.F ht⟩) hS.2.2 dX7_wrong_22
