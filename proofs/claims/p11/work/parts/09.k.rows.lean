set_option maxHeartbeats 4000000 in
set_option maxRecDepth 100000 in
theorem k_X7_lies (l : Launch) (D : va_G) (c : Nat → ClassId) (ts : Nat × Nat) (sz : Nat) (A_self : Nat) (q : Nat → Nat) (v : Nat → Int32) (w : Nat → Int64) (f_cloth : Nat → Int32) (hv_2 : 0 ≤ (v 2).toInt ∧ (v 2).toInt ≤ 800) (hv_8 : 0 ≤ (v 8).toInt ∧ (v 8).toInt ≤ 10) (hv_21 : 0 ≤ (v 21).toInt ∧ (v 21).toInt ≤ 40) (hv_24 : 0 ≤ (v 24).toInt ∧ (v 24).toInt ≤ 1000) (hv_27 : 0 ≤ (v 27).toInt ∧ (v 27).toInt ≤ 400) (hv_42 : 0 ≤ (v 42).toInt ∧ (v 42).toInt ≤ 4000) (hv_52 : 0 ≤ (v 52).toInt ∧ (v 52).toInt ≤ 2000) (hq0 : 0 ≤ (f_cloth 0).toInt ∧ (f_cloth 0).toInt ≤ 11) (hq1 : 0 ≤ (f_cloth 1).toInt ∧ (f_cloth 1).toInt ≤ 19) (hq2 : 0 ≤ (f_cloth 2).toInt ∧ (f_cloth 2).toInt ≤ 19) (hq3 : 0 ≤ (f_cloth 3).toInt ∧ (f_cloth 3).toInt ≤ 4) (hq4 : 0 ≤ (f_cloth 4).toInt ∧ (f_cloth 4).toInt ≤ 9) (hq5 : 0 ≤ (f_cloth 5).toInt ∧ (f_cloth 5).toInt ≤ 1000000) : Met l yX7_lies wsX7_lies ({ frames := 1, cells := 0, slots := 0, locals := 20 }) (va_Pc [.ref A_self] (Pre0 D c ts [(A_self, .inr (7, o7 q v w)), (q 55, .inl (c 1, 6, .inl f_cloth))] sz)) (vp_Sl (fun r : Int64 => (r.toInt = (f_cloth 0).toInt + 12 * (f_cloth 1).toInt + 240 * (f_cloth 2).toInt + 4800 * (f_cloth 3).toInt + 24000 * (f_cloth 4).toInt + 240000 * (f_cloth 5).toInt))) 0 0 (fun _ => False) := by
  refine Met.ofW (cc := cX7_lies) (maxL := 4) (ret := (some .long)) (by decide) rfl ?_
  intro p e s m args below meth cd s₁ B hml hv
  obtain ⟨rfl, hsz, hP, hD0, hAm, hSt⟩ := hv
  have hx := B.exec
  have hb := B.bytes
  have hr := B.returns
  have hts := atoms_spec (ws := wsX7_lies) B.pre
  have hown : s.vm.findClass RX7 = some m.cls := findClass_of_methodNamed B.named
  have hlocks := B.notSynchronized
  have hK := hAm.1
  subst hsz
  have hD := hD0.self (sz := s.heap.size)
  generalize hAe : va_A [(A_self, .inr (7, o7 q v w)), (q 55, .inl (c 1, 6, .inl f_cloth))] s.heap.size = A at hD hSt
  have hA : ∀ q : Nat, s.heap.size ≤ q → A q := fun q h => by rw [← hAe]; exact Or.inr h
  have hS : va_S A s.heap s.heap [] := va_S.rf
  clear hD0 hAe
  have hl := lv_entry ([.ref A_self]) (n := 4) (Nat.le_of_ble_eq_true rfl)
  rw [lg_entry_eq]
  generalize (lg_sl ([.ref A_self]) ++ List.replicate (4 - (lg_sl ([.ref A_self])).length) Slot.unset).toArray = ls at hl ⊢
  have hl : lv_has ls 4 [(0, .ref A_self)] := hl
  refine lv_lconst (v := 0) hx hb dX7_lies_0 (by decide) ?_
  refine lv_lstore_n (lv' := [(1, .long 0), (0, .ref A_self)]) hx hb dX7_lies_1 rfl hl (by decide) rfl (fun ls hl => ?_)
  refine lv_iconst (v := 0) hx hb dX7_lies_2 (by decide) ?_
  refine lv_istore_n (lv' := [(3, .int 0), (1, .long 0), (0, .ref A_self)]) hx hb dX7_lies_3 rfl hl (by decide) rfl (fun ls hl => ?_)
  refine lv_iload_n hx hb dX7_lies_4 rfl (lv_at hl 0 rfl) ?_
  refine lv_bipush (v := 6) hx hb dX7_lies_5 (by decide) ?_
  refine iicmp_geF (a := 0) (b := 6) (tgt := 32) hx hb (by decide) (by decide) dX7_lies_7 (by decide) (by decide) ?_
  refine lv_lload_n hx hb dX7_lies_10 rfl (lv_at hl 1 rfl) ?_
  refine lv_aload_n hx hb dX7_lies_11 rfl (lv_at hl 2 rfl) ?_
  refine va_get (D := D) (ci := 7) (v := .ref (q 55)) (C := RX7) (T := TX7) (N := 56) hx hb hts (fun _ h => List.mem_cons_of_mem _ (List.mem_append_right _ h)) hown hK hP 0 rfl rfl 55 (by decide) (hts (.fieldLink RX7 118 "CrownTableModel" "cloth" "[I") (mem_i 1 rfl)) (fun _ h9 => h9) rfl dX7_lies_12 ?_
  refine lv_iload_n hx hb dX7_lies_15 rfl (lv_at hl 0 rfl) ?_
  refine va_iald hx hb hK hP 1 1 rfl rfl (vin (a := 0) (by decide) (by decide) (by decide)) dX7_lies_16 ?_
  refine lv_topi (fun x_1 ex_1 => ?_)
  have lf_2 : (f_cloth 0).toInt = x_1.toInt := by rw [ex_1]; rfl
  refine lv_i2l hx hb dX7_lies_17 rfl ?_
  refine lv_iload_n hx hb dX7_lies_18 rfl (lv_at hl 0 rfl) ?_
  have hPc := hP.sub (ws' := []) [] rfl
  have hDc := hD.sub (ws' := []) [] (by decide) rfl
  have hFc := va_free (wc := []) hD hS hA [] rfl
  have kzz_3 : (0 : Int32).toInt = 0 := by decide
  refine va_csi (va_runS (As := [.int 0]) (rest := [.long x_1.toInt64, .long 0]) ⟨hx, hb, hml, hown, hts⟩ (k_X7_worthOf l D c ts s.heap.size 0 0 (by decide) (by omega)) (cwS 1 hts gX7_lies_X7_worthOf rfl rfl rfl ⟨rfl, hdX7_worthOf⟩ ⟨(show 0 + 1 ≤ 1 by decide), (show 8 + (1 + 11) + 0 ≤ 20 by decide)⟩) ⟨Pre0.blind, Pre0.at hPc hDc hAm hSt hS hFc⟩ rfl rfl hl.1 rfl (lv_room (Nat.le_of_ble_eq_true rfl)) dX7_lies_19 ⟨(show 0 + 0 ≤ 0 by decide), (show 0 + 0 ≤ 0 by decide)⟩) (fun r_5 hw_4 => ?_)
  rcases hw_4 with ⟨hw_4, rfl⟩ | ⟨hw_4, rfl⟩ | ⟨hw_4, rfl⟩ | ⟨hw_4, rfl⟩ | ⟨hw_4, rfl⟩ | ⟨hw_4, rfl⟩
  · skip
    refine lv_i2l (v := 1) hx hb dX7_lies_22 (by decide) ?_
    refine lv_lmul hx hb dX7_lies_23 ?_
    refine lv_topl (fun x_6 ex_6 => ?_)
    have tx_6 : x_6.toInt = x_1.toInt * 1 := by rw [ex_6]; exact mul_tl (show (x_1.toInt64 : Int64).toInt = x_1.toInt from (ti_i2l rfl)) (show (1 : Int64).toInt = 1 from (by decide)) (by omega) (by omega)
    refine lv_ladd hx hb dX7_lies_24 ?_
    refine lv_topl (fun x_7 ex_7 => ?_)
    have tx_7 : x_7.toInt = 0 + (x_1.toInt * 1) := by rw [ex_7]; exact add_tl (show (0 : Int64).toInt = 0 from (by decide)) (show (x_6 : Int64).toInt = (x_1.toInt * 1) from tx_6) (by omega) (by omega)
    refine lv_lstore_n (lv' := [(1, .long x_7), (3, .int 0), (0, .ref A_self)]) hx hb dX7_lies_25 rfl hl (by decide) rfl (fun ls hl => ?_)
    refine lv_iinc (v := 1) (lv' := [(3, .int 1), (1, .long x_7), (0, .ref A_self)]) hx hb dX7_lies_26 hl (k := 1) rfl (by decide) (by decide) rfl (fun ls hl => ?_)
    refine lv_goto (tgt := 4) hx hb dX7_lies_29 (by decide) ?_
    refine lv_iload_n hx hb dX7_lies_4 rfl (lv_at hl 0 rfl) ?_
    refine lv_bipush (v := 6) hx hb dX7_lies_5 (by decide) ?_
    refine iicmp_geF (a := 1) (b := 6) (tgt := 32) hx hb (by decide) (by decide) dX7_lies_7 (by decide) (by decide) ?_
    refine lv_lload_n hx hb dX7_lies_10 rfl (lv_at hl 1 rfl) ?_
    refine lv_aload_n hx hb dX7_lies_11 rfl (lv_at hl 2 rfl) ?_
    refine va_get (D := D) (ci := 7) (v := .ref (q 55)) (C := RX7) (T := TX7) (N := 56) hx hb hts (fun _ h => List.mem_cons_of_mem _ (List.mem_append_right _ h)) hown hK hP 0 rfl rfl 55 (by decide) (hts (.fieldLink RX7 118 "CrownTableModel" "cloth" "[I") (mem_i 1 rfl)) (fun _ h9 => h9) rfl dX7_lies_12 ?_
    refine lv_iload_n hx hb dX7_lies_15 rfl (lv_at hl 0 rfl) ?_
    refine va_iald hx hb hK hP 1 1 rfl rfl (vin (a := 1) (by decide) (by decide) (by decide)) dX7_lies_16 ?_
    refine lv_topi (fun x_8 ex_8 => ?_)
    have lf_9 : (f_cloth 1).toInt = x_8.toInt := by rw [ex_8]; rfl
    refine lv_i2l hx hb dX7_lies_17 rfl ?_
    refine lv_iload_n hx hb dX7_lies_18 rfl (lv_at hl 0 rfl) ?_
    have hPc := hP.sub (ws' := []) [] rfl
    have hDc := hD.sub (ws' := []) [] (by decide) rfl
    have hFc := va_free (wc := []) hD hS hA [] rfl
    have kzz_10 : (1 : Int32).toInt = 1 := by decide
    refine va_csi (va_runS (As := [.int 1]) (rest := [.long x_8.toInt64, .long x_7]) ⟨hx, hb, hml, hown, hts⟩ (k_X7_worthOf l D c ts s.heap.size 1 1 (by decide) (by omega)) (cwS 1 hts gX7_lies_X7_worthOf rfl rfl rfl ⟨rfl, hdX7_worthOf⟩ ⟨(show 0 + 1 ≤ 1 by decide), (show 8 + (1 + 11) + 0 ≤ 20 by decide)⟩) ⟨Pre0.blind, Pre0.at hPc hDc hAm hSt hS hFc⟩ rfl rfl hl.1 rfl (lv_room (Nat.le_of_ble_eq_true rfl)) dX7_lies_19 ⟨(show 0 + 0 ≤ 0 by decide), (show 0 + 0 ≤ 0 by decide)⟩) (fun r_12 hw_11 => ?_)
    rcases hw_11 with ⟨hw_11, rfl⟩ | ⟨hw_11, rfl⟩ | ⟨hw_11, rfl⟩ | ⟨hw_11, rfl⟩ | ⟨hw_11, rfl⟩ | ⟨hw_11, rfl⟩
    · exfalso; omega
    · skip
      refine lv_i2l (v := 12) hx hb dX7_lies_22 (by decide) ?_
      refine lv_lmul hx hb dX7_lies_23 ?_
      refine lv_topl (fun x_13 ex_13 => ?_)
      have tx_13 : x_13.toInt = x_8.toInt * 12 := by rw [ex_13]; exact mul_tl (show (x_8.toInt64 : Int64).toInt = x_8.toInt from (ti_i2l rfl)) (show (12 : Int64).toInt = 12 from (by decide)) (by omega) (by omega)
      refine lv_ladd hx hb dX7_lies_24 ?_
      refine lv_topl (fun x_14 ex_14 => ?_)
      have tx_14 : x_14.toInt = (0 + (x_1.toInt * 1)) + (x_8.toInt * 12) := by rw [ex_14]; exact add_tl (show (x_7 : Int64).toInt = (0 + (x_1.toInt * 1)) from tx_7) (show (x_13 : Int64).toInt = (x_8.toInt * 12) from tx_13) (by omega) (by omega)
      refine lv_lstore_n (lv' := [(1, .long x_14), (3, .int 1), (0, .ref A_self)]) hx hb dX7_lies_25 rfl hl (by decide) rfl (fun ls hl => ?_)
      refine lv_iinc (v := 2) (lv' := [(3, .int 2), (1, .long x_14), (0, .ref A_self)]) hx hb dX7_lies_26 hl (k := 1) rfl (by decide) (by decide) rfl (fun ls hl => ?_)
      refine lv_goto (tgt := 4) hx hb dX7_lies_29 (by decide) ?_
      refine lv_iload_n hx hb dX7_lies_4 rfl (lv_at hl 0 rfl) ?_
      refine lv_bipush (v := 6) hx hb dX7_lies_5 (by decide) ?_
      refine iicmp_geF (a := 2) (b := 6) (tgt := 32) hx hb (by decide) (by decide) dX7_lies_7 (by decide) (by decide) ?_
      refine lv_lload_n hx hb dX7_lies_10 rfl (lv_at hl 1 rfl) ?_
      refine lv_aload_n hx hb dX7_lies_11 rfl (lv_at hl 2 rfl) ?_
      refine va_get (D := D) (ci := 7) (v := .ref (q 55)) (C := RX7) (T := TX7) (N := 56) hx hb hts (fun _ h => List.mem_cons_of_mem _ (List.mem_append_right _ h)) hown hK hP 0 rfl rfl 55 (by decide) (hts (.fieldLink RX7 118 "CrownTableModel" "cloth" "[I") (mem_i 1 rfl)) (fun _ h9 => h9) rfl dX7_lies_12 ?_
      refine lv_iload_n hx hb dX7_lies_15 rfl (lv_at hl 0 rfl) ?_
      refine va_iald hx hb hK hP 1 1 rfl rfl (vin (a := 2) (by decide) (by decide) (by decide)) dX7_lies_16 ?_
      refine lv_topi (fun x_15 ex_15 => ?_)
      have lf_16 : (f_cloth 2).toInt = x_15.toInt := by rw [ex_15]; rfl
      refine lv_i2l hx hb dX7_lies_17 rfl ?_
      refine lv_iload_n hx hb dX7_lies_18 rfl (lv_at hl 0 rfl) ?_
      have hPc := hP.sub (ws' := []) [] rfl
      have hDc := hD.sub (ws' := []) [] (by decide) rfl
      have hFc := va_free (wc := []) hD hS hA [] rfl
      have kzz_17 : (2 : Int32).toInt = 2 := by decide
      refine va_csi (va_runS (As := [.int 2]) (rest := [.long x_15.toInt64, .long x_14]) ⟨hx, hb, hml, hown, hts⟩ (k_X7_worthOf l D c ts s.heap.size 2 2 (by decide) (by omega)) (cwS 1 hts gX7_lies_X7_worthOf rfl rfl rfl ⟨rfl, hdX7_worthOf⟩ ⟨(show 0 + 1 ≤ 1 by decide), (show 8 + (1 + 11) + 0 ≤ 20 by decide)⟩) ⟨Pre0.blind, Pre0.at hPc hDc hAm hSt hS hFc⟩ rfl rfl hl.1 rfl (lv_room (Nat.le_of_ble_eq_true rfl)) dX7_lies_19 ⟨(show 0 + 0 ≤ 0 by decide), (show 0 + 0 ≤ 0 by decide)⟩) (fun r_19 hw_18 => ?_)
      rcases hw_18 with ⟨hw_18, rfl⟩ | ⟨hw_18, rfl⟩ | ⟨hw_18, rfl⟩ | ⟨hw_18, rfl⟩ | ⟨hw_18, rfl⟩ | ⟨hw_18, rfl⟩
      · exfalso; omega
      · exfalso; omega
      · skip
        refine lv_i2l (v := 240) hx hb dX7_lies_22 (by decide) ?_
        refine lv_lmul hx hb dX7_lies_23 ?_
        refine lv_topl (fun x_20 ex_20 => ?_)
        have tx_20 : x_20.toInt = x_15.toInt * 240 := by rw [ex_20]; exact mul_tl (show (x_15.toInt64 : Int64).toInt = x_15.toInt from (ti_i2l rfl)) (show (240 : Int64).toInt = 240 from (by decide)) (by omega) (by omega)
        refine lv_ladd hx hb dX7_lies_24 ?_
        refine lv_topl (fun x_21 ex_21 => ?_)
        have tx_21 : x_21.toInt = ((0 + (x_1.toInt * 1)) + (x_8.toInt * 12)) + (x_15.toInt * 240) := by rw [ex_21]; exact add_tl (show (x_14 : Int64).toInt = ((0 + (x_1.toInt * 1)) + (x_8.toInt * 12)) from tx_14) (show (x_20 : Int64).toInt = (x_15.toInt * 240) from tx_20) (by omega) (by omega)
        refine lv_lstore_n (lv' := [(1, .long x_21), (3, .int 2), (0, .ref A_self)]) hx hb dX7_lies_25 rfl hl (by decide) rfl (fun ls hl => ?_)
        refine lv_iinc (v := 3) (lv' := [(3, .int 3), (1, .long x_21), (0, .ref A_self)]) hx hb dX7_lies_26 hl (k := 1) rfl (by decide) (by decide) rfl (fun ls hl => ?_)
        refine lv_goto (tgt := 4) hx hb dX7_lies_29 (by decide) ?_
        refine lv_iload_n hx hb dX7_lies_4 rfl (lv_at hl 0 rfl) ?_
        refine lv_bipush (v := 6) hx hb dX7_lies_5 (by decide) ?_
        refine iicmp_geF (a := 3) (b := 6) (tgt := 32) hx hb (by decide) (by decide) dX7_lies_7 (by decide) (by decide) ?_
        refine lv_lload_n hx hb dX7_lies_10 rfl (lv_at hl 1 rfl) ?_
        refine lv_aload_n hx hb dX7_lies_11 rfl (lv_at hl 2 rfl) ?_
        refine va_get (D := D) (ci := 7) (v := .ref (q 55)) (C := RX7) (T := TX7) (N := 56) hx hb hts (fun _ h => List.mem_cons_of_mem _ (List.mem_append_right _ h)) hown hK hP 0 rfl rfl 55 (by decide) (hts (.fieldLink RX7 118 "CrownTableModel" "cloth" "[I") (mem_i 1 rfl)) (fun _ h9 => h9) rfl dX7_lies_12 ?_
        refine lv_iload_n hx hb dX7_lies_15 rfl (lv_at hl 0 rfl) ?_
        refine va_iald hx hb hK hP 1 1 rfl rfl (vin (a := 3) (by decide) (by decide) (by decide)) dX7_lies_16 ?_
        refine lv_topi (fun x_22 ex_22 => ?_)
        have lf_23 : (f_cloth 3).toInt = x_22.toInt := by rw [ex_22]; rfl
        refine lv_i2l hx hb dX7_lies_17 rfl ?_
        refine lv_iload_n hx hb dX7_lies_18 rfl (lv_at hl 0 rfl) ?_
        have hPc := hP.sub (ws' := []) [] rfl
        have hDc := hD.sub (ws' := []) [] (by decide) rfl
        have hFc := va_free (wc := []) hD hS hA [] rfl
        have kzz_24 : (3 : Int32).toInt = 3 := by decide
        refine va_csi (va_runS (As := [.int 3]) (rest := [.long x_22.toInt64, .long x_21]) ⟨hx, hb, hml, hown, hts⟩ (k_X7_worthOf l D c ts s.heap.size 3 3 (by decide) (by omega)) (cwS 1 hts gX7_lies_X7_worthOf rfl rfl rfl ⟨rfl, hdX7_worthOf⟩ ⟨(show 0 + 1 ≤ 1 by decide), (show 8 + (1 + 11) + 0 ≤ 20 by decide)⟩) ⟨Pre0.blind, Pre0.at hPc hDc hAm hSt hS hFc⟩ rfl rfl hl.1 rfl (lv_room (Nat.le_of_ble_eq_true rfl)) dX7_lies_19 ⟨(show 0 + 0 ≤ 0 by decide), (show 0 + 0 ≤ 0 by decide)⟩) (fun r_26 hw_25 => ?_)
        rcases hw_25 with ⟨hw_25, rfl⟩ | ⟨hw_25, rfl⟩ | ⟨hw_25, rfl⟩ | ⟨hw_25, rfl⟩ | ⟨hw_25, rfl⟩ | ⟨hw_25, rfl⟩
        · exfalso; omega
        · exfalso; omega
        · exfalso; omega
        · skip
          refine lv_i2l (v := 4800) hx hb dX7_lies_22 (by decide) ?_
          refine lv_lmul hx hb dX7_lies_23 ?_
          refine lv_topl (fun x_27 ex_27 => ?_)
          have tx_27 : x_27.toInt = x_22.toInt * 4800 := by rw [ex_27]; exact mul_tl (show (x_22.toInt64 : Int64).toInt = x_22.toInt from (ti_i2l rfl)) (show (4800 : Int64).toInt = 4800 from (by decide)) (by omega) (by omega)
          refine lv_ladd hx hb dX7_lies_24 ?_
          refine lv_topl (fun x_28 ex_28 => ?_)
          have tx_28 : x_28.toInt = (((0 + (x_1.toInt * 1)) + (x_8.toInt * 12)) + (x_15.toInt * 240)) + (x_22.toInt * 4800) := by rw [ex_28]; exact add_tl (show (x_21 : Int64).toInt = (((0 + (x_1.toInt * 1)) + (x_8.toInt * 12)) + (x_15.toInt * 240)) from tx_21) (show (x_27 : Int64).toInt = (x_22.toInt * 4800) from tx_27) (by omega) (by omega)
          refine lv_lstore_n (lv' := [(1, .long x_28), (3, .int 3), (0, .ref A_self)]) hx hb dX7_lies_25 rfl hl (by decide) rfl (fun ls hl => ?_)
          refine lv_iinc (v := 4) (lv' := [(3, .int 4), (1, .long x_28), (0, .ref A_self)]) hx hb dX7_lies_26 hl (k := 1) rfl (by decide) (by decide) rfl (fun ls hl => ?_)
          refine lv_goto (tgt := 4) hx hb dX7_lies_29 (by decide) ?_
          refine lv_iload_n hx hb dX7_lies_4 rfl (lv_at hl 0 rfl) ?_
          refine lv_bipush (v := 6) hx hb dX7_lies_5 (by decide) ?_
          refine iicmp_geF (a := 4) (b := 6) (tgt := 32) hx hb (by decide) (by decide) dX7_lies_7 (by decide) (by decide) ?_
          refine lv_lload_n hx hb dX7_lies_10 rfl (lv_at hl 1 rfl) ?_
          refine lv_aload_n hx hb dX7_lies_11 rfl (lv_at hl 2 rfl) ?_
          refine va_get (D := D) (ci := 7) (v := .ref (q 55)) (C := RX7) (T := TX7) (N := 56) hx hb hts (fun _ h => List.mem_cons_of_mem _ (List.mem_append_right _ h)) hown hK hP 0 rfl rfl 55 (by decide) (hts (.fieldLink RX7 118 "CrownTableModel" "cloth" "[I") (mem_i 1 rfl)) (fun _ h9 => h9) rfl dX7_lies_12 ?_
          refine lv_iload_n hx hb dX7_lies_15 rfl (lv_at hl 0 rfl) ?_
          refine va_iald hx hb hK hP 1 1 rfl rfl (vin (a := 4) (by decide) (by decide) (by decide)) dX7_lies_16 ?_
          refine lv_topi (fun x_29 ex_29 => ?_)
          have lf_30 : (f_cloth 4).toInt = x_29.toInt := by rw [ex_29]; rfl
          refine lv_i2l hx hb dX7_lies_17 rfl ?_
          refine lv_iload_n hx hb dX7_lies_18 rfl (lv_at hl 0 rfl) ?_
          have hPc := hP.sub (ws' := []) [] rfl
          have hDc := hD.sub (ws' := []) [] (by decide) rfl
          have hFc := va_free (wc := []) hD hS hA [] rfl
          have kzz_31 : (4 : Int32).toInt = 4 := by decide
          refine va_csi (va_runS (As := [.int 4]) (rest := [.long x_29.toInt64, .long x_28]) ⟨hx, hb, hml, hown, hts⟩ (k_X7_worthOf l D c ts s.heap.size 4 4 (by decide) (by omega)) (cwS 1 hts gX7_lies_X7_worthOf rfl rfl rfl ⟨rfl, hdX7_worthOf⟩ ⟨(show 0 + 1 ≤ 1 by decide), (show 8 + (1 + 11) + 0 ≤ 20 by decide)⟩) ⟨Pre0.blind, Pre0.at hPc hDc hAm hSt hS hFc⟩ rfl rfl hl.1 rfl (lv_room (Nat.le_of_ble_eq_true rfl)) dX7_lies_19 ⟨(show 0 + 0 ≤ 0 by decide), (show 0 + 0 ≤ 0 by decide)⟩) (fun r_33 hw_32 => ?_)
          rcases hw_32 with ⟨hw_32, rfl⟩ | ⟨hw_32, rfl⟩ | ⟨hw_32, rfl⟩ | ⟨hw_32, rfl⟩ | ⟨hw_32, rfl⟩ | ⟨hw_32, rfl⟩
          · exfalso; omega
          · exfalso; omega
          · exfalso; omega
          · exfalso; omega
          · skip
            refine lv_i2l (v := 24000) hx hb dX7_lies_22 (by decide) ?_
            refine lv_lmul hx hb dX7_lies_23 ?_
            refine lv_topl (fun x_34 ex_34 => ?_)
            have tx_34 : x_34.toInt = x_29.toInt * 24000 := by rw [ex_34]; exact mul_tl (show (x_29.toInt64 : Int64).toInt = x_29.toInt from (ti_i2l rfl)) (show (24000 : Int64).toInt = 24000 from (by decide)) (by omega) (by omega)
            refine lv_ladd hx hb dX7_lies_24 ?_
            refine lv_topl (fun x_35 ex_35 => ?_)
            have tx_35 : x_35.toInt = ((((0 + (x_1.toInt * 1)) + (x_8.toInt * 12)) + (x_15.toInt * 240)) + (x_22.toInt * 4800)) + (x_29.toInt * 24000) := by rw [ex_35]; exact add_tl (show (x_28 : Int64).toInt = ((((0 + (x_1.toInt * 1)) + (x_8.toInt * 12)) + (x_15.toInt * 240)) + (x_22.toInt * 4800)) from tx_28) (show (x_34 : Int64).toInt = (x_29.toInt * 24000) from tx_34) (by omega) (by omega)
            refine lv_lstore_n (lv' := [(1, .long x_35), (3, .int 4), (0, .ref A_self)]) hx hb dX7_lies_25 rfl hl (by decide) rfl (fun ls hl => ?_)
            refine lv_iinc (v := 5) (lv' := [(3, .int 5), (1, .long x_35), (0, .ref A_self)]) hx hb dX7_lies_26 hl (k := 1) rfl (by decide) (by decide) rfl (fun ls hl => ?_)
            refine lv_goto (tgt := 4) hx hb dX7_lies_29 (by decide) ?_
            refine lv_iload_n hx hb dX7_lies_4 rfl (lv_at hl 0 rfl) ?_
            refine lv_bipush (v := 6) hx hb dX7_lies_5 (by decide) ?_
            refine iicmp_geF (a := 5) (b := 6) (tgt := 32) hx hb (by decide) (by decide) dX7_lies_7 (by decide) (by decide) ?_
            refine lv_lload_n hx hb dX7_lies_10 rfl (lv_at hl 1 rfl) ?_
            refine lv_aload_n hx hb dX7_lies_11 rfl (lv_at hl 2 rfl) ?_
            refine va_get (D := D) (ci := 7) (v := .ref (q 55)) (C := RX7) (T := TX7) (N := 56) hx hb hts (fun _ h => List.mem_cons_of_mem _ (List.mem_append_right _ h)) hown hK hP 0 rfl rfl 55 (by decide) (hts (.fieldLink RX7 118 "CrownTableModel" "cloth" "[I") (mem_i 1 rfl)) (fun _ h9 => h9) rfl dX7_lies_12 ?_
            refine lv_iload_n hx hb dX7_lies_15 rfl (lv_at hl 0 rfl) ?_
            refine va_iald hx hb hK hP 1 1 rfl rfl (vin (a := 5) (by decide) (by decide) (by decide)) dX7_lies_16 ?_
            refine lv_topi (fun x_36 ex_36 => ?_)
            have lf_37 : (f_cloth 5).toInt = x_36.toInt := by rw [ex_36]; rfl
            refine lv_i2l hx hb dX7_lies_17 rfl ?_
            refine lv_iload_n hx hb dX7_lies_18 rfl (lv_at hl 0 rfl) ?_
            have hPc := hP.sub (ws' := []) [] rfl
            have hDc := hD.sub (ws' := []) [] (by decide) rfl
            have hFc := va_free (wc := []) hD hS hA [] rfl
            have kzz_38 : (5 : Int32).toInt = 5 := by decide
            refine va_csi (va_runS (As := [.int 5]) (rest := [.long x_36.toInt64, .long x_35]) ⟨hx, hb, hml, hown, hts⟩ (k_X7_worthOf l D c ts s.heap.size 5 5 (by decide) (by omega)) (cwS 1 hts gX7_lies_X7_worthOf rfl rfl rfl ⟨rfl, hdX7_worthOf⟩ ⟨(show 0 + 1 ≤ 1 by decide), (show 8 + (1 + 11) + 0 ≤ 20 by decide)⟩) ⟨Pre0.blind, Pre0.at hPc hDc hAm hSt hS hFc⟩ rfl rfl hl.1 rfl (lv_room (Nat.le_of_ble_eq_true rfl)) dX7_lies_19 ⟨(show 0 + 0 ≤ 0 by decide), (show 0 + 0 ≤ 0 by decide)⟩) (fun r_40 hw_39 => ?_)
            rcases hw_39 with ⟨hw_39, rfl⟩ | ⟨hw_39, rfl⟩ | ⟨hw_39, rfl⟩ | ⟨hw_39, rfl⟩ | ⟨hw_39, rfl⟩ | ⟨hw_39, rfl⟩
            · exfalso; omega
            · exfalso; omega
            · exfalso; omega
            · exfalso; omega
            · exfalso; omega
            · skip
              refine lv_i2l (v := 240000) hx hb dX7_lies_22 (by decide) ?_
              refine lv_lmul hx hb dX7_lies_23 ?_
              refine lv_topl (fun x_41 ex_41 => ?_)
              have tx_41 : x_41.toInt = x_36.toInt * 240000 := by rw [ex_41]; exact mul_tl (show (x_36.toInt64 : Int64).toInt = x_36.toInt from (ti_i2l rfl)) (show (240000 : Int64).toInt = 240000 from (by decide)) (by omega) (by omega)
              refine lv_ladd hx hb dX7_lies_24 ?_
              refine lv_topl (fun x_42 ex_42 => ?_)
              have tx_42 : x_42.toInt = (((((0 + (x_1.toInt * 1)) + (x_8.toInt * 12)) + (x_15.toInt * 240)) + (x_22.toInt * 4800)) + (x_29.toInt * 24000)) + (x_36.toInt * 240000) := by rw [ex_42]; exact add_tl (show (x_35 : Int64).toInt = (((((0 + (x_1.toInt * 1)) + (x_8.toInt * 12)) + (x_15.toInt * 240)) + (x_22.toInt * 4800)) + (x_29.toInt * 24000)) from tx_35) (show (x_41 : Int64).toInt = (x_36.toInt * 240000) from tx_41) (by omega) (by omega)
              refine lv_lstore_n (lv' := [(1, .long x_42), (3, .int 5), (0, .ref A_self)]) hx hb dX7_lies_25 rfl hl (by decide) rfl (fun ls hl => ?_)
              refine lv_iinc (v := 6) (lv' := [(3, .int 6), (1, .long x_42), (0, .ref A_self)]) hx hb dX7_lies_26 hl (k := 1) rfl (by decide) (by decide) rfl (fun ls hl => ?_)
              refine lv_goto (tgt := 4) hx hb dX7_lies_29 (by decide) ?_
              refine lv_iload_n hx hb dX7_lies_4 rfl (lv_at hl 0 rfl) ?_
              refine lv_bipush (v := 6) hx hb dX7_lies_5 (by decide) ?_
              refine iicmp_geT (a := 6) (b := 6) (tgt := 32) hx hb (by decide) (by decide) dX7_lies_7 (by decide) (by decide) ?_
              refine lv_lload_n hx hb dX7_lies_32 rfl (lv_at hl 1 rfl) ?_
              exact W.lret (v := x_42) hx hb hr (fun t ht hW => ⟨_, rfl, (by omega), ht⟩) (fun _ h => by cases h) dX7_lies_33
          · exfalso; omega
        · exfalso; omega
        · exfalso; omega
      · exfalso; omega
      · exfalso; omega
      · exfalso; omega
    · exfalso; omega
    · exfalso; omega
    · exfalso; omega
    · exfalso; omega
  · exfalso; omega
  · exfalso; omega
  · exfalso; omega
  · exfalso; omega
  · exfalso; omega

set_option maxHeartbeats 4000000 in
set_option maxRecDepth 100000 in
theorem k_X7_lay (l : Launch) (D : va_G) (c : Nat → ClassId) (ts : Nat × Nat) (sz : Nat) (A_self : Nat) (q : Nat → Nat) (v : Nat → Int32) (w : Nat → Int64) (f_cloth : Nat → Int32) (cb : Int) (a1 : Int32) (i_a1 : Int) (hi_a1 : a1.toInt = i_a1) (hv_2 : 0 ≤ (v 2).toInt ∧ (v 2).toInt ≤ 800) (hv_8 : 0 ≤ (v 8).toInt ∧ (v 8).toInt ≤ 10) (hv_21 : 0 ≤ (v 21).toInt ∧ (v 21).toInt ≤ 40) (hv_24 : 0 ≤ (v 24).toInt ∧ (v 24).toInt ≤ 1000) (hv_27 : 0 ≤ (v 27).toInt ∧ (v 27).toInt ≤ 400) (hv_42 : 0 ≤ (v 42).toInt ∧ (v 42).toInt ≤ 4000) (hv_52 : 0 ≤ (v 52).toInt ∧ (v 52).toInt ≤ 2000) (hq0 : 0 ≤ (f_cloth 0).toInt ∧ (f_cloth 0).toInt ≤ 11) (hq1 : 0 ≤ (f_cloth 1).toInt ∧ (f_cloth 1).toInt ≤ 19) (hq2 : 0 ≤ (f_cloth 2).toInt ∧ (f_cloth 2).toInt ≤ 19) (hq3 : 0 ≤ (f_cloth 3).toInt ∧ (f_cloth 3).toInt ≤ 4) (hq4 : 0 ≤ (f_cloth 4).toInt ∧ (f_cloth 4).toInt ≤ 9) (hq5 : 0 ≤ (f_cloth 5).toInt ∧ (f_cloth 5).toInt ≤ 1000000) (hq6 : (f_cloth 5).toInt ≤ cb ∧ cb ≤ 900000) : Met l yX7_lay wsX7_lay ({ frames := 2, cells := 0, slots := 0, locals := 41 }) (va_Pc [.ref A_self, .int a1] (Pre0 D c ts [(A_self, .inr (7, o7 q v w)), (q 55, .inl (c 1, 6, .inl f_cloth))] sz)) (va_Qi (fun (r : Int32) (u : (Nat → Int32) × Unit) => (0 ≤ (u.1 0).toInt ∧ (u.1 0).toInt ≤ 11) ∧ (0 ≤ (u.1 1).toInt ∧ (u.1 1).toInt ≤ 19) ∧ (0 ≤ (u.1 2).toInt ∧ (u.1 2).toInt ≤ 19) ∧ (0 ≤ (u.1 3).toInt ∧ (u.1 3).toInt ≤ 4) ∧ (0 ≤ (u.1 4).toInt ∧ (u.1 4).toInt ≤ 9) ∧ (0 ≤ (u.1 5).toInt ∧ (u.1 5).toInt ≤ cb + 5)) (fun u t => va_P D vwCl [(A_self, .inr (7, o7 q v w)), (q 55, .inl (c 1, 6, .inl u.1))] t.heap ∧ va_D (va_A [(A_self, .inr (7, o7 q v w)), (q 55, .inl (c 1, 6, .inl f_cloth))] sz) [(A_self, .inr (7, o7 q v w)), (q 55, .inl (c 1, 6, .inl u.1))]) (va_A [(A_self, .inr (7, o7 q v w)), (q 55, .inl (c 1, 6, .inl f_cloth))] sz)) 0 0 (va_A [(A_self, .inr (7, o7 q v w)), (q 55, .inl (c 1, 6, .inl f_cloth))] sz) := by
  refine Met.ofW (cc := cX7_lay) (maxL := 4) (ret := (some .int)) (by decide) rfl ?_
  intro p e s m args below meth cd s₁ B hml hv
  obtain ⟨rfl, hsz, hP, hD0, hAm, hSt⟩ := hv
  have hx := B.exec
  have hb := B.bytes
  have hr := B.returns
  have hts := atoms_spec (ws := wsX7_lay) B.pre
  have hown : s.vm.findClass RX7 = some m.cls := findClass_of_methodNamed B.named
  have hlocks := B.notSynchronized
  have hK := hAm.1
  subst hsz
  have hD := hD0.self (sz := s.heap.size)
  generalize hAe : va_A [(A_self, .inr (7, o7 q v w)), (q 55, .inl (c 1, 6, .inl f_cloth))] s.heap.size = A at hD hSt ⊢
  have hA : ∀ q : Nat, s.heap.size ≤ q → A q := fun q h => by rw [← hAe]; exact Or.inr h
  have hS : va_S A s.heap s.heap [] := va_S.rf
  clear hD0 hAe
  have hl := lv_entry ([.ref A_self, .int a1]) (n := 4) (Nat.le_of_ble_eq_true rfl)
  rw [lg_entry_eq]
  generalize (lg_sl ([.ref A_self, .int a1]) ++ List.replicate (4 - (lg_sl ([.ref A_self, .int a1])).length) Slot.unset).toArray = ls at hl ⊢
  have hl : lv_has ls 4 [(0, .ref A_self), (1, .int a1)] := hl
  have rg_a1 := i32r a1
  refine lv_iload_n hx hb dX7_lay_0 rfl (lv_at hl 1 rfl) ?_
  refine lv_iconst (v := 1) hx hb dX7_lay_1 (by decide) ?_
  refine lv_ldcw (v := 1000000) hx hb hown (hts (.constant RX7 284 (1000000)) (mem_i 1 rfl)) dX7_lay_2 ?_
  have hPc := hP.sub (ws' := []) [] rfl
  have hDc := hD.sub (ws' := []) [] (by decide) rfl
  have hFc := va_free (wc := []) hD hS hA [] rfl
  have kzz_1 : (1 : Int32).toInt = 1 := by decide
  have kzz_2 : (1000000 : Int32).toInt = 1000000 := by decide
  refine va_csi (va_runS (As := [.int a1, .int 1, .int 1000000]) (rest := []) ⟨hx, hb, hml, hown, hts⟩ (k_X7_in l D c ts s.heap.size a1 i_a1 hi_a1 1 1 (by decide) 1000000 1000000 (by decide)) (cwS 3 hts gX7_lay_X7_in rfl rfl rfl ⟨rfl, hdX7_in⟩ ⟨(show 0 + 1 ≤ 2 by decide), (show 8 + (3 + 11) + 0 ≤ 41 by decide)⟩) ⟨Pre0.blind, Pre0.at hPc hDc hAm hSt hS hFc⟩ rfl rfl hl.1 rfl (lv_room (Nat.le_of_ble_eq_true rfl)) dX7_lay_5 ⟨(show 0 + 0 ≤ 0 by decide), (show 0 + 0 ≤ 0 by decide)⟩) (fun r_4 hw_3 => ?_)
  rcases hw_3 with ⟨hw_3, rfl⟩ | ⟨hw_3, rfl⟩
  · skip
    refine iif_neT (a := 1) (tgt := 13) hx hb (by decide) dX7_lay_8 (by decide) (by decide) ?_
    refine lv_iconst (v := 0) hx hb dX7_lay_13 (by decide) ?_
    refine lv_istore_n (lv' := [(2, .int 0), (0, .ref A_self), (1, .int a1)]) hx hb dX7_lay_14 rfl hl (by decide) rfl (fun ls hl => ?_)
    refine lv_iload_n hx hb dX7_lay_15 rfl (lv_at hl 0 rfl) ?_
    refine lv_bipush (v := 6) hx hb dX7_lay_16 (by decide) ?_
    refine iicmp_geF (a := 0) (b := 6) (tgt := 41) hx hb (by decide) (by decide) dX7_lay_18 (by decide) (by decide) ?_
    refine lv_aload_n hx hb dX7_lay_21 rfl (lv_at hl 1 rfl) ?_
    refine va_get (D := D) (ci := 7) (v := .ref (q 55)) (C := RX7) (T := TX7) (N := 56) hx hb hts (fun _ h => List.mem_cons_of_mem _ (List.mem_append_right _ h)) hown hK hP 0 rfl rfl 55 (by decide) (hts (.fieldLink RX7 118 "CrownTableModel" "cloth" "[I") (mem_i 2 rfl)) (fun _ h9 => h9) rfl dX7_lay_22 ?_
    refine lv_iload_n hx hb dX7_lay_25 rfl (lv_at hl 0 rfl) ?_
    refine lv_dup2_11 hx hb dX7_lay_26 rfl rfl ?_
    refine va_iald hx hb hK hP 1 1 rfl rfl (vin (a := 0) (by decide) (by decide) (by decide)) dX7_lay_27 ?_
    refine lv_topi (fun x_5 ex_5 => ?_)
    have lf_6 : (f_cloth 0).toInt = x_5.toInt := by rw [ex_5]; rfl
    refine lv_iload_n hx hb dX7_lay_28 rfl (lv_at hl 2 rfl) ?_
    refine lv_iload_n hx hb dX7_lay_29 rfl (lv_at hl 0 rfl) ?_
    have hPc := hP.sub (ws' := []) [] rfl
    have hDc := hD.sub (ws' := []) [] (by decide) rfl
    have hFc := va_free (wc := []) hD hS hA [] rfl
    have kzz_7 : (0 : Int32).toInt = 0 := by decide
    refine va_csi (va_runS (As := [.int a1, .int 0]) (rest := [.int x_5, .int 0, .ref (q 55)]) ⟨hx, hb, hml, hown, hts⟩ (k_X7_notch_P l D c ts s.heap.size a1 i_a1 hi_a1 0 0 (by decide) (by omega) (by omega)) (cwS 2 hts gX7_lay_X7_notch rfl rfl rfl ⟨rfl, hdX7_notch⟩ ⟨(show 1 + 1 ≤ 2 by decide), (show 8 + (2 + 11) + 20 ≤ 41 by decide)⟩) ⟨Pre0.blind, Pre0.at hPc hDc hAm hSt hS hFc⟩ rfl rfl hl.1 rfl (lv_room (Nat.le_of_ble_eq_true rfl)) dX7_lay_30 ⟨(show 0 + 0 ≤ 0 by decide), (show 0 + 0 ≤ 0 by decide)⟩) (fun r_9 hw_8 => ?_)
    have nf_10 := hw_8.2.1 rfl
    have nf_11 := hw_8.1
    clear hw_8
    have rg_r_9 := i32r r_9
    refine lv_iadd hx hb dX7_lay_33 ?_
    refine lv_topi (fun x_12 ex_12 => ?_)
    have tx_12 : x_12.toInt = (x_5.toInt + r_9.toInt) := by rw [ex_12]; exact add_ti (a := x_5.toInt) (b := r_9.toInt) rfl rfl (by omega) (by omega)
    refine va_iast hx hb hK hP hD hS 1 1 rfl rfl (vin (a := 0) (by decide) (by decide) (by decide)) dX7_lay_34 (fun H locs hP hD hS => ?_)
    obtain ⟨f_13, ef_13, hP, hD⟩ : ∃ f_13 : Nat → Int32, f_13 = upd f_cloth (0 : Int32).toNatClampNeg x_12 ∧ va_P D vwCl [(A_self, .inr (7, o7 q v w)), (q 55, .inl (c 1, 6, .inl f_13))] H ∧ va_D A [(A_self, .inr (7, o7 q v w)), (q 55, .inl (c 1, 6, .inl f_13))] := ⟨_, rfl, hP, hD⟩
    have cl_14 : (f_13 0).toInt = x_12.toInt := by rw [ef_13]; rfl
    have cl_15 : (f_13 1).toInt = (f_cloth 1).toInt := by rw [ef_13]; rfl
    have cl_16 : (f_13 2).toInt = (f_cloth 2).toInt := by rw [ef_13]; rfl
    have cl_17 : (f_13 3).toInt = (f_cloth 3).toInt := by rw [ef_13]; rfl
    have cl_18 : (f_13 4).toInt = (f_cloth 4).toInt := by rw [ef_13]; rfl
    have cl_19 : (f_13 5).toInt = (f_cloth 5).toInt := by rw [ef_13]; rfl
    refine lv_iinc (v := 1) (lv' := [(2, .int 1), (0, .ref A_self), (1, .int a1)]) hx hb dX7_lay_35 hl (k := 0) rfl (by decide) (by decide) rfl (fun ls hl => ?_)
    refine lv_goto (tgt := 15) hx hb dX7_lay_38 (by decide) ?_
    refine lv_iload_n hx hb dX7_lay_15 rfl (lv_at hl 0 rfl) ?_
    refine lv_bipush (v := 6) hx hb dX7_lay_16 (by decide) ?_
    refine iicmp_geF (a := 1) (b := 6) (tgt := 41) hx hb (by decide) (by decide) dX7_lay_18 (by decide) (by decide) ?_
    refine lv_aload_n hx hb dX7_lay_21 rfl (lv_at hl 1 rfl) ?_
    refine va_get (D := D) (ci := 7) (v := .ref (q 55)) (C := RX7) (T := TX7) (N := 56) hx hb hts (fun _ h => List.mem_cons_of_mem _ (List.mem_append_right _ h)) hown hK hP 0 rfl rfl 55 (by decide) (hts (.fieldLink RX7 118 "CrownTableModel" "cloth" "[I") (mem_i 2 rfl)) (fun _ h9 => h9) rfl dX7_lay_22 ?_
    refine lv_iload_n hx hb dX7_lay_25 rfl (lv_at hl 0 rfl) ?_
    refine lv_dup2_11 hx hb dX7_lay_26 rfl rfl ?_
    refine va_iald hx hb hK hP 1 1 rfl rfl (vin (a := 1) (by decide) (by decide) (by decide)) dX7_lay_27 ?_
    refine lv_topi (fun x_20 ex_20 => ?_)
    have lf_21 : (f_13 1).toInt = x_20.toInt := by rw [ex_20]; rfl
    refine lv_iload_n hx hb dX7_lay_28 rfl (lv_at hl 2 rfl) ?_
    refine lv_iload_n hx hb dX7_lay_29 rfl (lv_at hl 0 rfl) ?_
    have hPc := hP.sub (ws' := []) [] rfl
    have hDc := hD.sub (ws' := []) [] (by decide) rfl
    have hFc := va_free (wc := []) hD hS hA [] rfl
    have kzz_22 : (1 : Int32).toInt = 1 := by decide
    refine va_csi (va_runS (As := [.int a1, .int 1]) (rest := [.int x_20, .int 1, .ref (q 55)]) ⟨hx, hb, hml, hown, hts⟩ (k_X7_notch_P l D c ts H.size a1 i_a1 hi_a1 1 1 (by decide) (by omega) (by omega)) (cwS 2 hts gX7_lay_X7_notch rfl rfl rfl ⟨rfl, hdX7_notch⟩ ⟨(show 1 + 1 ≤ 2 by decide), (show 8 + (2 + 11) + 20 ≤ 41 by decide)⟩) ⟨Pre0.blind, Pre0.at hPc hDc hAm hSt hS hFc⟩ rfl rfl hl.1 rfl (lv_room (Nat.le_of_ble_eq_true rfl)) dX7_lay_30 ⟨(show 0 + 0 ≤ 0 by decide), (show 0 + 0 ≤ 0 by decide)⟩) (fun r_24 hw_23 => ?_)
    have nf_25 := hw_23.2.2.1 rfl
    have nf_26 := hw_23.1
    clear hw_23
    have rg_r_24 := i32r r_24
    refine lv_iadd hx hb dX7_lay_33 ?_
    refine lv_topi (fun x_27 ex_27 => ?_)
    have tx_27 : x_27.toInt = (x_20.toInt + r_24.toInt) := by rw [ex_27]; exact add_ti (a := x_20.toInt) (b := r_24.toInt) rfl rfl (by omega) (by omega)
    refine va_iast hx hb hK hP hD hS 1 1 rfl rfl (vin (a := 1) (by decide) (by decide) (by decide)) dX7_lay_34 (fun H locs hP hD hS => ?_)
    obtain ⟨f_28, ef_28, hP, hD⟩ : ∃ f_28 : Nat → Int32, f_28 = upd f_13 (1 : Int32).toNatClampNeg x_27 ∧ va_P D vwCl [(A_self, .inr (7, o7 q v w)), (q 55, .inl (c 1, 6, .inl f_28))] H ∧ va_D A [(A_self, .inr (7, o7 q v w)), (q 55, .inl (c 1, 6, .inl f_28))] := ⟨_, rfl, hP, hD⟩
    have cl_29 : (f_28 0).toInt = (f_13 0).toInt := by rw [ef_28]; rfl
    have cl_30 : (f_28 1).toInt = x_27.toInt := by rw [ef_28]; rfl
    have cl_31 : (f_28 2).toInt = (f_13 2).toInt := by rw [ef_28]; rfl
    have cl_32 : (f_28 3).toInt = (f_13 3).toInt := by rw [ef_28]; rfl
    have cl_33 : (f_28 4).toInt = (f_13 4).toInt := by rw [ef_28]; rfl
    have cl_34 : (f_28 5).toInt = (f_13 5).toInt := by rw [ef_28]; rfl
    refine lv_iinc (v := 2) (lv' := [(2, .int 2), (0, .ref A_self), (1, .int a1)]) hx hb dX7_lay_35 hl (k := 0) rfl (by decide) (by decide) rfl (fun ls hl => ?_)
    refine lv_goto (tgt := 15) hx hb dX7_lay_38 (by decide) ?_
    refine lv_iload_n hx hb dX7_lay_15 rfl (lv_at hl 0 rfl) ?_
    refine lv_bipush (v := 6) hx hb dX7_lay_16 (by decide) ?_
    refine iicmp_geF (a := 2) (b := 6) (tgt := 41) hx hb (by decide) (by decide) dX7_lay_18 (by decide) (by decide) ?_
    refine lv_aload_n hx hb dX7_lay_21 rfl (lv_at hl 1 rfl) ?_
    refine va_get (D := D) (ci := 7) (v := .ref (q 55)) (C := RX7) (T := TX7) (N := 56) hx hb hts (fun _ h => List.mem_cons_of_mem _ (List.mem_append_right _ h)) hown hK hP 0 rfl rfl 55 (by decide) (hts (.fieldLink RX7 118 "CrownTableModel" "cloth" "[I") (mem_i 2 rfl)) (fun _ h9 => h9) rfl dX7_lay_22 ?_
    refine lv_iload_n hx hb dX7_lay_25 rfl (lv_at hl 0 rfl) ?_
    refine lv_dup2_11 hx hb dX7_lay_26 rfl rfl ?_
    refine va_iald hx hb hK hP 1 1 rfl rfl (vin (a := 2) (by decide) (by decide) (by decide)) dX7_lay_27 ?_
    refine lv_topi (fun x_35 ex_35 => ?_)
    have lf_36 : (f_28 2).toInt = x_35.toInt := by rw [ex_35]; rfl
    refine lv_iload_n hx hb dX7_lay_28 rfl (lv_at hl 2 rfl) ?_
    refine lv_iload_n hx hb dX7_lay_29 rfl (lv_at hl 0 rfl) ?_
    have hPc := hP.sub (ws' := []) [] rfl
    have hDc := hD.sub (ws' := []) [] (by decide) rfl
    have hFc := va_free (wc := []) hD hS hA [] rfl
    have kzz_37 : (2 : Int32).toInt = 2 := by decide
    refine va_csi (va_runS (As := [.int a1, .int 2]) (rest := [.int x_35, .int 2, .ref (q 55)]) ⟨hx, hb, hml, hown, hts⟩ (k_X7_notch_P l D c ts H.size a1 i_a1 hi_a1 2 2 (by decide) (by omega) (by omega)) (cwS 2 hts gX7_lay_X7_notch rfl rfl rfl ⟨rfl, hdX7_notch⟩ ⟨(show 1 + 1 ≤ 2 by decide), (show 8 + (2 + 11) + 20 ≤ 41 by decide)⟩) ⟨Pre0.blind, Pre0.at hPc hDc hAm hSt hS hFc⟩ rfl rfl hl.1 rfl (lv_room (Nat.le_of_ble_eq_true rfl)) dX7_lay_30 ⟨(show 0 + 0 ≤ 0 by decide), (show 0 + 0 ≤ 0 by decide)⟩) (fun r_39 hw_38 => ?_)
    have nf_40 := hw_38.2.2.2.1 rfl
    have nf_41 := hw_38.1
    clear hw_38
    have rg_r_39 := i32r r_39
    refine lv_iadd hx hb dX7_lay_33 ?_
    refine lv_topi (fun x_42 ex_42 => ?_)
    have tx_42 : x_42.toInt = (x_35.toInt + r_39.toInt) := by rw [ex_42]; exact add_ti (a := x_35.toInt) (b := r_39.toInt) rfl rfl (by omega) (by omega)
    refine va_iast hx hb hK hP hD hS 1 1 rfl rfl (vin (a := 2) (by decide) (by decide) (by decide)) dX7_lay_34 (fun H locs hP hD hS => ?_)
    obtain ⟨f_43, ef_43, hP, hD⟩ : ∃ f_43 : Nat → Int32, f_43 = upd f_28 (2 : Int32).toNatClampNeg x_42 ∧ va_P D vwCl [(A_self, .inr (7, o7 q v w)), (q 55, .inl (c 1, 6, .inl f_43))] H ∧ va_D A [(A_self, .inr (7, o7 q v w)), (q 55, .inl (c 1, 6, .inl f_43))] := ⟨_, rfl, hP, hD⟩
    have cl_44 : (f_43 0).toInt = (f_28 0).toInt := by rw [ef_43]; rfl
    have cl_45 : (f_43 1).toInt = (f_28 1).toInt := by rw [ef_43]; rfl
    have cl_46 : (f_43 2).toInt = x_42.toInt := by rw [ef_43]; rfl
    have cl_47 : (f_43 3).toInt = (f_28 3).toInt := by rw [ef_43]; rfl
    have cl_48 : (f_43 4).toInt = (f_28 4).toInt := by rw [ef_43]; rfl
    have cl_49 : (f_43 5).toInt = (f_28 5).toInt := by rw [ef_43]; rfl
    refine lv_iinc (v := 3) (lv' := [(2, .int 3), (0, .ref A_self), (1, .int a1)]) hx hb dX7_lay_35 hl (k := 0) rfl (by decide) (by decide) rfl (fun ls hl => ?_)
    refine lv_goto (tgt := 15) hx hb dX7_lay_38 (by decide) ?_
    refine lv_iload_n hx hb dX7_lay_15 rfl (lv_at hl 0 rfl) ?_
    refine lv_bipush (v := 6) hx hb dX7_lay_16 (by decide) ?_
    refine iicmp_geF (a := 3) (b := 6) (tgt := 41) hx hb (by decide) (by decide) dX7_lay_18 (by decide) (by decide) ?_
    refine lv_aload_n hx hb dX7_lay_21 rfl (lv_at hl 1 rfl) ?_
    refine va_get (D := D) (ci := 7) (v := .ref (q 55)) (C := RX7) (T := TX7) (N := 56) hx hb hts (fun _ h => List.mem_cons_of_mem _ (List.mem_append_right _ h)) hown hK hP 0 rfl rfl 55 (by decide) (hts (.fieldLink RX7 118 "CrownTableModel" "cloth" "[I") (mem_i 2 rfl)) (fun _ h9 => h9) rfl dX7_lay_22 ?_
    refine lv_iload_n hx hb dX7_lay_25 rfl (lv_at hl 0 rfl) ?_
    refine lv_dup2_11 hx hb dX7_lay_26 rfl rfl ?_
    refine va_iald hx hb hK hP 1 1 rfl rfl (vin (a := 3) (by decide) (by decide) (by decide)) dX7_lay_27 ?_
    refine lv_topi (fun x_50 ex_50 => ?_)
    have lf_51 : (f_43 3).toInt = x_50.toInt := by rw [ex_50]; rfl
    refine lv_iload_n hx hb dX7_lay_28 rfl (lv_at hl 2 rfl) ?_
    refine lv_iload_n hx hb dX7_lay_29 rfl (lv_at hl 0 rfl) ?_
    have hPc := hP.sub (ws' := []) [] rfl
    have hDc := hD.sub (ws' := []) [] (by decide) rfl
    have hFc := va_free (wc := []) hD hS hA [] rfl
    have kzz_52 : (3 : Int32).toInt = 3 := by decide
    refine va_csi (va_runS (As := [.int a1, .int 3]) (rest := [.int x_50, .int 3, .ref (q 55)]) ⟨hx, hb, hml, hown, hts⟩ (k_X7_notch_P l D c ts H.size a1 i_a1 hi_a1 3 3 (by decide) (by omega) (by omega)) (cwS 2 hts gX7_lay_X7_notch rfl rfl rfl ⟨rfl, hdX7_notch⟩ ⟨(show 1 + 1 ≤ 2 by decide), (show 8 + (2 + 11) + 20 ≤ 41 by decide)⟩) ⟨Pre0.blind, Pre0.at hPc hDc hAm hSt hS hFc⟩ rfl rfl hl.1 rfl (lv_room (Nat.le_of_ble_eq_true rfl)) dX7_lay_30 ⟨(show 0 + 0 ≤ 0 by decide), (show 0 + 0 ≤ 0 by decide)⟩) (fun r_54 hw_53 => ?_)
    have nf_55 := hw_53.2.2.2.2.1 rfl
    have nf_56 := hw_53.1
    clear hw_53
    have rg_r_54 := i32r r_54
    refine lv_iadd hx hb dX7_lay_33 ?_
    refine lv_topi (fun x_57 ex_57 => ?_)
    have tx_57 : x_57.toInt = (x_50.toInt + r_54.toInt) := by rw [ex_57]; exact add_ti (a := x_50.toInt) (b := r_54.toInt) rfl rfl (by omega) (by omega)
    refine va_iast hx hb hK hP hD hS 1 1 rfl rfl (vin (a := 3) (by decide) (by decide) (by decide)) dX7_lay_34 (fun H locs hP hD hS => ?_)
    obtain ⟨f_58, ef_58, hP, hD⟩ : ∃ f_58 : Nat → Int32, f_58 = upd f_43 (3 : Int32).toNatClampNeg x_57 ∧ va_P D vwCl [(A_self, .inr (7, o7 q v w)), (q 55, .inl (c 1, 6, .inl f_58))] H ∧ va_D A [(A_self, .inr (7, o7 q v w)), (q 55, .inl (c 1, 6, .inl f_58))] := ⟨_, rfl, hP, hD⟩
    have cl_59 : (f_58 0).toInt = (f_43 0).toInt := by rw [ef_58]; rfl
    have cl_60 : (f_58 1).toInt = (f_43 1).toInt := by rw [ef_58]; rfl
    have cl_61 : (f_58 2).toInt = (f_43 2).toInt := by rw [ef_58]; rfl
    have cl_62 : (f_58 3).toInt = x_57.toInt := by rw [ef_58]; rfl
    have cl_63 : (f_58 4).toInt = (f_43 4).toInt := by rw [ef_58]; rfl
    have cl_64 : (f_58 5).toInt = (f_43 5).toInt := by rw [ef_58]; rfl
    refine lv_iinc (v := 4) (lv' := [(2, .int 4), (0, .ref A_self), (1, .int a1)]) hx hb dX7_lay_35 hl (k := 0) rfl (by decide) (by decide) rfl (fun ls hl => ?_)
    refine lv_goto (tgt := 15) hx hb dX7_lay_38 (by decide) ?_
    refine lv_iload_n hx hb dX7_lay_15 rfl (lv_at hl 0 rfl) ?_
    refine lv_bipush (v := 6) hx hb dX7_lay_16 (by decide) ?_
    refine iicmp_geF (a := 4) (b := 6) (tgt := 41) hx hb (by decide) (by decide) dX7_lay_18 (by decide) (by decide) ?_
    refine lv_aload_n hx hb dX7_lay_21 rfl (lv_at hl 1 rfl) ?_
    refine va_get (D := D) (ci := 7) (v := .ref (q 55)) (C := RX7) (T := TX7) (N := 56) hx hb hts (fun _ h => List.mem_cons_of_mem _ (List.mem_append_right _ h)) hown hK hP 0 rfl rfl 55 (by decide) (hts (.fieldLink RX7 118 "CrownTableModel" "cloth" "[I") (mem_i 2 rfl)) (fun _ h9 => h9) rfl dX7_lay_22 ?_
    refine lv_iload_n hx hb dX7_lay_25 rfl (lv_at hl 0 rfl) ?_
    refine lv_dup2_11 hx hb dX7_lay_26 rfl rfl ?_
    refine va_iald hx hb hK hP 1 1 rfl rfl (vin (a := 4) (by decide) (by decide) (by decide)) dX7_lay_27 ?_
    refine lv_topi (fun x_65 ex_65 => ?_)
    have lf_66 : (f_58 4).toInt = x_65.toInt := by rw [ex_65]; rfl
    refine lv_iload_n hx hb dX7_lay_28 rfl (lv_at hl 2 rfl) ?_
    refine lv_iload_n hx hb dX7_lay_29 rfl (lv_at hl 0 rfl) ?_
    have hPc := hP.sub (ws' := []) [] rfl
    have hDc := hD.sub (ws' := []) [] (by decide) rfl
    have hFc := va_free (wc := []) hD hS hA [] rfl
    have kzz_67 : (4 : Int32).toInt = 4 := by decide
    refine va_csi (va_runS (As := [.int a1, .int 4]) (rest := [.int x_65, .int 4, .ref (q 55)]) ⟨hx, hb, hml, hown, hts⟩ (k_X7_notch_P l D c ts H.size a1 i_a1 hi_a1 4 4 (by decide) (by omega) (by omega)) (cwS 2 hts gX7_lay_X7_notch rfl rfl rfl ⟨rfl, hdX7_notch⟩ ⟨(show 1 + 1 ≤ 2 by decide), (show 8 + (2 + 11) + 20 ≤ 41 by decide)⟩) ⟨Pre0.blind, Pre0.at hPc hDc hAm hSt hS hFc⟩ rfl rfl hl.1 rfl (lv_room (Nat.le_of_ble_eq_true rfl)) dX7_lay_30 ⟨(show 0 + 0 ≤ 0 by decide), (show 0 + 0 ≤ 0 by decide)⟩) (fun r_69 hw_68 => ?_)
    have nf_70 := hw_68.2.2.2.2.2.1 rfl
    have nf_71 := hw_68.1
    clear hw_68
    have rg_r_69 := i32r r_69
    refine lv_iadd hx hb dX7_lay_33 ?_
    refine lv_topi (fun x_72 ex_72 => ?_)
    have tx_72 : x_72.toInt = (x_65.toInt + r_69.toInt) := by rw [ex_72]; exact add_ti (a := x_65.toInt) (b := r_69.toInt) rfl rfl (by omega) (by omega)
    refine va_iast hx hb hK hP hD hS 1 1 rfl rfl (vin (a := 4) (by decide) (by decide) (by decide)) dX7_lay_34 (fun H locs hP hD hS => ?_)
    obtain ⟨f_73, ef_73, hP, hD⟩ : ∃ f_73 : Nat → Int32, f_73 = upd f_58 (4 : Int32).toNatClampNeg x_72 ∧ va_P D vwCl [(A_self, .inr (7, o7 q v w)), (q 55, .inl (c 1, 6, .inl f_73))] H ∧ va_D A [(A_self, .inr (7, o7 q v w)), (q 55, .inl (c 1, 6, .inl f_73))] := ⟨_, rfl, hP, hD⟩
    have cl_74 : (f_73 0).toInt = (f_58 0).toInt := by rw [ef_73]; rfl
    have cl_75 : (f_73 1).toInt = (f_58 1).toInt := by rw [ef_73]; rfl
    have cl_76 : (f_73 2).toInt = (f_58 2).toInt := by rw [ef_73]; rfl
    have cl_77 : (f_73 3).toInt = (f_58 3).toInt := by rw [ef_73]; rfl
    have cl_78 : (f_73 4).toInt = x_72.toInt := by rw [ef_73]; rfl
    have cl_79 : (f_73 5).toInt = (f_58 5).toInt := by rw [ef_73]; rfl
    refine lv_iinc (v := 5) (lv' := [(2, .int 5), (0, .ref A_self), (1, .int a1)]) hx hb dX7_lay_35 hl (k := 0) rfl (by decide) (by decide) rfl (fun ls hl => ?_)
    refine lv_goto (tgt := 15) hx hb dX7_lay_38 (by decide) ?_
    refine lv_iload_n hx hb dX7_lay_15 rfl (lv_at hl 0 rfl) ?_
    refine lv_bipush (v := 6) hx hb dX7_lay_16 (by decide) ?_
    refine iicmp_geF (a := 5) (b := 6) (tgt := 41) hx hb (by decide) (by decide) dX7_lay_18 (by decide) (by decide) ?_
    refine lv_aload_n hx hb dX7_lay_21 rfl (lv_at hl 1 rfl) ?_
    refine va_get (D := D) (ci := 7) (v := .ref (q 55)) (C := RX7) (T := TX7) (N := 56) hx hb hts (fun _ h => List.mem_cons_of_mem _ (List.mem_append_right _ h)) hown hK hP 0 rfl rfl 55 (by decide) (hts (.fieldLink RX7 118 "CrownTableModel" "cloth" "[I") (mem_i 2 rfl)) (fun _ h9 => h9) rfl dX7_lay_22 ?_
    refine lv_iload_n hx hb dX7_lay_25 rfl (lv_at hl 0 rfl) ?_
    refine lv_dup2_11 hx hb dX7_lay_26 rfl rfl ?_
    refine va_iald hx hb hK hP 1 1 rfl rfl (vin (a := 5) (by decide) (by decide) (by decide)) dX7_lay_27 ?_
    refine lv_topi (fun x_80 ex_80 => ?_)
    have lf_81 : (f_73 5).toInt = x_80.toInt := by rw [ex_80]; rfl
    refine lv_iload_n hx hb dX7_lay_28 rfl (lv_at hl 2 rfl) ?_
    refine lv_iload_n hx hb dX7_lay_29 rfl (lv_at hl 0 rfl) ?_
    have hPc := hP.sub (ws' := []) [] rfl
    have hDc := hD.sub (ws' := []) [] (by decide) rfl
    have hFc := va_free (wc := []) hD hS hA [] rfl
    have kzz_82 : (5 : Int32).toInt = 5 := by decide
    refine va_csi (va_runS (As := [.int a1, .int 5]) (rest := [.int x_80, .int 5, .ref (q 55)]) ⟨hx, hb, hml, hown, hts⟩ (k_X7_notch_P l D c ts H.size a1 i_a1 hi_a1 5 5 (by decide) (by omega) (by omega)) (cwS 2 hts gX7_lay_X7_notch rfl rfl rfl ⟨rfl, hdX7_notch⟩ ⟨(show 1 + 1 ≤ 2 by decide), (show 8 + (2 + 11) + 20 ≤ 41 by decide)⟩) ⟨Pre0.blind, Pre0.at hPc hDc hAm hSt hS hFc⟩ rfl rfl hl.1 rfl (lv_room (Nat.le_of_ble_eq_true rfl)) dX7_lay_30 ⟨(show 0 + 0 ≤ 0 by decide), (show 0 + 0 ≤ 0 by decide)⟩) (fun r_84 hw_83 => ?_)
    have nf_85 := hw_83.2.2.2.2.2.2 rfl
    have nf_86 := hw_83.1
    clear hw_83
    have rg_r_84 := i32r r_84
    refine lv_iadd hx hb dX7_lay_33 ?_
    refine lv_topi (fun x_87 ex_87 => ?_)
    have tx_87 : x_87.toInt = (x_80.toInt + r_84.toInt) := by rw [ex_87]; exact add_ti (a := x_80.toInt) (b := r_84.toInt) rfl rfl (by omega) (by omega)
    refine va_iast hx hb hK hP hD hS 1 1 rfl rfl (vin (a := 5) (by decide) (by decide) (by decide)) dX7_lay_34 (fun H locs hP hD hS => ?_)
    obtain ⟨f_88, ef_88, hP, hD⟩ : ∃ f_88 : Nat → Int32, f_88 = upd f_73 (5 : Int32).toNatClampNeg x_87 ∧ va_P D vwCl [(A_self, .inr (7, o7 q v w)), (q 55, .inl (c 1, 6, .inl f_88))] H ∧ va_D A [(A_self, .inr (7, o7 q v w)), (q 55, .inl (c 1, 6, .inl f_88))] := ⟨_, rfl, hP, hD⟩
    have cl_89 : (f_88 0).toInt = (f_73 0).toInt := by rw [ef_88]; rfl
    have cl_90 : (f_88 1).toInt = (f_73 1).toInt := by rw [ef_88]; rfl
    have cl_91 : (f_88 2).toInt = (f_73 2).toInt := by rw [ef_88]; rfl
    have cl_92 : (f_88 3).toInt = (f_73 3).toInt := by rw [ef_88]; rfl
    have cl_93 : (f_88 4).toInt = (f_73 4).toInt := by rw [ef_88]; rfl
    have cl_94 : (f_88 5).toInt = x_87.toInt := by rw [ef_88]; rfl
    refine lv_iinc (v := 6) (lv' := [(2, .int 6), (0, .ref A_self), (1, .int a1)]) hx hb dX7_lay_35 hl (k := 0) rfl (by decide) (by decide) rfl (fun ls hl => ?_)
    refine lv_goto (tgt := 15) hx hb dX7_lay_38 (by decide) ?_
    refine lv_iload_n hx hb dX7_lay_15 rfl (lv_at hl 0 rfl) ?_
    refine lv_bipush (v := 6) hx hb dX7_lay_16 (by decide) ?_
    refine iicmp_geT (a := 6) (b := 6) (tgt := 41) hx hb (by decide) (by decide) dX7_lay_18 (by decide) (by decide) ?_
    refine lv_iconst (v := 0) hx hb dX7_lay_41 (by decide) ?_
    refine lv_istore_n (lv' := [(2, .int 0), (0, .ref A_self), (1, .int a1)]) hx hb dX7_lay_42 rfl hl (by decide) rfl (fun ls hl => ?_)
    refine lv_iconst (v := 0) hx hb dX7_lay_43 (by decide) ?_
    refine lv_istore_n (lv' := [(3, .int 0), (2, .int 0), (0, .ref A_self), (1, .int a1)]) hx hb dX7_lay_44 rfl hl (by decide) rfl (fun ls hl => ?_)
    have lp_45 : ∀ (N : Nat) (L2 : Int32) (L3 : Int32) (M_cloth : Nat → Int32) (hf45_0 : 0 ≤ L3.toInt) (hf45_1 : L3.toInt ≤ 5) (hf45_2 : 0 ≤ (M_cloth 0).toInt ∧ (M_cloth 0).toInt ≤ 23) (hf45_3 : 0 ≤ (M_cloth 1).toInt ∧ (M_cloth 1).toInt ≤ 39) (hf45_4 : 0 ≤ (M_cloth 2).toInt ∧ (M_cloth 2).toInt ≤ 39) (hf45_5 : 0 ≤ (M_cloth 3).toInt ∧ (M_cloth 3).toInt ≤ 9) (hf45_6 : 0 ≤ (M_cloth 4).toInt ∧ (M_cloth 4).toInt ≤ 19) (hf45_7 : 0 ≤ (M_cloth 5).toInt ∧ (M_cloth 5).toInt ≤ cb + 5) (hf45_8 : ((M_cloth 1).toInt ≤ 38) ∨ ((M_cloth 0).toInt ≤ 11)) (hf45_9 : ((M_cloth 2).toInt ≤ 38) ∨ ((M_cloth 0).toInt ≤ 11 ∧ (M_cloth 1).toInt ≤ 19)) (hf45_10 : ((M_cloth 3).toInt ≤ 8) ∨ ((M_cloth 0).toInt ≤ 11 ∧ (M_cloth 1).toInt ≤ 19 ∧ (M_cloth 2).toInt ≤ 19)) (hf45_11 : ((M_cloth 4).toInt ≤ 18) ∨ ((M_cloth 0).toInt ≤ 11 ∧ (M_cloth 1).toInt ≤ 19 ∧ (M_cloth 2).toInt ≤ 19 ∧ (M_cloth 3).toInt ≤ 4)) (hf45_12 : ((M_cloth 5).toInt ≤ cb + 4) ∨ ((M_cloth 0).toInt ≤ 11 ∧ (M_cloth 1).toInt ≤ 19 ∧ (M_cloth 2).toInt ≤ 19 ∧ (M_cloth 3).toInt ≤ 4 ∧ (M_cloth 4).toInt ≤ 9)) (hf45_13 : L3.toInt ≤ 0 ∨ (M_cloth 0).toInt ≤ 11) (hf45_14 : L3.toInt ≤ 1 ∨ (M_cloth 1).toInt ≤ 19) (hf45_15 : L3.toInt ≤ 2 ∨ (M_cloth 2).toInt ≤ 19) (hf45_16 : L3.toInt ≤ 3 ∨ (M_cloth 3).toInt ≤ 4) (hf45_17 : L3.toInt ≤ 4 ∨ (M_cloth 4).toInt ≤ 9) (hN45 : (6 * ((M_cloth 0).toInt + (M_cloth 1).toInt + (M_cloth 2).toInt + (M_cloth 3).toInt + (M_cloth 4).toInt + (M_cloth 5).toInt) + 5 - L3.toInt).toNat = N) (H : Heap) (locs : List Loc) (ls : Array Slot), va_P D vwCl [(A_self, .inr (7, o7 q v w)), (q 55, .inl (c 1, 6, .inl M_cloth))] H → va_D A [(A_self, .inr (7, o7 q v w)), (q 55, .inl (c 1, 6, .inl M_cloth))] → va_S A s.heap H locs → lv_has ls 4 [(0, .ref A_self), (1, .int a1), (2, .int L2), (3, .int L3)] → W p l e (headSpec wsX7_lay ({ frames := 2, cells := 0, slots := 0, locals := 41 })).room s m (([.ref A_self, .int a1] : List Value).toArray) below meth cd H locs 0 0 (MQ below (va_Qi (fun (r : Int32) (u : (Nat → Int32) × Unit) => (0 ≤ (u.1 0).toInt ∧ (u.1 0).toInt ≤ 11) ∧ (0 ≤ (u.1 1).toInt ∧ (u.1 1).toInt ≤ 19) ∧ (0 ≤ (u.1 2).toInt ∧ (u.1 2).toInt ≤ 19) ∧ (0 ≤ (u.1 3).toInt ∧ (u.1 3).toInt ≤ 4) ∧ (0 ≤ (u.1 4).toInt ∧ (u.1 4).toInt ≤ 9) ∧ (0 ≤ (u.1 5).toInt ∧ (u.1 5).toInt ≤ cb + 5)) (fun u t => va_P D vwCl [(A_self, .inr (7, o7 q v w)), (q 55, .inl (c 1, 6, .inl u.1))] t.heap ∧ va_D A [(A_self, .inr (7, o7 q v w)), (q 55, .inl (c 1, 6, .inl u.1))]) A) ([.ref A_self, .int a1] : List Value).toArray s 0 0 A) (F0 m 45 ls []) := by
      refine st_ind (fun N ih45 => ?_)
      intro L2 L3 M_cloth hf45_0 hf45_1 hf45_2 hf45_3 hf45_4 hf45_5 hf45_6 hf45_7 hf45_8 hf45_9 hf45_10 hf45_11 hf45_12 hf45_13 hf45_14 hf45_15 hf45_16 hf45_17 hN45 H locs ls hP hD hS hl
      have rg_L2 := i32r L2
      rcases (show L3.toInt = 0 ∨ L3.toInt = 1 ∨ L3.toInt = 2 ∨ L3.toInt = 3 ∨ L3.toInt = 4 ∨ L3.toInt = 5 by omega) with hsp | hsp | hsp | hsp | hsp | hsp
      · skip
        obtain rfl : L3 = 0 := Int32.toInt_inj.mp (by rw [hsp]; rfl)
        have hl : lv_has ls 4 [(0, .ref A_self), (1, .int a1), (2, .int L2), (3, .int 0)] := hl
        have kzz_95 : (0 : Int32).toInt = 0 := by decide
        refine lv_iload_n hx hb dX7_lay_45 rfl (lv_at hl 3 rfl) ?_
        refine lv_iconst (v := 5) hx hb dX7_lay_46 (by decide) ?_
        refine iicmp_geF (a := 0) (b := 5) (tgt := 102) hx hb (by decide) (by decide) dX7_lay_47 (by decide) (by decide) ?_
        refine lv_aload_n hx hb dX7_lay_50 rfl (lv_at hl 0 rfl) ?_
        refine va_get (D := D) (ci := 7) (v := .ref (q 55)) (C := RX7) (T := TX7) (N := 56) hx hb hts (fun _ h => List.mem_cons_of_mem _ (List.mem_append_right _ h)) hown hK hP 0 rfl rfl 55 (by decide) (hts (.fieldLink RX7 118 "CrownTableModel" "cloth" "[I") (mem_i 2 rfl)) (fun _ h9 => h9) rfl dX7_lay_51 ?_
        refine lv_iload_n hx hb dX7_lay_54 rfl (lv_at hl 3 rfl) ?_
        refine va_iald hx hb hK hP 1 1 rfl rfl (vin (a := 0) (by decide) (by decide) (by decide)) dX7_lay_55 ?_
        refine lv_topi (fun x_96 ex_96 => ?_)
        have lf_97 : (M_cloth 0).toInt = x_96.toInt := by rw [ex_96]; rfl
        refine lv_iload_n hx hb dX7_lay_56 rfl (lv_at hl 3 rfl) ?_
        have hPc := hP.sub (ws' := []) [] rfl
        have hDc := hD.sub (ws' := []) [] (by decide) rfl
        have hFc := va_free (wc := []) hD hS hA [] rfl
        have kzz_98 : (0 : Int32).toInt = 0 := by decide
        refine va_csi (va_runS (As := [.int 0]) (rest := [.int x_96]) ⟨hx, hb, hml, hown, hts⟩ (k_X7_next l D c ts H.size 0 0 (by decide) (by omega)) (cwS 1 hts gX7_lay_X7_next rfl rfl rfl ⟨rfl, hdX7_next⟩ ⟨(show 1 + 1 ≤ 2 by decide), (show 8 + (1 + 11) + 20 ≤ 41 by decide)⟩) ⟨Pre0.blind, Pre0.at hPc hDc hAm hSt hS hFc⟩ rfl rfl hl.1 rfl (lv_room (Nat.le_of_ble_eq_true rfl)) dX7_lay_57 ⟨(show 0 + 0 ≤ 0 by decide), (show 0 + 0 ≤ 0 by decide)⟩) (fun r_100 hw_99 => ?_)
        rcases hw_99 with ⟨hw_99, rfl⟩ | ⟨hw_99, rfl⟩ | ⟨hw_99, rfl⟩ | ⟨hw_99, rfl⟩
        · skip
          refine iicmp_ge (a := x_96.toInt) (b := 12) (tgt := 69) hx hb rfl (by decide) dX7_lay_60 (by decide) (fun k_101 => ?_) (fun k_101 => ?_)
          · skip
            refine lv_aload_n hx hb dX7_lay_69 rfl (lv_at hl 0 rfl) ?_
            refine va_get (D := D) (ci := 7) (v := .ref (q 55)) (C := RX7) (T := TX7) (N := 56) hx hb hts (fun _ h => List.mem_cons_of_mem _ (List.mem_append_right _ h)) hown hK hP 0 rfl rfl 55 (by decide) (hts (.fieldLink RX7 118 "CrownTableModel" "cloth" "[I") (mem_i 2 rfl)) (fun _ h9 => h9) rfl dX7_lay_70 ?_
            refine lv_iload_n hx hb dX7_lay_73 rfl (lv_at hl 3 rfl) ?_
            refine lv_dup2_11 hx hb dX7_lay_74 rfl rfl ?_
            refine va_iald hx hb hK hP 1 1 rfl rfl (vin (a := 0) (by decide) (by decide) (by decide)) dX7_lay_75 ?_
            refine lv_topi (fun x_102 ex_102 => ?_)
            have lf_103 : (M_cloth 0).toInt = x_102.toInt := by rw [ex_102]; rfl
            refine lv_iload_n hx hb dX7_lay_76 rfl (lv_at hl 3 rfl) ?_
            have hPc := hP.sub (ws' := []) [] rfl
            have hDc := hD.sub (ws' := []) [] (by decide) rfl
            have hFc := va_free (wc := []) hD hS hA [] rfl
            have kzz_104 : (0 : Int32).toInt = 0 := by decide
            refine va_csi (va_runS (As := [.int 0]) (rest := [.int x_102, .int 0, .ref (q 55)]) ⟨hx, hb, hml, hown, hts⟩ (k_X7_next l D c ts H.size 0 0 (by decide) (by omega)) (cwS 1 hts gX7_lay_X7_next rfl rfl rfl ⟨rfl, hdX7_next⟩ ⟨(show 1 + 1 ≤ 2 by decide), (show 8 + (1 + 11) + 20 ≤ 41 by decide)⟩) ⟨Pre0.blind, Pre0.at hPc hDc hAm hSt hS hFc⟩ rfl rfl hl.1 rfl (lv_room (Nat.le_of_ble_eq_true rfl)) dX7_lay_77 ⟨(show 0 + 0 ≤ 0 by decide), (show 0 + 0 ≤ 0 by decide)⟩) (fun r_106 hw_105 => ?_)
            rcases hw_105 with ⟨hw_105, rfl⟩ | ⟨hw_105, rfl⟩ | ⟨hw_105, rfl⟩ | ⟨hw_105, rfl⟩
            · skip
              refine lv_isub hx hb dX7_lay_80 ?_
              refine lv_topi (fun x_107 ex_107 => ?_)
              have tx_107 : x_107.toInt = (x_102.toInt - 12) := by rw [ex_107]; exact sub_ti (a := x_102.toInt) (b := 12) rfl (by decide) (by omega) (by omega)
              refine va_iast hx hb hK hP hD hS 1 1 rfl rfl (vin (a := 0) (by decide) (by decide) (by decide)) dX7_lay_81 (fun H locs hP hD hS => ?_)
              obtain ⟨f_108, ef_108, hP, hD⟩ : ∃ f_108 : Nat → Int32, f_108 = upd M_cloth (0 : Int32).toNatClampNeg x_107 ∧ va_P D vwCl [(A_self, .inr (7, o7 q v w)), (q 55, .inl (c 1, 6, .inl f_108))] H ∧ va_D A [(A_self, .inr (7, o7 q v w)), (q 55, .inl (c 1, 6, .inl f_108))] := ⟨_, rfl, hP, hD⟩
              have cl_109 : (f_108 0).toInt = x_107.toInt := by rw [ef_108]; rfl
              have cl_110 : (f_108 1).toInt = (M_cloth 1).toInt := by rw [ef_108]; rfl
              have cl_111 : (f_108 2).toInt = (M_cloth 2).toInt := by rw [ef_108]; rfl
              have cl_112 : (f_108 3).toInt = (M_cloth 3).toInt := by rw [ef_108]; rfl
              have cl_113 : (f_108 4).toInt = (M_cloth 4).toInt := by rw [ef_108]; rfl
              have cl_114 : (f_108 5).toInt = (M_cloth 5).toInt := by rw [ef_108]; rfl
              refine lv_aload_n hx hb dX7_lay_82 rfl (lv_at hl 0 rfl) ?_
              refine va_get (D := D) (ci := 7) (v := .ref (q 55)) (C := RX7) (T := TX7) (N := 56) hx hb hts (fun _ h => List.mem_cons_of_mem _ (List.mem_append_right _ h)) hown hK hP 0 rfl rfl 55 (by decide) (hts (.fieldLink RX7 118 "CrownTableModel" "cloth" "[I") (mem_i 2 rfl)) (fun _ h9 => h9) rfl dX7_lay_83 ?_
              refine lv_iload_n hx hb dX7_lay_86 rfl (lv_at hl 3 rfl) ?_
              refine lv_iconst (v := 1) hx hb dX7_lay_87 (by decide) ?_
              refine lv_iadd hx hb dX7_lay_88 ?_
              refine lk_i (y := 1) (by decide) ?_
              refine lv_dup2_11 hx hb dX7_lay_89 rfl rfl ?_
              refine va_iald hx hb hK hP 1 1 rfl rfl (vin (a := 1) (by decide) (by decide) (by decide)) dX7_lay_90 ?_
              refine lv_topi (fun x_115 ex_115 => ?_)
              have lf_116 : (f_108 1).toInt = x_115.toInt := by rw [ex_115]; rfl
              refine lv_iconst (v := 1) hx hb dX7_lay_91 (by decide) ?_
              refine lv_iadd hx hb dX7_lay_92 ?_
              refine lv_topi (fun x_117 ex_117 => ?_)
              have tx_117 : x_117.toInt = (x_115.toInt + 1) := by rw [ex_117]; exact add_ti (a := x_115.toInt) (b := 1) rfl (by decide) (by omega) (by omega)
              refine va_iast hx hb hK hP hD hS 1 1 rfl rfl (vin (a := 1) (by decide) (by decide) (by decide)) dX7_lay_93 (fun H locs hP hD hS => ?_)
              obtain ⟨f_118, ef_118, hP, hD⟩ : ∃ f_118 : Nat → Int32, f_118 = upd f_108 (1 : Int32).toNatClampNeg x_117 ∧ va_P D vwCl [(A_self, .inr (7, o7 q v w)), (q 55, .inl (c 1, 6, .inl f_118))] H ∧ va_D A [(A_self, .inr (7, o7 q v w)), (q 55, .inl (c 1, 6, .inl f_118))] := ⟨_, rfl, hP, hD⟩
              have cl_119 : (f_118 0).toInt = (f_108 0).toInt := by rw [ef_118]; rfl
              have cl_120 : (f_118 1).toInt = x_117.toInt := by rw [ef_118]; rfl
              have cl_121 : (f_118 2).toInt = (f_108 2).toInt := by rw [ef_118]; rfl
              have cl_122 : (f_118 3).toInt = (f_108 3).toInt := by rw [ef_118]; rfl
              have cl_123 : (f_118 4).toInt = (f_108 4).toInt := by rw [ef_118]; rfl
              have cl_124 : (f_118 5).toInt = (f_108 5).toInt := by rw [ef_118]; rfl
              obtain ⟨x_125, ex_125⟩ : ∃ y : Int32, y = L2 + 1 := ⟨_, rfl⟩
              refine lv_iinc (v := x_125) (lv' := [(2, .int x_125), (0, .ref A_self), (1, .int a1), (3, .int 0)]) hx hb dX7_lay_94 hl (k := 2) rfl (by rw [ex_125]; rfl) (by decide) rfl (fun ls hl => ?_)
              refine lv_iconst (v := 0) hx hb dX7_lay_97 (by decide) ?_
              refine lv_istore_n (lv' := [(3, .int 0), (2, .int x_125), (0, .ref A_self), (1, .int a1)]) hx hb dX7_lay_98 rfl hl (by decide) rfl (fun ls hl => ?_)
              refine lv_goto (tgt := 45) hx hb dX7_lay_99 (by decide) ?_
              have kzz_126 : (0 : Int32).toInt = 0 := by decide
              have hl := lv_sub hl [2, 3, 1, 0] rfl
              exact (ih45 ((6 * ((f_118 0).toInt + (f_118 1).toInt + (f_118 2).toInt + (f_118 3).toInt + (f_118 4).toInt + (f_118 5).toInt) + 5 - (0 : Int32).toInt).toNat) (by omega) x_125 0 f_118 (by omega) (by omega) (by omega) (by omega) (by omega) (by omega) (by omega) (by omega) (by omega) (by omega) (by omega) (by omega) (by omega) (by omega) (by omega) (by omega) (by omega) (by omega) rfl _ _ _ hP hD hS hl)
            · exfalso; omega
            · exfalso; omega
            · exfalso; omega
          · skip
            refine lv_iinc (v := 1) (lv' := [(3, .int 1), (0, .ref A_self), (1, .int a1), (2, .int L2)]) hx hb dX7_lay_63 hl (k := 3) rfl (by decide) (by decide) rfl (fun ls hl => ?_)
            refine lv_goto (tgt := 45) hx hb dX7_lay_66 (by decide) ?_
            have kzz_127 : (1 : Int32).toInt = 1 := by decide
            have hl := lv_sub hl [1, 2, 3, 0] rfl
            exact (ih45 ((6 * ((M_cloth 0).toInt + (M_cloth 1).toInt + (M_cloth 2).toInt + (M_cloth 3).toInt + (M_cloth 4).toInt + (M_cloth 5).toInt) + 5 - (1 : Int32).toInt).toNat) (by omega) L2 1 M_cloth (by omega) (by omega) (by omega) (by omega) (by omega) (by omega) (by omega) (by omega) (by omega) (by omega) (by omega) (by omega) (by omega) (by omega) (by omega) (by omega) (by omega) (by omega) rfl _ _ _ hP hD hS hl)
        · exfalso; omega
        · exfalso; omega
        · exfalso; omega
      · skip
        obtain rfl : L3 = 1 := Int32.toInt_inj.mp (by rw [hsp]; rfl)
        have hl : lv_has ls 4 [(0, .ref A_self), (1, .int a1), (2, .int L2), (3, .int 1)] := hl
        have kzz_128 : (1 : Int32).toInt = 1 := by decide
        refine lv_iload_n hx hb dX7_lay_45 rfl (lv_at hl 3 rfl) ?_
        refine lv_iconst (v := 5) hx hb dX7_lay_46 (by decide) ?_
        refine iicmp_geF (a := 1) (b := 5) (tgt := 102) hx hb (by decide) (by decide) dX7_lay_47 (by decide) (by decide) ?_
        refine lv_aload_n hx hb dX7_lay_50 rfl (lv_at hl 0 rfl) ?_
        refine va_get (D := D) (ci := 7) (v := .ref (q 55)) (C := RX7) (T := TX7) (N := 56) hx hb hts (fun _ h => List.mem_cons_of_mem _ (List.mem_append_right _ h)) hown hK hP 0 rfl rfl 55 (by decide) (hts (.fieldLink RX7 118 "CrownTableModel" "cloth" "[I") (mem_i 2 rfl)) (fun _ h9 => h9) rfl dX7_lay_51 ?_
        refine lv_iload_n hx hb dX7_lay_54 rfl (lv_at hl 3 rfl) ?_
        refine va_iald hx hb hK hP 1 1 rfl rfl (vin (a := 1) (by decide) (by decide) (by decide)) dX7_lay_55 ?_
        refine lv_topi (fun x_129 ex_129 => ?_)
        have lf_130 : (M_cloth 1).toInt = x_129.toInt := by rw [ex_129]; rfl
        refine lv_iload_n hx hb dX7_lay_56 rfl (lv_at hl 3 rfl) ?_
        have hPc := hP.sub (ws' := []) [] rfl
        have hDc := hD.sub (ws' := []) [] (by decide) rfl
        have hFc := va_free (wc := []) hD hS hA [] rfl
        have kzz_131 : (1 : Int32).toInt = 1 := by decide
        refine va_csi (va_runS (As := [.int 1]) (rest := [.int x_129]) ⟨hx, hb, hml, hown, hts⟩ (k_X7_next l D c ts H.size 1 1 (by decide) (by omega)) (cwS 1 hts gX7_lay_X7_next rfl rfl rfl ⟨rfl, hdX7_next⟩ ⟨(show 1 + 1 ≤ 2 by decide), (show 8 + (1 + 11) + 20 ≤ 41 by decide)⟩) ⟨Pre0.blind, Pre0.at hPc hDc hAm hSt hS hFc⟩ rfl rfl hl.1 rfl (lv_room (Nat.le_of_ble_eq_true rfl)) dX7_lay_57 ⟨(show 0 + 0 ≤ 0 by decide), (show 0 + 0 ≤ 0 by decide)⟩) (fun r_133 hw_132 => ?_)
        rcases hw_132 with ⟨hw_132, rfl⟩ | ⟨hw_132, rfl⟩ | ⟨hw_132, rfl⟩ | ⟨hw_132, rfl⟩
        · exfalso; omega
        · skip
          refine iicmp_ge (a := x_129.toInt) (b := 20) (tgt := 69) hx hb rfl (by decide) dX7_lay_60 (by decide) (fun k_134 => ?_) (fun k_134 => ?_)
          · skip
            refine lv_aload_n hx hb dX7_lay_69 rfl (lv_at hl 0 rfl) ?_
            refine va_get (D := D) (ci := 7) (v := .ref (q 55)) (C := RX7) (T := TX7) (N := 56) hx hb hts (fun _ h => List.mem_cons_of_mem _ (List.mem_append_right _ h)) hown hK hP 0 rfl rfl 55 (by decide) (hts (.fieldLink RX7 118 "CrownTableModel" "cloth" "[I") (mem_i 2 rfl)) (fun _ h9 => h9) rfl dX7_lay_70 ?_
            refine lv_iload_n hx hb dX7_lay_73 rfl (lv_at hl 3 rfl) ?_
            refine lv_dup2_11 hx hb dX7_lay_74 rfl rfl ?_
            refine va_iald hx hb hK hP 1 1 rfl rfl (vin (a := 1) (by decide) (by decide) (by decide)) dX7_lay_75 ?_
            refine lv_topi (fun x_135 ex_135 => ?_)
            have lf_136 : (M_cloth 1).toInt = x_135.toInt := by rw [ex_135]; rfl
            refine lv_iload_n hx hb dX7_lay_76 rfl (lv_at hl 3 rfl) ?_
            have hPc := hP.sub (ws' := []) [] rfl
            have hDc := hD.sub (ws' := []) [] (by decide) rfl
            have hFc := va_free (wc := []) hD hS hA [] rfl
            have kzz_137 : (1 : Int32).toInt = 1 := by decide
            refine va_csi (va_runS (As := [.int 1]) (rest := [.int x_135, .int 1, .ref (q 55)]) ⟨hx, hb, hml, hown, hts⟩ (k_X7_next l D c ts H.size 1 1 (by decide) (by omega)) (cwS 1 hts gX7_lay_X7_next rfl rfl rfl ⟨rfl, hdX7_next⟩ ⟨(show 1 + 1 ≤ 2 by decide), (show 8 + (1 + 11) + 20 ≤ 41 by decide)⟩) ⟨Pre0.blind, Pre0.at hPc hDc hAm hSt hS hFc⟩ rfl rfl hl.1 rfl (lv_room (Nat.le_of_ble_eq_true rfl)) dX7_lay_77 ⟨(show 0 + 0 ≤ 0 by decide), (show 0 + 0 ≤ 0 by decide)⟩) (fun r_139 hw_138 => ?_)
            rcases hw_138 with ⟨hw_138, rfl⟩ | ⟨hw_138, rfl⟩ | ⟨hw_138, rfl⟩ | ⟨hw_138, rfl⟩
            · exfalso; omega
            · skip
              refine lv_isub hx hb dX7_lay_80 ?_
              refine lv_topi (fun x_140 ex_140 => ?_)
              have tx_140 : x_140.toInt = (x_135.toInt - 20) := by rw [ex_140]; exact sub_ti (a := x_135.toInt) (b := 20) rfl (by decide) (by omega) (by omega)
              refine va_iast hx hb hK hP hD hS 1 1 rfl rfl (vin (a := 1) (by decide) (by decide) (by decide)) dX7_lay_81 (fun H locs hP hD hS => ?_)
              obtain ⟨f_141, ef_141, hP, hD⟩ : ∃ f_141 : Nat → Int32, f_141 = upd M_cloth (1 : Int32).toNatClampNeg x_140 ∧ va_P D vwCl [(A_self, .inr (7, o7 q v w)), (q 55, .inl (c 1, 6, .inl f_141))] H ∧ va_D A [(A_self, .inr (7, o7 q v w)), (q 55, .inl (c 1, 6, .inl f_141))] := ⟨_, rfl, hP, hD⟩
              have cl_142 : (f_141 0).toInt = (M_cloth 0).toInt := by rw [ef_141]; rfl
              have cl_143 : (f_141 1).toInt = x_140.toInt := by rw [ef_141]; rfl
              have cl_144 : (f_141 2).toInt = (M_cloth 2).toInt := by rw [ef_141]; rfl
              have cl_145 : (f_141 3).toInt = (M_cloth 3).toInt := by rw [ef_141]; rfl
              have cl_146 : (f_141 4).toInt = (M_cloth 4).toInt := by rw [ef_141]; rfl
              have cl_147 : (f_141 5).toInt = (M_cloth 5).toInt := by rw [ef_141]; rfl
              refine lv_aload_n hx hb dX7_lay_82 rfl (lv_at hl 0 rfl) ?_
              refine va_get (D := D) (ci := 7) (v := .ref (q 55)) (C := RX7) (T := TX7) (N := 56) hx hb hts (fun _ h => List.mem_cons_of_mem _ (List.mem_append_right _ h)) hown hK hP 0 rfl rfl 55 (by decide) (hts (.fieldLink RX7 118 "CrownTableModel" "cloth" "[I") (mem_i 2 rfl)) (fun _ h9 => h9) rfl dX7_lay_83 ?_
              refine lv_iload_n hx hb dX7_lay_86 rfl (lv_at hl 3 rfl) ?_
              refine lv_iconst (v := 1) hx hb dX7_lay_87 (by decide) ?_
              refine lv_iadd hx hb dX7_lay_88 ?_
              refine lk_i (y := 2) (by decide) ?_
              refine lv_dup2_11 hx hb dX7_lay_89 rfl rfl ?_
              refine va_iald hx hb hK hP 1 1 rfl rfl (vin (a := 2) (by decide) (by decide) (by decide)) dX7_lay_90 ?_
              refine lv_topi (fun x_148 ex_148 => ?_)
              have lf_149 : (f_141 2).toInt = x_148.toInt := by rw [ex_148]; rfl
              refine lv_iconst (v := 1) hx hb dX7_lay_91 (by decide) ?_
              refine lv_iadd hx hb dX7_lay_92 ?_
              refine lv_topi (fun x_150 ex_150 => ?_)
              have tx_150 : x_150.toInt = (x_148.toInt + 1) := by rw [ex_150]; exact add_ti (a := x_148.toInt) (b := 1) rfl (by decide) (by omega) (by omega)
              refine va_iast hx hb hK hP hD hS 1 1 rfl rfl (vin (a := 2) (by decide) (by decide) (by decide)) dX7_lay_93 (fun H locs hP hD hS => ?_)
              obtain ⟨f_151, ef_151, hP, hD⟩ : ∃ f_151 : Nat → Int32, f_151 = upd f_141 (2 : Int32).toNatClampNeg x_150 ∧ va_P D vwCl [(A_self, .inr (7, o7 q v w)), (q 55, .inl (c 1, 6, .inl f_151))] H ∧ va_D A [(A_self, .inr (7, o7 q v w)), (q 55, .inl (c 1, 6, .inl f_151))] := ⟨_, rfl, hP, hD⟩
              have cl_152 : (f_151 0).toInt = (f_141 0).toInt := by rw [ef_151]; rfl
              have cl_153 : (f_151 1).toInt = (f_141 1).toInt := by rw [ef_151]; rfl
              have cl_154 : (f_151 2).toInt = x_150.toInt := by rw [ef_151]; rfl
              have cl_155 : (f_151 3).toInt = (f_141 3).toInt := by rw [ef_151]; rfl
              have cl_156 : (f_151 4).toInt = (f_141 4).toInt := by rw [ef_151]; rfl
              have cl_157 : (f_151 5).toInt = (f_141 5).toInt := by rw [ef_151]; rfl
              obtain ⟨x_158, ex_158⟩ : ∃ y : Int32, y = L2 + 1 := ⟨_, rfl⟩
              refine lv_iinc (v := x_158) (lv' := [(2, .int x_158), (0, .ref A_self), (1, .int a1), (3, .int 1)]) hx hb dX7_lay_94 hl (k := 2) rfl (by rw [ex_158]; rfl) (by decide) rfl (fun ls hl => ?_)
              refine lv_iconst (v := 0) hx hb dX7_lay_97 (by decide) ?_
              refine lv_istore_n (lv' := [(3, .int 0), (2, .int x_158), (0, .ref A_self), (1, .int a1)]) hx hb dX7_lay_98 rfl hl (by decide) rfl (fun ls hl => ?_)
              refine lv_goto (tgt := 45) hx hb dX7_lay_99 (by decide) ?_
              have kzz_159 : (0 : Int32).toInt = 0 := by decide
              have hl := lv_sub hl [2, 3, 1, 0] rfl
              exact (ih45 ((6 * ((f_151 0).toInt + (f_151 1).toInt + (f_151 2).toInt + (f_151 3).toInt + (f_151 4).toInt + (f_151 5).toInt) + 5 - (0 : Int32).toInt).toNat) (by omega) x_158 0 f_151 (by omega) (by omega) (by omega) (by omega) (by omega) (by omega) (by omega) (by omega) (by omega) (by omega) (by omega) (by omega) (by omega) (by omega) (by omega) (by omega) (by omega) (by omega) rfl _ _ _ hP hD hS hl)
            · exfalso; omega
            · exfalso; omega
          · skip
            refine lv_iinc (v := 2) (lv' := [(3, .int 2), (0, .ref A_self), (1, .int a1), (2, .int L2)]) hx hb dX7_lay_63 hl (k := 3) rfl (by decide) (by decide) rfl (fun ls hl => ?_)
            refine lv_goto (tgt := 45) hx hb dX7_lay_66 (by decide) ?_
            have kzz_160 : (2 : Int32).toInt = 2 := by decide
            have hl := lv_sub hl [1, 2, 3, 0] rfl
            exact (ih45 ((6 * ((M_cloth 0).toInt + (M_cloth 1).toInt + (M_cloth 2).toInt + (M_cloth 3).toInt + (M_cloth 4).toInt + (M_cloth 5).toInt) + 5 - (2 : Int32).toInt).toNat) (by omega) L2 2 M_cloth (by omega) (by omega) (by omega) (by omega) (by omega) (by omega) (by omega) (by omega) (by omega) (by omega) (by omega) (by omega) (by omega) (by omega) (by omega) (by omega) (by omega) (by omega) rfl _ _ _ hP hD hS hl)
        · exfalso; omega
        · exfalso; omega
      · skip
        obtain rfl : L3 = 2 := Int32.toInt_inj.mp (by rw [hsp]; rfl)
        have hl : lv_has ls 4 [(0, .ref A_self), (1, .int a1), (2, .int L2), (3, .int 2)] := hl
        have kzz_161 : (2 : Int32).toInt = 2 := by decide
        refine lv_iload_n hx hb dX7_lay_45 rfl (lv_at hl 3 rfl) ?_
        refine lv_iconst (v := 5) hx hb dX7_lay_46 (by decide) ?_
        refine iicmp_geF (a := 2) (b := 5) (tgt := 102) hx hb (by decide) (by decide) dX7_lay_47 (by decide) (by decide) ?_
        refine lv_aload_n hx hb dX7_lay_50 rfl (lv_at hl 0 rfl) ?_
        refine va_get (D := D) (ci := 7) (v := .ref (q 55)) (C := RX7) (T := TX7) (N := 56) hx hb hts (fun _ h => List.mem_cons_of_mem _ (List.mem_append_right _ h)) hown hK hP 0 rfl rfl 55 (by decide) (hts (.fieldLink RX7 118 "CrownTableModel" "cloth" "[I") (mem_i 2 rfl)) (fun _ h9 => h9) rfl dX7_lay_51 ?_
        refine lv_iload_n hx hb dX7_lay_54 rfl (lv_at hl 3 rfl) ?_
        refine va_iald hx hb hK hP 1 1 rfl rfl (vin (a := 2) (by decide) (by decide) (by decide)) dX7_lay_55 ?_
        refine lv_topi (fun x_162 ex_162 => ?_)
        have lf_163 : (M_cloth 2).toInt = x_162.toInt := by rw [ex_162]; rfl
        refine lv_iload_n hx hb dX7_lay_56 rfl (lv_at hl 3 rfl) ?_
        have hPc := hP.sub (ws' := []) [] rfl
        have hDc := hD.sub (ws' := []) [] (by decide) rfl
        have hFc := va_free (wc := []) hD hS hA [] rfl
        have kzz_164 : (2 : Int32).toInt = 2 := by decide
        refine va_csi (va_runS (As := [.int 2]) (rest := [.int x_162]) ⟨hx, hb, hml, hown, hts⟩ (k_X7_next l D c ts H.size 2 2 (by decide) (by omega)) (cwS 1 hts gX7_lay_X7_next rfl rfl rfl ⟨rfl, hdX7_next⟩ ⟨(show 1 + 1 ≤ 2 by decide), (show 8 + (1 + 11) + 20 ≤ 41 by decide)⟩) ⟨Pre0.blind, Pre0.at hPc hDc hAm hSt hS hFc⟩ rfl rfl hl.1 rfl (lv_room (Nat.le_of_ble_eq_true rfl)) dX7_lay_57 ⟨(show 0 + 0 ≤ 0 by decide), (show 0 + 0 ≤ 0 by decide)⟩) (fun r_166 hw_165 => ?_)
        rcases hw_165 with ⟨hw_165, rfl⟩ | ⟨hw_165, rfl⟩ | ⟨hw_165, rfl⟩ | ⟨hw_165, rfl⟩
        · exfalso; omega
        · skip
          refine iicmp_ge (a := x_162.toInt) (b := 20) (tgt := 69) hx hb rfl (by decide) dX7_lay_60 (by decide) (fun k_167 => ?_) (fun k_167 => ?_)
          · skip
            refine lv_aload_n hx hb dX7_lay_69 rfl (lv_at hl 0 rfl) ?_
            refine va_get (D := D) (ci := 7) (v := .ref (q 55)) (C := RX7) (T := TX7) (N := 56) hx hb hts (fun _ h => List.mem_cons_of_mem _ (List.mem_append_right _ h)) hown hK hP 0 rfl rfl 55 (by decide) (hts (.fieldLink RX7 118 "CrownTableModel" "cloth" "[I") (mem_i 2 rfl)) (fun _ h9 => h9) rfl dX7_lay_70 ?_
            refine lv_iload_n hx hb dX7_lay_73 rfl (lv_at hl 3 rfl) ?_
            refine lv_dup2_11 hx hb dX7_lay_74 rfl rfl ?_
            refine va_iald hx hb hK hP 1 1 rfl rfl (vin (a := 2) (by decide) (by decide) (by decide)) dX7_lay_75 ?_
            refine lv_topi (fun x_168 ex_168 => ?_)
            have lf_169 : (M_cloth 2).toInt = x_168.toInt := by rw [ex_168]; rfl
            refine lv_iload_n hx hb dX7_lay_76 rfl (lv_at hl 3 rfl) ?_
            have hPc := hP.sub (ws' := []) [] rfl
            have hDc := hD.sub (ws' := []) [] (by decide) rfl
            have hFc := va_free (wc := []) hD hS hA [] rfl
            have kzz_170 : (2 : Int32).toInt = 2 := by decide
            refine va_csi (va_runS (As := [.int 2]) (rest := [.int x_168, .int 2, .ref (q 55)]) ⟨hx, hb, hml, hown, hts⟩ (k_X7_next l D c ts H.size 2 2 (by decide) (by omega)) (cwS 1 hts gX7_lay_X7_next rfl rfl rfl ⟨rfl, hdX7_next⟩ ⟨(show 1 + 1 ≤ 2 by decide), (show 8 + (1 + 11) + 20 ≤ 41 by decide)⟩) ⟨Pre0.blind, Pre0.at hPc hDc hAm hSt hS hFc⟩ rfl rfl hl.1 rfl (lv_room (Nat.le_of_ble_eq_true rfl)) dX7_lay_77 ⟨(show 0 + 0 ≤ 0 by decide), (show 0 + 0 ≤ 0 by decide)⟩) (fun r_172 hw_171 => ?_)
            rcases hw_171 with ⟨hw_171, rfl⟩ | ⟨hw_171, rfl⟩ | ⟨hw_171, rfl⟩ | ⟨hw_171, rfl⟩
            · exfalso; omega
            · skip
              refine lv_isub hx hb dX7_lay_80 ?_
              refine lv_topi (fun x_173 ex_173 => ?_)
              have tx_173 : x_173.toInt = (x_168.toInt - 20) := by rw [ex_173]; exact sub_ti (a := x_168.toInt) (b := 20) rfl (by decide) (by omega) (by omega)
              refine va_iast hx hb hK hP hD hS 1 1 rfl rfl (vin (a := 2) (by decide) (by decide) (by decide)) dX7_lay_81 (fun H locs hP hD hS => ?_)
              obtain ⟨f_174, ef_174, hP, hD⟩ : ∃ f_174 : Nat → Int32, f_174 = upd M_cloth (2 : Int32).toNatClampNeg x_173 ∧ va_P D vwCl [(A_self, .inr (7, o7 q v w)), (q 55, .inl (c 1, 6, .inl f_174))] H ∧ va_D A [(A_self, .inr (7, o7 q v w)), (q 55, .inl (c 1, 6, .inl f_174))] := ⟨_, rfl, hP, hD⟩
              have cl_175 : (f_174 0).toInt = (M_cloth 0).toInt := by rw [ef_174]; rfl
              have cl_176 : (f_174 1).toInt = (M_cloth 1).toInt := by rw [ef_174]; rfl
              have cl_177 : (f_174 2).toInt = x_173.toInt := by rw [ef_174]; rfl
              have cl_178 : (f_174 3).toInt = (M_cloth 3).toInt := by rw [ef_174]; rfl
              have cl_179 : (f_174 4).toInt = (M_cloth 4).toInt := by rw [ef_174]; rfl
              have cl_180 : (f_174 5).toInt = (M_cloth 5).toInt := by rw [ef_174]; rfl
              refine lv_aload_n hx hb dX7_lay_82 rfl (lv_at hl 0 rfl) ?_
              refine va_get (D := D) (ci := 7) (v := .ref (q 55)) (C := RX7) (T := TX7) (N := 56) hx hb hts (fun _ h => List.mem_cons_of_mem _ (List.mem_append_right _ h)) hown hK hP 0 rfl rfl 55 (by decide) (hts (.fieldLink RX7 118 "CrownTableModel" "cloth" "[I") (mem_i 2 rfl)) (fun _ h9 => h9) rfl dX7_lay_83 ?_
              refine lv_iload_n hx hb dX7_lay_86 rfl (lv_at hl 3 rfl) ?_
              refine lv_iconst (v := 1) hx hb dX7_lay_87 (by decide) ?_
              refine lv_iadd hx hb dX7_lay_88 ?_
              refine lk_i (y := 3) (by decide) ?_
              refine lv_dup2_11 hx hb dX7_lay_89 rfl rfl ?_
              refine va_iald hx hb hK hP 1 1 rfl rfl (vin (a := 3) (by decide) (by decide) (by decide)) dX7_lay_90 ?_
              refine lv_topi (fun x_181 ex_181 => ?_)
              have lf_182 : (f_174 3).toInt = x_181.toInt := by rw [ex_181]; rfl
              refine lv_iconst (v := 1) hx hb dX7_lay_91 (by decide) ?_
              refine lv_iadd hx hb dX7_lay_92 ?_
              refine lv_topi (fun x_183 ex_183 => ?_)
              have tx_183 : x_183.toInt = (x_181.toInt + 1) := by rw [ex_183]; exact add_ti (a := x_181.toInt) (b := 1) rfl (by decide) (by omega) (by omega)
              refine va_iast hx hb hK hP hD hS 1 1 rfl rfl (vin (a := 3) (by decide) (by decide) (by decide)) dX7_lay_93 (fun H locs hP hD hS => ?_)
              obtain ⟨f_184, ef_184, hP, hD⟩ : ∃ f_184 : Nat → Int32, f_184 = upd f_174 (3 : Int32).toNatClampNeg x_183 ∧ va_P D vwCl [(A_self, .inr (7, o7 q v w)), (q 55, .inl (c 1, 6, .inl f_184))] H ∧ va_D A [(A_self, .inr (7, o7 q v w)), (q 55, .inl (c 1, 6, .inl f_184))] := ⟨_, rfl, hP, hD⟩
              have cl_185 : (f_184 0).toInt = (f_174 0).toInt := by rw [ef_184]; rfl
              have cl_186 : (f_184 1).toInt = (f_174 1).toInt := by rw [ef_184]; rfl
              have cl_187 : (f_184 2).toInt = (f_174 2).toInt := by rw [ef_184]; rfl
              have cl_188 : (f_184 3).toInt = x_183.toInt := by rw [ef_184]; rfl
              have cl_189 : (f_184 4).toInt = (f_174 4).toInt := by rw [ef_184]; rfl
              have cl_190 : (f_184 5).toInt = (f_174 5).toInt := by rw [ef_184]; rfl
              obtain ⟨x_191, ex_191⟩ : ∃ y : Int32, y = L2 + 1 := ⟨_, rfl⟩
              refine lv_iinc (v := x_191) (lv' := [(2, .int x_191), (0, .ref A_self), (1, .int a1), (3, .int 2)]) hx hb dX7_lay_94 hl (k := 2) rfl (by rw [ex_191]; rfl) (by decide) rfl (fun ls hl => ?_)
              refine lv_iconst (v := 0) hx hb dX7_lay_97 (by decide) ?_
              refine lv_istore_n (lv' := [(3, .int 0), (2, .int x_191), (0, .ref A_self), (1, .int a1)]) hx hb dX7_lay_98 rfl hl (by decide) rfl (fun ls hl => ?_)
              refine lv_goto (tgt := 45) hx hb dX7_lay_99 (by decide) ?_
              have kzz_192 : (0 : Int32).toInt = 0 := by decide
              have hl := lv_sub hl [2, 3, 1, 0] rfl
              exact (ih45 ((6 * ((f_184 0).toInt + (f_184 1).toInt + (f_184 2).toInt + (f_184 3).toInt + (f_184 4).toInt + (f_184 5).toInt) + 5 - (0 : Int32).toInt).toNat) (by omega) x_191 0 f_184 (by omega) (by omega) (by omega) (by omega) (by omega) (by omega) (by omega) (by omega) (by omega) (by omega) (by omega) (by omega) (by omega) (by omega) (by omega) (by omega) (by omega) (by omega) rfl _ _ _ hP hD hS hl)
            · exfalso; omega
            · exfalso; omega
          · skip
            refine lv_iinc (v := 3) (lv' := [(3, .int 3), (0, .ref A_self), (1, .int a1), (2, .int L2)]) hx hb dX7_lay_63 hl (k := 3) rfl (by decide) (by decide) rfl (fun ls hl => ?_)
            refine lv_goto (tgt := 45) hx hb dX7_lay_66 (by decide) ?_
            have kzz_193 : (3 : Int32).toInt = 3 := by decide
            have hl := lv_sub hl [1, 2, 3, 0] rfl
            exact (ih45 ((6 * ((M_cloth 0).toInt + (M_cloth 1).toInt + (M_cloth 2).toInt + (M_cloth 3).toInt + (M_cloth 4).toInt + (M_cloth 5).toInt) + 5 - (3 : Int32).toInt).toNat) (by omega) L2 3 M_cloth (by omega) (by omega) (by omega) (by omega) (by omega) (by omega) (by omega) (by omega) (by omega) (by omega) (by omega) (by omega) (by omega) (by omega) (by omega) (by omega) (by omega) (by omega) rfl _ _ _ hP hD hS hl)
        · exfalso; omega
        · exfalso; omega
      · skip
        obtain rfl : L3 = 3 := Int32.toInt_inj.mp (by rw [hsp]; rfl)
        have hl : lv_has ls 4 [(0, .ref A_self), (1, .int a1), (2, .int L2), (3, .int 3)] := hl
        have kzz_194 : (3 : Int32).toInt = 3 := by decide
        refine lv_iload_n hx hb dX7_lay_45 rfl (lv_at hl 3 rfl) ?_
        refine lv_iconst (v := 5) hx hb dX7_lay_46 (by decide) ?_
        refine iicmp_geF (a := 3) (b := 5) (tgt := 102) hx hb (by decide) (by decide) dX7_lay_47 (by decide) (by decide) ?_
        refine lv_aload_n hx hb dX7_lay_50 rfl (lv_at hl 0 rfl) ?_
        refine va_get (D := D) (ci := 7) (v := .ref (q 55)) (C := RX7) (T := TX7) (N := 56) hx hb hts (fun _ h => List.mem_cons_of_mem _ (List.mem_append_right _ h)) hown hK hP 0 rfl rfl 55 (by decide) (hts (.fieldLink RX7 118 "CrownTableModel" "cloth" "[I") (mem_i 2 rfl)) (fun _ h9 => h9) rfl dX7_lay_51 ?_
        refine lv_iload_n hx hb dX7_lay_54 rfl (lv_at hl 3 rfl) ?_
        refine va_iald hx hb hK hP 1 1 rfl rfl (vin (a := 3) (by decide) (by decide) (by decide)) dX7_lay_55 ?_
        refine lv_topi (fun x_195 ex_195 => ?_)
        have lf_196 : (M_cloth 3).toInt = x_195.toInt := by rw [ex_195]; rfl
        refine lv_iload_n hx hb dX7_lay_56 rfl (lv_at hl 3 rfl) ?_
        have hPc := hP.sub (ws' := []) [] rfl
        have hDc := hD.sub (ws' := []) [] (by decide) rfl
        have hFc := va_free (wc := []) hD hS hA [] rfl
        have kzz_197 : (3 : Int32).toInt = 3 := by decide
        refine va_csi (va_runS (As := [.int 3]) (rest := [.int x_195]) ⟨hx, hb, hml, hown, hts⟩ (k_X7_next l D c ts H.size 3 3 (by decide) (by omega)) (cwS 1 hts gX7_lay_X7_next rfl rfl rfl ⟨rfl, hdX7_next⟩ ⟨(show 1 + 1 ≤ 2 by decide), (show 8 + (1 + 11) + 20 ≤ 41 by decide)⟩) ⟨Pre0.blind, Pre0.at hPc hDc hAm hSt hS hFc⟩ rfl rfl hl.1 rfl (lv_room (Nat.le_of_ble_eq_true rfl)) dX7_lay_57 ⟨(show 0 + 0 ≤ 0 by decide), (show 0 + 0 ≤ 0 by decide)⟩) (fun r_199 hw_198 => ?_)
        rcases hw_198 with ⟨hw_198, rfl⟩ | ⟨hw_198, rfl⟩ | ⟨hw_198, rfl⟩ | ⟨hw_198, rfl⟩
        · exfalso; omega
        · exfalso; omega
        · skip
          refine iicmp_ge (a := x_195.toInt) (b := 5) (tgt := 69) hx hb rfl (by decide) dX7_lay_60 (by decide) (fun k_200 => ?_) (fun k_200 => ?_)
          · skip
            refine lv_aload_n hx hb dX7_lay_69 rfl (lv_at hl 0 rfl) ?_
            refine va_get (D := D) (ci := 7) (v := .ref (q 55)) (C := RX7) (T := TX7) (N := 56) hx hb hts (fun _ h => List.mem_cons_of_mem _ (List.mem_append_right _ h)) hown hK hP 0 rfl rfl 55 (by decide) (hts (.fieldLink RX7 118 "CrownTableModel" "cloth" "[I") (mem_i 2 rfl)) (fun _ h9 => h9) rfl dX7_lay_70 ?_
            refine lv_iload_n hx hb dX7_lay_73 rfl (lv_at hl 3 rfl) ?_
            refine lv_dup2_11 hx hb dX7_lay_74 rfl rfl ?_
            refine va_iald hx hb hK hP 1 1 rfl rfl (vin (a := 3) (by decide) (by decide) (by decide)) dX7_lay_75 ?_
            refine lv_topi (fun x_201 ex_201 => ?_)
            have lf_202 : (M_cloth 3).toInt = x_201.toInt := by rw [ex_201]; rfl
            refine lv_iload_n hx hb dX7_lay_76 rfl (lv_at hl 3 rfl) ?_
            have hPc := hP.sub (ws' := []) [] rfl
            have hDc := hD.sub (ws' := []) [] (by decide) rfl
            have hFc := va_free (wc := []) hD hS hA [] rfl
            have kzz_203 : (3 : Int32).toInt = 3 := by decide
            refine va_csi (va_runS (As := [.int 3]) (rest := [.int x_201, .int 3, .ref (q 55)]) ⟨hx, hb, hml, hown, hts⟩ (k_X7_next l D c ts H.size 3 3 (by decide) (by omega)) (cwS 1 hts gX7_lay_X7_next rfl rfl rfl ⟨rfl, hdX7_next⟩ ⟨(show 1 + 1 ≤ 2 by decide), (show 8 + (1 + 11) + 20 ≤ 41 by decide)⟩) ⟨Pre0.blind, Pre0.at hPc hDc hAm hSt hS hFc⟩ rfl rfl hl.1 rfl (lv_room (Nat.le_of_ble_eq_true rfl)) dX7_lay_77 ⟨(show 0 + 0 ≤ 0 by decide), (show 0 + 0 ≤ 0 by decide)⟩) (fun r_205 hw_204 => ?_)
            rcases hw_204 with ⟨hw_204, rfl⟩ | ⟨hw_204, rfl⟩ | ⟨hw_204, rfl⟩ | ⟨hw_204, rfl⟩
            · exfalso; omega
            · exfalso; omega
            · skip
              refine lv_isub hx hb dX7_lay_80 ?_
              refine lv_topi (fun x_206 ex_206 => ?_)
              have tx_206 : x_206.toInt = (x_201.toInt - 5) := by rw [ex_206]; exact sub_ti (a := x_201.toInt) (b := 5) rfl (by decide) (by omega) (by omega)
              refine va_iast hx hb hK hP hD hS 1 1 rfl rfl (vin (a := 3) (by decide) (by decide) (by decide)) dX7_lay_81 (fun H locs hP hD hS => ?_)
              obtain ⟨f_207, ef_207, hP, hD⟩ : ∃ f_207 : Nat → Int32, f_207 = upd M_cloth (3 : Int32).toNatClampNeg x_206 ∧ va_P D vwCl [(A_self, .inr (7, o7 q v w)), (q 55, .inl (c 1, 6, .inl f_207))] H ∧ va_D A [(A_self, .inr (7, o7 q v w)), (q 55, .inl (c 1, 6, .inl f_207))] := ⟨_, rfl, hP, hD⟩
              have cl_208 : (f_207 0).toInt = (M_cloth 0).toInt := by rw [ef_207]; rfl
              have cl_209 : (f_207 1).toInt = (M_cloth 1).toInt := by rw [ef_207]; rfl
              have cl_210 : (f_207 2).toInt = (M_cloth 2).toInt := by rw [ef_207]; rfl
              have cl_211 : (f_207 3).toInt = x_206.toInt := by rw [ef_207]; rfl
              have cl_212 : (f_207 4).toInt = (M_cloth 4).toInt := by rw [ef_207]; rfl
              have cl_213 : (f_207 5).toInt = (M_cloth 5).toInt := by rw [ef_207]; rfl
              refine lv_aload_n hx hb dX7_lay_82 rfl (lv_at hl 0 rfl) ?_
              refine va_get (D := D) (ci := 7) (v := .ref (q 55)) (C := RX7) (T := TX7) (N := 56) hx hb hts (fun _ h => List.mem_cons_of_mem _ (List.mem_append_right _ h)) hown hK hP 0 rfl rfl 55 (by decide) (hts (.fieldLink RX7 118 "CrownTableModel" "cloth" "[I") (mem_i 2 rfl)) (fun _ h9 => h9) rfl dX7_lay_83 ?_
              refine lv_iload_n hx hb dX7_lay_86 rfl (lv_at hl 3 rfl) ?_
              refine lv_iconst (v := 1) hx hb dX7_lay_87 (by decide) ?_
              refine lv_iadd hx hb dX7_lay_88 ?_
              refine lk_i (y := 4) (by decide) ?_
              refine lv_dup2_11 hx hb dX7_lay_89 rfl rfl ?_
              refine va_iald hx hb hK hP 1 1 rfl rfl (vin (a := 4) (by decide) (by decide) (by decide)) dX7_lay_90 ?_
              refine lv_topi (fun x_214 ex_214 => ?_)
              have lf_215 : (f_207 4).toInt = x_214.toInt := by rw [ex_214]; rfl
              refine lv_iconst (v := 1) hx hb dX7_lay_91 (by decide) ?_
              refine lv_iadd hx hb dX7_lay_92 ?_
              refine lv_topi (fun x_216 ex_216 => ?_)
              have tx_216 : x_216.toInt = (x_214.toInt + 1) := by rw [ex_216]; exact add_ti (a := x_214.toInt) (b := 1) rfl (by decide) (by omega) (by omega)
              refine va_iast hx hb hK hP hD hS 1 1 rfl rfl (vin (a := 4) (by decide) (by decide) (by decide)) dX7_lay_93 (fun H locs hP hD hS => ?_)
              obtain ⟨f_217, ef_217, hP, hD⟩ : ∃ f_217 : Nat → Int32, f_217 = upd f_207 (4 : Int32).toNatClampNeg x_216 ∧ va_P D vwCl [(A_self, .inr (7, o7 q v w)), (q 55, .inl (c 1, 6, .inl f_217))] H ∧ va_D A [(A_self, .inr (7, o7 q v w)), (q 55, .inl (c 1, 6, .inl f_217))] := ⟨_, rfl, hP, hD⟩
              have cl_218 : (f_217 0).toInt = (f_207 0).toInt := by rw [ef_217]; rfl
              have cl_219 : (f_217 1).toInt = (f_207 1).toInt := by rw [ef_217]; rfl
              have cl_220 : (f_217 2).toInt = (f_207 2).toInt := by rw [ef_217]; rfl
              have cl_221 : (f_217 3).toInt = (f_207 3).toInt := by rw [ef_217]; rfl
              have cl_222 : (f_217 4).toInt = x_216.toInt := by rw [ef_217]; rfl
              have cl_223 : (f_217 5).toInt = (f_207 5).toInt := by rw [ef_217]; rfl
              obtain ⟨x_224, ex_224⟩ : ∃ y : Int32, y = L2 + 1 := ⟨_, rfl⟩
              refine lv_iinc (v := x_224) (lv' := [(2, .int x_224), (0, .ref A_self), (1, .int a1), (3, .int 3)]) hx hb dX7_lay_94 hl (k := 2) rfl (by rw [ex_224]; rfl) (by decide) rfl (fun ls hl => ?_)
              refine lv_iconst (v := 0) hx hb dX7_lay_97 (by decide) ?_
              refine lv_istore_n (lv' := [(3, .int 0), (2, .int x_224), (0, .ref A_self), (1, .int a1)]) hx hb dX7_lay_98 rfl hl (by decide) rfl (fun ls hl => ?_)
              refine lv_goto (tgt := 45) hx hb dX7_lay_99 (by decide) ?_
              have kzz_225 : (0 : Int32).toInt = 0 := by decide
              have hl := lv_sub hl [2, 3, 1, 0] rfl
              exact (ih45 ((6 * ((f_217 0).toInt + (f_217 1).toInt + (f_217 2).toInt + (f_217 3).toInt + (f_217 4).toInt + (f_217 5).toInt) + 5 - (0 : Int32).toInt).toNat) (by omega) x_224 0 f_217 (by omega) (by omega) (by omega) (by omega) (by omega) (by omega) (by omega) (by omega) (by omega) (by omega) (by omega) (by omega) (by omega) (by omega) (by omega) (by omega) (by omega) (by omega) rfl _ _ _ hP hD hS hl)
            · exfalso; omega
          · skip
            refine lv_iinc (v := 4) (lv' := [(3, .int 4), (0, .ref A_self), (1, .int a1), (2, .int L2)]) hx hb dX7_lay_63 hl (k := 3) rfl (by decide) (by decide) rfl (fun ls hl => ?_)
            refine lv_goto (tgt := 45) hx hb dX7_lay_66 (by decide) ?_
            have kzz_226 : (4 : Int32).toInt = 4 := by decide
            have hl := lv_sub hl [1, 2, 3, 0] rfl
            exact (ih45 ((6 * ((M_cloth 0).toInt + (M_cloth 1).toInt + (M_cloth 2).toInt + (M_cloth 3).toInt + (M_cloth 4).toInt + (M_cloth 5).toInt) + 5 - (4 : Int32).toInt).toNat) (by omega) L2 4 M_cloth (by omega) (by omega) (by omega) (by omega) (by omega) (by omega) (by omega) (by omega) (by omega) (by omega) (by omega) (by omega) (by omega) (by omega) (by omega) (by omega) (by omega) (by omega) rfl _ _ _ hP hD hS hl)
        · exfalso; omega
      · skip
        obtain rfl : L3 = 4 := Int32.toInt_inj.mp (by rw [hsp]; rfl)
        have hl : lv_has ls 4 [(0, .ref A_self), (1, .int a1), (2, .int L2), (3, .int 4)] := hl
        have kzz_227 : (4 : Int32).toInt = 4 := by decide
        refine lv_iload_n hx hb dX7_lay_45 rfl (lv_at hl 3 rfl) ?_
        refine lv_iconst (v := 5) hx hb dX7_lay_46 (by decide) ?_
        refine iicmp_geF (a := 4) (b := 5) (tgt := 102) hx hb (by decide) (by decide) dX7_lay_47 (by decide) (by decide) ?_
        refine lv_aload_n hx hb dX7_lay_50 rfl (lv_at hl 0 rfl) ?_
        refine va_get (D := D) (ci := 7) (v := .ref (q 55)) (C := RX7) (T := TX7) (N := 56) hx hb hts (fun _ h => List.mem_cons_of_mem _ (List.mem_append_right _ h)) hown hK hP 0 rfl rfl 55 (by decide) (hts (.fieldLink RX7 118 "CrownTableModel" "cloth" "[I") (mem_i 2 rfl)) (fun _ h9 => h9) rfl dX7_lay_51 ?_
        refine lv_iload_n hx hb dX7_lay_54 rfl (lv_at hl 3 rfl) ?_
        refine va_iald hx hb hK hP 1 1 rfl rfl (vin (a := 4) (by decide) (by decide) (by decide)) dX7_lay_55 ?_
        refine lv_topi (fun x_228 ex_228 => ?_)
        have lf_229 : (M_cloth 4).toInt = x_228.toInt := by rw [ex_228]; rfl
        refine lv_iload_n hx hb dX7_lay_56 rfl (lv_at hl 3 rfl) ?_
        have hPc := hP.sub (ws' := []) [] rfl
        have hDc := hD.sub (ws' := []) [] (by decide) rfl
        have hFc := va_free (wc := []) hD hS hA [] rfl
        have kzz_230 : (4 : Int32).toInt = 4 := by decide
        refine va_csi (va_runS (As := [.int 4]) (rest := [.int x_228]) ⟨hx, hb, hml, hown, hts⟩ (k_X7_next l D c ts H.size 4 4 (by decide) (by omega)) (cwS 1 hts gX7_lay_X7_next rfl rfl rfl ⟨rfl, hdX7_next⟩ ⟨(show 1 + 1 ≤ 2 by decide), (show 8 + (1 + 11) + 20 ≤ 41 by decide)⟩) ⟨Pre0.blind, Pre0.at hPc hDc hAm hSt hS hFc⟩ rfl rfl hl.1 rfl (lv_room (Nat.le_of_ble_eq_true rfl)) dX7_lay_57 ⟨(show 0 + 0 ≤ 0 by decide), (show 0 + 0 ≤ 0 by decide)⟩) (fun r_232 hw_231 => ?_)
        rcases hw_231 with ⟨hw_231, rfl⟩ | ⟨hw_231, rfl⟩ | ⟨hw_231, rfl⟩ | ⟨hw_231, rfl⟩
        · exfalso; omega
        · exfalso; omega
        · exfalso; omega
        · skip
          refine iicmp_ge (a := x_228.toInt) (b := 10) (tgt := 69) hx hb rfl (by decide) dX7_lay_60 (by decide) (fun k_233 => ?_) (fun k_233 => ?_)
          · skip
            refine lv_aload_n hx hb dX7_lay_69 rfl (lv_at hl 0 rfl) ?_
            refine va_get (D := D) (ci := 7) (v := .ref (q 55)) (C := RX7) (T := TX7) (N := 56) hx hb hts (fun _ h => List.mem_cons_of_mem _ (List.mem_append_right _ h)) hown hK hP 0 rfl rfl 55 (by decide) (hts (.fieldLink RX7 118 "CrownTableModel" "cloth" "[I") (mem_i 2 rfl)) (fun _ h9 => h9) rfl dX7_lay_70 ?_
            refine lv_iload_n hx hb dX7_lay_73 rfl (lv_at hl 3 rfl) ?_
            refine lv_dup2_11 hx hb dX7_lay_74 rfl rfl ?_
            refine va_iald hx hb hK hP 1 1 rfl rfl (vin (a := 4) (by decide) (by decide) (by decide)) dX7_lay_75 ?_
            refine lv_topi (fun x_234 ex_234 => ?_)
            have lf_235 : (M_cloth 4).toInt = x_234.toInt := by rw [ex_234]; rfl
            refine lv_iload_n hx hb dX7_lay_76 rfl (lv_at hl 3 rfl) ?_
            have hPc := hP.sub (ws' := []) [] rfl
            have hDc := hD.sub (ws' := []) [] (by decide) rfl
            have hFc := va_free (wc := []) hD hS hA [] rfl
            have kzz_236 : (4 : Int32).toInt = 4 := by decide
            refine va_csi (va_runS (As := [.int 4]) (rest := [.int x_234, .int 4, .ref (q 55)]) ⟨hx, hb, hml, hown, hts⟩ (k_X7_next l D c ts H.size 4 4 (by decide) (by omega)) (cwS 1 hts gX7_lay_X7_next rfl rfl rfl ⟨rfl, hdX7_next⟩ ⟨(show 1 + 1 ≤ 2 by decide), (show 8 + (1 + 11) + 20 ≤ 41 by decide)⟩) ⟨Pre0.blind, Pre0.at hPc hDc hAm hSt hS hFc⟩ rfl rfl hl.1 rfl (lv_room (Nat.le_of_ble_eq_true rfl)) dX7_lay_77 ⟨(show 0 + 0 ≤ 0 by decide), (show 0 + 0 ≤ 0 by decide)⟩) (fun r_238 hw_237 => ?_)
            rcases hw_237 with ⟨hw_237, rfl⟩ | ⟨hw_237, rfl⟩ | ⟨hw_237, rfl⟩ | ⟨hw_237, rfl⟩
            · exfalso; omega
            · exfalso; omega
            · exfalso; omega
            · skip
              refine lv_isub hx hb dX7_lay_80 ?_
              refine lv_topi (fun x_239 ex_239 => ?_)
              have tx_239 : x_239.toInt = (x_234.toInt - 10) := by rw [ex_239]; exact sub_ti (a := x_234.toInt) (b := 10) rfl (by decide) (by omega) (by omega)
              refine va_iast hx hb hK hP hD hS 1 1 rfl rfl (vin (a := 4) (by decide) (by decide) (by decide)) dX7_lay_81 (fun H locs hP hD hS => ?_)
              obtain ⟨f_240, ef_240, hP, hD⟩ : ∃ f_240 : Nat → Int32, f_240 = upd M_cloth (4 : Int32).toNatClampNeg x_239 ∧ va_P D vwCl [(A_self, .inr (7, o7 q v w)), (q 55, .inl (c 1, 6, .inl f_240))] H ∧ va_D A [(A_self, .inr (7, o7 q v w)), (q 55, .inl (c 1, 6, .inl f_240))] := ⟨_, rfl, hP, hD⟩
              have cl_241 : (f_240 0).toInt = (M_cloth 0).toInt := by rw [ef_240]; rfl
              have cl_242 : (f_240 1).toInt = (M_cloth 1).toInt := by rw [ef_240]; rfl
              have cl_243 : (f_240 2).toInt = (M_cloth 2).toInt := by rw [ef_240]; rfl
              have cl_244 : (f_240 3).toInt = (M_cloth 3).toInt := by rw [ef_240]; rfl
              have cl_245 : (f_240 4).toInt = x_239.toInt := by rw [ef_240]; rfl
              have cl_246 : (f_240 5).toInt = (M_cloth 5).toInt := by rw [ef_240]; rfl
              refine lv_aload_n hx hb dX7_lay_82 rfl (lv_at hl 0 rfl) ?_
              refine va_get (D := D) (ci := 7) (v := .ref (q 55)) (C := RX7) (T := TX7) (N := 56) hx hb hts (fun _ h => List.mem_cons_of_mem _ (List.mem_append_right _ h)) hown hK hP 0 rfl rfl 55 (by decide) (hts (.fieldLink RX7 118 "CrownTableModel" "cloth" "[I") (mem_i 2 rfl)) (fun _ h9 => h9) rfl dX7_lay_83 ?_
              refine lv_iload_n hx hb dX7_lay_86 rfl (lv_at hl 3 rfl) ?_
              refine lv_iconst (v := 1) hx hb dX7_lay_87 (by decide) ?_
              refine lv_iadd hx hb dX7_lay_88 ?_
              refine lk_i (y := 5) (by decide) ?_
              refine lv_dup2_11 hx hb dX7_lay_89 rfl rfl ?_
              refine va_iald hx hb hK hP 1 1 rfl rfl (vin (a := 5) (by decide) (by decide) (by decide)) dX7_lay_90 ?_
              refine lv_topi (fun x_247 ex_247 => ?_)
              have lf_248 : (f_240 5).toInt = x_247.toInt := by rw [ex_247]; rfl
              refine lv_iconst (v := 1) hx hb dX7_lay_91 (by decide) ?_
              refine lv_iadd hx hb dX7_lay_92 ?_
              refine lv_topi (fun x_249 ex_249 => ?_)
              have tx_249 : x_249.toInt = (x_247.toInt + 1) := by rw [ex_249]; exact add_ti (a := x_247.toInt) (b := 1) rfl (by decide) (by omega) (by omega)
              refine va_iast hx hb hK hP hD hS 1 1 rfl rfl (vin (a := 5) (by decide) (by decide) (by decide)) dX7_lay_93 (fun H locs hP hD hS => ?_)
              obtain ⟨f_250, ef_250, hP, hD⟩ : ∃ f_250 : Nat → Int32, f_250 = upd f_240 (5 : Int32).toNatClampNeg x_249 ∧ va_P D vwCl [(A_self, .inr (7, o7 q v w)), (q 55, .inl (c 1, 6, .inl f_250))] H ∧ va_D A [(A_self, .inr (7, o7 q v w)), (q 55, .inl (c 1, 6, .inl f_250))] := ⟨_, rfl, hP, hD⟩
              have cl_251 : (f_250 0).toInt = (f_240 0).toInt := by rw [ef_250]; rfl
              have cl_252 : (f_250 1).toInt = (f_240 1).toInt := by rw [ef_250]; rfl
              have cl_253 : (f_250 2).toInt = (f_240 2).toInt := by rw [ef_250]; rfl
              have cl_254 : (f_250 3).toInt = (f_240 3).toInt := by rw [ef_250]; rfl
              have cl_255 : (f_250 4).toInt = (f_240 4).toInt := by rw [ef_250]; rfl
              have cl_256 : (f_250 5).toInt = x_249.toInt := by rw [ef_250]; rfl
              obtain ⟨x_257, ex_257⟩ : ∃ y : Int32, y = L2 + 1 := ⟨_, rfl⟩
              refine lv_iinc (v := x_257) (lv' := [(2, .int x_257), (0, .ref A_self), (1, .int a1), (3, .int 4)]) hx hb dX7_lay_94 hl (k := 2) rfl (by rw [ex_257]; rfl) (by decide) rfl (fun ls hl => ?_)
              refine lv_iconst (v := 0) hx hb dX7_lay_97 (by decide) ?_
              refine lv_istore_n (lv' := [(3, .int 0), (2, .int x_257), (0, .ref A_self), (1, .int a1)]) hx hb dX7_lay_98 rfl hl (by decide) rfl (fun ls hl => ?_)
              refine lv_goto (tgt := 45) hx hb dX7_lay_99 (by decide) ?_
              have kzz_258 : (0 : Int32).toInt = 0 := by decide
              have hl := lv_sub hl [2, 3, 1, 0] rfl
              exact (ih45 ((6 * ((f_250 0).toInt + (f_250 1).toInt + (f_250 2).toInt + (f_250 3).toInt + (f_250 4).toInt + (f_250 5).toInt) + 5 - (0 : Int32).toInt).toNat) (by omega) x_257 0 f_250 (by omega) (by omega) (by omega) (by omega) (by omega) (by omega) (by omega) (by omega) (by omega) (by omega) (by omega) (by omega) (by omega) (by omega) (by omega) (by omega) (by omega) (by omega) rfl _ _ _ hP hD hS hl)
          · skip
            refine lv_iinc (v := 5) (lv' := [(3, .int 5), (0, .ref A_self), (1, .int a1), (2, .int L2)]) hx hb dX7_lay_63 hl (k := 3) rfl (by decide) (by decide) rfl (fun ls hl => ?_)
            refine lv_goto (tgt := 45) hx hb dX7_lay_66 (by decide) ?_
            have kzz_259 : (5 : Int32).toInt = 5 := by decide
            have hl := lv_sub hl [1, 2, 3, 0] rfl
            exact (ih45 ((6 * ((M_cloth 0).toInt + (M_cloth 1).toInt + (M_cloth 2).toInt + (M_cloth 3).toInt + (M_cloth 4).toInt + (M_cloth 5).toInt) + 5 - (5 : Int32).toInt).toNat) (by omega) L2 5 M_cloth (by omega) (by omega) (by omega) (by omega) (by omega) (by omega) (by omega) (by omega) (by omega) (by omega) (by omega) (by omega) (by omega) (by omega) (by omega) (by omega) (by omega) (by omega) rfl _ _ _ hP hD hS hl)
      · skip
        obtain rfl : L3 = 5 := Int32.toInt_inj.mp (by rw [hsp]; rfl)
        have hl : lv_has ls 4 [(0, .ref A_self), (1, .int a1), (2, .int L2), (3, .int 5)] := hl
        have kzz_260 : (5 : Int32).toInt = 5 := by decide
        refine lv_iload_n hx hb dX7_lay_45 rfl (lv_at hl 3 rfl) ?_
        refine lv_iconst (v := 5) hx hb dX7_lay_46 (by decide) ?_
        refine iicmp_geT (a := 5) (b := 5) (tgt := 102) hx hb (by decide) (by decide) dX7_lay_47 (by decide) (by decide) ?_
        refine lv_iload_n hx hb dX7_lay_102 rfl (lv_at hl 2 rfl) ?_
        have hP9 := hP.sub (ws' := [(A_self, .inr (7, o7 q v w)), (q 55, .inl (c 1, 6, .inl M_cloth))]) [0, 1] rfl
        have hD9 := hD.sub (ws' := [(A_self, .inr (7, o7 q v w)), (q 55, .inl (c 1, 6, .inl M_cloth))]) [0, 1] (by decide) rfl
        refine W.widen (k := 0) (n := 0) (by omega) (by omega) ?_
        exact W.iret (v := L2) hx hb hr (fun t ht hW => ⟨⟨_, (M_cloth, ()), rfl, ⟨(show 0 ≤ (M_cloth 0).toInt ∧ (M_cloth 0).toInt ≤ 11 by omega), (show 0 ≤ (M_cloth 1).toInt ∧ (M_cloth 1).toInt ≤ 19 by omega), (show 0 ≤ (M_cloth 2).toInt ∧ (M_cloth 2).toInt ≤ 19 by omega), (show 0 ≤ (M_cloth 3).toInt ∧ (M_cloth 3).toInt ≤ 4 by omega), (show 0 ≤ (M_cloth 4).toInt ∧ (M_cloth 4).toInt ≤ 9 by omega), (show 0 ≤ (M_cloth 5).toInt ∧ (M_cloth 5).toInt ≤ cb + 5 by omega)⟩, ⟨by rw [ht]; exact hP9, hD9⟩⟩, hS.F ht⟩) hS.2.2 dX7_lay_103
    have kzz_261 : (0 : Int32).toInt = 0 := by decide
    have hl := lv_sub hl [2, 3, 1, 0] rfl
    exact (lp_45 _ 0 0 f_88 (by omega) (by omega) (by omega) (by omega) (by omega) (by omega) (by omega) (by omega) (by omega) (by omega) (by omega) (by omega) (by omega) (by omega) (by omega) (by omega) (by omega) (by omega) rfl _ _ _ hP hD hS hl)
  · skip
    refine iif_neF (a := 0) (tgt := 13) hx hb (by decide) dX7_lay_8 (by decide) (by decide) ?_
    refine lv_iconst (v := (-1)) hx hb dX7_lay_11 (by decide) ?_
    have kzz_262 : ((-1) : Int32).toInt = (-1) := by decide
    have hP9 := hP.sub (ws' := [(A_self, .inr (7, o7 q v w)), (q 55, .inl (c 1, 6, .inl f_cloth))]) [0, 1] rfl
    have hD9 := hD.sub (ws' := [(A_self, .inr (7, o7 q v w)), (q 55, .inl (c 1, 6, .inl f_cloth))]) [0, 1] (by decide) rfl
    refine W.widen (k := 0) (n := 0) (by omega) (by omega) ?_
    exact W.iret (v := (-1)) hx hb hr (fun t ht hW => ⟨⟨_, (f_cloth, ()), rfl, ⟨(show 0 ≤ (f_cloth 0).toInt ∧ (f_cloth 0).toInt ≤ 11 by omega), (show 0 ≤ (f_cloth 1).toInt ∧ (f_cloth 1).toInt ≤ 19 by omega), (show 0 ≤ (f_cloth 2).toInt ∧ (f_cloth 2).toInt ≤ 19 by omega), (show 0 ≤ (f_cloth 3).toInt ∧ (f_cloth 3).toInt ≤ 4 by omega), (show 0 ≤ (f_cloth 4).toInt ∧ (f_cloth 4).toInt ≤ 9 by omega), (show 0 ≤ (f_cloth 5).toInt ∧ (f_cloth 5).toInt ≤ cb + 5 by omega)⟩, ⟨by rw [ht]; exact hP9, hD9⟩⟩, hS.F ht⟩) hS.2.2 dX7_lay_12
