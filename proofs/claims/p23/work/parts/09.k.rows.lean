set_option maxHeartbeats 4000000 in
set_option maxRecDepth 100000 in
theorem k_X7_lies (l : Launch) (D : va_G) (c : Nat → ClassId) (ts : Nat × Nat) (sz : Nat) (A_self : Nat) (q : Nat → Nat) (v : Nat → Int32) (w : Nat → Int64) (f_cloth : Nat → Int32) (hv_2 : 0 ≤ (v 2).toInt ∧ (v 2).toInt ≤ 800) (hv_8 : 0 ≤ (v 8).toInt ∧ (v 8).toInt ≤ 10) (hv_21 : 0 ≤ (v 21).toInt ∧ (v 21).toInt ≤ 40) (hv_24 : 0 ≤ (v 24).toInt ∧ (v 24).toInt ≤ 1000) (hv_27 : 0 ≤ (v 27).toInt ∧ (v 27).toInt ≤ 400) (hv_42 : 0 ≤ (v 42).toInt ∧ (v 42).toInt ≤ 4000) (hv_52 : 0 ≤ (v 52).toInt ∧ (v 52).toInt ≤ 2000) (hq0 : 0 ≤ (f_cloth 0).toInt ∧ (f_cloth 0).toInt ≤ 11) (hq1 : 0 ≤ (f_cloth 1).toInt ∧ (f_cloth 1).toInt ≤ 19) (hq2 : 0 ≤ (f_cloth 2).toInt ∧ (f_cloth 2).toInt ≤ 19) (hq3 : 0 ≤ (f_cloth 3).toInt ∧ (f_cloth 3).toInt ≤ 4) (hq4 : 0 ≤ (f_cloth 4).toInt ∧ (f_cloth 4).toInt ≤ 9) (hq5 : 0 ≤ (f_cloth 5).toInt ∧ (f_cloth 5).toInt ≤ 1000000) : Met l yX7_lies wsX7_lies ({ frames := 1, cells := 0, slots := 0, locals := 20 }) (va_Pc [.ref A_self] (Pre0 D c ts [(A_self, .inr (7, o7 q v w)), (q 55, .inl (c 1, 6, .inl f_cloth))] sz)) (vp_Sl (fun r : Int64 => (r.toInt = (f_cloth 0).toInt + 12 * (f_cloth 1).toInt + 240 * (f_cloth 2).toInt + 4800 * (f_cloth 3).toInt + 24000 * (f_cloth 4).toInt + 240000 * (f_cloth 5).toInt))) 0 0 (fun _ => False) := by
  refine Met.ofW (cc := cX7_lies) (maxL := 4) (ret := (some .long)) (by decide) rfl ?_
  intro p e s m args below meth cd s₁ B hml hv
  obtain ⟨rfl, hsz, hP, hD0, hAm, hSt⟩ := hv
  have hx := B.exec
  have hb := B.bytes
  have hr := B.returns
  have hts := atoms_spec (ws := wsX7_lies) B.pre
  have hown : s.vm.findClass RX7 = some m.cls := findClass_of_methodNamed B.named
  have hlocks := B.notSynchronized
  have hK := hAm.1
  subst hsz
  have hD := hD0.self (sz := s.heap.size)
  generalize hAe : va_A [(A_self, .inr (7, o7 q v w)), (q 55, .inl (c 1, 6, .inl f_cloth))] s.heap.size = A at hD hSt
  have hA : ∀ q : Nat, s.heap.size ≤ q → A q := fun q h => by rw [← hAe]; exact Or.inr h
  have hS : va_S A s.heap s.heap [] := va_S.rf
  clear hD0 hAe
  have hl := lv_entry ([.ref A_self]) (n := 4) (Nat.le_of_ble_eq_true rfl)
  rw [lg_entry_eq]
  generalize (lg_sl ([.ref A_self]) ++ List.replicate (4 - (lg_sl ([.ref A_self])).length) Slot.unset).toArray = ls at hl ⊢
  have hl : lv_has ls 4 [(0, .ref A_self)] := hl
  refine lv_lconst (v := 0) hx hb dX7_lies_0 (by decide) ?_
  refine lv_lstore_n (lv' := [(1, .long 0), (0, .ref A_self)]) hx hb dX7_lies_1 rfl hl (by decide) rfl (fun ls hl => ?_)
  refine lv_iconst (v := 0) hx hb dX7_lies_2 (by decide) ?_
  refine lv_istore_n (lv' := [(3, .int 0), (1, .long 0), (0, .ref A_self)]) hx hb dX7_lies_3 rfl hl (by decide) rfl (fun ls hl => ?_)
  refine lv_iload_n hx hb dX7_lies_4 rfl (lv_at hl 0 rfl) ?_
  refine lv_bipush (v := 6) hx hb dX7_lies_5 (by decide) ?_
  refine iicmp_geF (a := 0) (b := 6) (tgt := 32) hx hb (by decide) (by decide) dX7_lies_7 (by decide) (by decide) ?_
  refine lv_lload_n hx hb dX7_lies_10 rfl (lv_at hl 1 rfl) ?_
  refine lv_aload_n hx hb dX7_lies_11 rfl (lv_at hl 2 rfl) ?_
  refine va_get (D := D) (ci := 7) (v := .ref (q 55)) (C := RX7) (T := TX7) (N := 56) hx hb hts (fun _ h => List.mem_cons_of_mem _ (List.mem_append_right _ h)) hown hK hP 0 rfl rfl 55 (by decide) (hts (.fieldLink RX7 118 "CrownTableModel" "cloth" "[I") (mem_i 1 rfl)) (fun _ h9 => h9) rfl dX7_lies_12 ?_
  refine lv_iload_n hx hb dX7_lies_15 rfl (lv_at hl 0 rfl) ?_
  refine va_iald hx hb hK hP 1 1 rfl rfl (vin (a := 0) (by decide) (by decide) (by decide)) dX7_lies_16 ?_
  refine lv_topi (fun x_1 ex_1 => ?_)
  have lf_2 : (f_cloth 0).toInt = x_1.toInt := by rw [ex_1]; rfl
  refine lv_i2l hx hb dX7_lies_17 rfl ?_
  refine lv_iload_n hx hb dX7_lies_18 rfl (lv_at hl 0 rfl) ?_
  have hPc := hP.sub (ws' := []) [] rfl
  have hDc := hD.sub (ws' := []) [] (by decide) rfl
  have hFc := va_free (wc := []) hD hS hA [] rfl
  have kzz_3 : (0 : Int32).toInt = 0 := by decide
  refine va_csi (va_runS (As := [.int 0]) (rest := [.long x_1.toInt64, .long 0]) ⟨hx, hb, hml, hown, hts⟩ (k_X7_worthOf l D c ts s.heap.size 0 0 (by decide) (by omega)) (cwS 1 hts gX7_lies_X7_worthOf rfl rfl rfl ⟨rfl, hdX7_worthOf⟩ ⟨(show 0 + 1 ≤ 1 by decide), (show 8 + (1 + 11) + 0 ≤ 20 by decide)⟩) ⟨Pre0.blind, Pre0.at hPc hDc hAm hSt hS hFc⟩ rfl rfl hl.1 rfl (lv_room (Nat.le_of_ble_eq_true rfl)) dX7_lies_19 ⟨(show 0 + 0 ≤ 0 by decide), (show 0 + 0 ≤ 0 by decide)⟩) (fun r_5 hw_4 => ?_)
  rcases hw_4 with ⟨hw_4, rfl⟩ | ⟨hw_4, rfl⟩ | ⟨hw_4, rfl⟩ | ⟨hw_4, rfl⟩ | ⟨hw_4, rfl⟩ | ⟨hw_4, rfl⟩
  · skip
    refine lv_i2l (v := 1) hx hb dX7_lies_22 (by decide) ?_
    refine lv_lmul hx hb dX7_lies_23 ?_
    refine lv_topl (fun x_6 ex_6 => ?_)
    have tx_6 : x_6.toInt = x_1.toInt * 1 := by rw [ex_6]; exact mul_tl (show (x_1.toInt64 : Int64).toInt = x_1.toInt from (ti_i2l rfl)) (show (1 : Int64).toInt = 1 from (by decide)) (by omega) (by omega)
    refine lv_ladd hx hb dX7_lies_24 ?_
    refine lv_topl (fun x_7 ex_7 => ?_)
    have tx_7 : x_7.toInt = 0 + (x_1.toInt * 1) := by rw [ex_7]; exact add_tl (show (0 : Int64).toInt = 0 from (by decide)) (show (x_6 : Int64).toInt = (x_1.toInt * 1) from tx_6) (by omega) (by omega)
    refine lv_lstore_n (lv' := [(1, .long x_7), (3, .int 0), (0, .ref A_self)]) hx hb dX7_lies_25 rfl hl (by decide) rfl (fun ls hl => ?_)
    refine lv_iinc (v := 1) (lv' := [(3, .int 1), (1, .long x_7), (0, .ref A_self)]) hx hb dX7_lies_26 hl (k := 1) rfl (by decide) (by decide) rfl (fun ls hl => ?_)
    refine lv_goto (tgt := 4) hx hb dX7_lies_29 (by decide) ?_
    refine lv_iload_n hx hb dX7_lies_4 rfl (lv_at hl 0 rfl) ?_
    refine lv_bipush (v := 6) hx hb dX7_lies_5 (by decide) ?_
    refine iicmp_geF (a := 1) (b := 6) (tgt := 32) hx hb (by decide) (by decide) dX7_lies_7 (by decide) (by decide) ?_
    refine lv_lload_n hx hb dX7_lies_10 rfl (lv_at hl 1 rfl) ?_
    refine lv_aload_n hx hb dX7_lies_11 rfl (lv_at hl 2 rfl) ?_
    refine va_get (D := D) (ci := 7) (v := .ref (q 55)) (C := RX7) (T := TX7) (N := 56) hx hb hts (fun _ h => List.mem_cons_of_mem _ (List.mem_append_right _ h)) hown hK hP 0 rfl rfl 55 (by decide) (hts (.fieldLink RX7 118 "CrownTableModel" "cloth" "[I") (mem_i 1 rfl)) (fun _ h9 => h9) rfl dX7_lies_12 ?_
    refine lv_iload_n hx hb dX7_lies_15 rfl (lv_at hl 0 rfl) ?_
    refine va_iald hx hb hK hP 1 1 rfl rfl (vin (a := 1) (by decide) (by decide) (by decide)) dX7_lies_16 ?_
    refine lv_topi (fun x_8 ex_8 => ?_)
    have lf_9 : (f_cloth 1).toInt = x_8.toInt := by rw [ex_8]; rfl
    refine lv_i2l hx hb dX7_lies_17 rfl ?_
    refine lv_iload_n hx hb dX7_lies_18 rfl (lv_at hl 0 rfl) ?_
    have hPc := hP.sub (ws' := []) [] rfl
    have hDc := hD.sub (ws' := []) [] (by decide) rfl
    have hFc := va_free (wc := []) hD hS hA [] rfl
    have kzz_10 : (1 : Int32).toInt = 1 := by decide
    refine va_csi (va_runS (As := [.int 1]) (rest := [.long x_8.toInt64, .long x_7]) ⟨hx, hb, hml, hown, hts⟩ (k_X7_worthOf l D c ts s.heap.size 1 1 (by decide) (by omega)) (cwS 1 hts gX7_lies_X7_worthOf rfl rfl rfl ⟨rfl, hdX7_worthOf⟩ ⟨(show 0 + 1 ≤ 1 by decide), (show 8 + (1 + 11) + 0 ≤ 20 by decide)⟩) ⟨Pre0.blind, Pre0.at hPc hDc hAm hSt hS hFc⟩ rfl rfl hl.1 rfl (lv_room (Nat.le_of_ble_eq_true rfl)) dX7_lies_19 ⟨(show 0 + 0 ≤ 0 by decide), (show 0 + 0 ≤ 0 by decide)⟩) (fun r_12 hw_11 => ?_)
    rcases hw_11 with ⟨hw_11, rfl⟩ | ⟨hw_11, rfl⟩ | ⟨hw_11, rfl⟩ | ⟨hw_11, rfl⟩ | ⟨hw_11, rfl⟩ | ⟨hw_11, rfl⟩
    · exfalso; omega
    · skip
      refine lv_i2l (v := 12) hx hb dX7_lies_22 (by decide) ?_
      refine lv_lmul hx hb dX7_lies_23 ?_
      refine lv_topl (fun x_13 ex_13 => ?_)
      have tx_13 : x_13.toInt = x_8.toInt * 12 := by rw [ex_13]; exact mul_tl (show (x_8.toInt64 : Int64).toInt = x_8.toInt from (ti_i2l rfl)) (show (12 : Int64).toInt = 12 from (by decide)) (by omega) (by omega)
      refine lv_ladd hx hb dX7_lies_24 ?_
      refine lv_topl (fun x_14 ex_14 => ?_)
      have tx_14 : x_14.toInt = (0 + (x_1.toInt * 1)) + (x_8.toInt * 12) := by rw [ex_14]; exact add_tl (show (x_7 : Int64).toInt = (0 + (x_1.toInt * 1)) from tx_7) (show (x_13 : Int64).toInt = (x_8.toInt * 12) from tx_13) (by omega) (by omega)
      refine lv_lstore_n (lv' := [(1, .long x_14), (3, .int 1), (0, .ref A_self)]) hx hb dX7_lies_25 rfl hl (by decide) rfl (fun ls hl => ?_)
      refine lv_iinc (v := 2) (lv' := [(3, .int 2), (1, .long x_14), (0, .ref A_self)]) hx hb dX7_lies_26 hl (k := 1) rfl (by decide) (by decide) rfl (fun ls hl => ?_)
      refine lv_goto (tgt := 4) hx hb dX7_lies_29 (by decide) ?_
      refine lv_iload_n hx hb dX7_lies_4 rfl (lv_at hl 0 rfl) ?_
      refine lv_bipush (v := 6) hx hb dX7_lies_5 (by decide) ?_
      refine iicmp_geF (a := 2) (b := 6) (tgt := 32) hx hb (by decide) (by decide) dX7_lies_7 (by decide) (by decide) ?_
      refine lv_lload_n hx hb dX7_lies_10 rfl (lv_at hl 1 rfl) ?_
      refine lv_aload_n hx hb dX7_lies_11 rfl (lv_at hl 2 rfl) ?_
      refine va_get (D := D) (ci := 7) (v := .ref (q 55)) (C := RX7) (T := TX7) (N := 56) hx hb hts (fun _ h => List.mem_cons_of_mem _ (List.mem_append_right _ h)) hown hK hP 0 rfl rfl 55 (by decide) (hts (.fieldLink RX7 118 "CrownTableModel" "cloth" "[I") (mem_i 1 rfl)) (fun _ h9 => h9) rfl dX7_lies_12 ?_
      refine lv_iload_n hx hb dX7_lies_15 rfl (lv_at hl 0 rfl) ?_
      refine va_iald hx hb hK hP 1 1 rfl rfl (vin (a := 2) (by decide) (by decide) (by decide)) dX7_lies_16 ?_
      refine lv_topi (fun x_15 ex_15 => ?_)
      have lf_16 : (f_cloth 2).toInt = x_15.toInt := by rw [ex_15]; rfl
      refine lv_i2l hx hb dX7_lies_17 rfl ?_
      refine lv_iload_n hx hb dX7_lies_18 rfl (lv_at hl 0 rfl) ?_
      have hPc := hP.sub (ws' := []) [] rfl
      have hDc := hD.sub (ws' := []) [] (by decide) rfl
      have hFc := va_free (wc := []) hD hS hA [] rfl
      have kzz_17 : (2 : Int32).toInt = 2 := by decide
      refine va_csi (va_runS (As := [.int 2]) (rest := [.long x_15.toInt64, .long x_14]) ⟨hx, hb, hml, hown, hts⟩ (k_X7_worthOf l D c ts s.heap.size 2 2 (by decide) (by omega)) (cwS 1 hts gX7_lies_X7_worthOf rfl rfl rfl ⟨rfl, hdX7_worthOf⟩ ⟨(show 0 + 1 ≤ 1 by decide), (show 8 + (1 + 11) + 0 ≤ 20 by decide)⟩) ⟨Pre0.blind, Pre0.at hPc hDc hAm hSt hS hFc⟩ rfl rfl hl.1 rfl (lv_room (Nat.le_of_ble_eq_true rfl)) dX7_lies_19 ⟨(show 0 + 0 ≤ 0 by decide), (show 0 + 0 ≤ 0 by decide)⟩) (fun r_19 hw_18 => ?_)
      rcases hw_18 with ⟨hw_18, rfl⟩ | ⟨hw_18, rfl⟩ | ⟨hw_18, rfl⟩ | ⟨hw_18, rfl⟩ | ⟨hw_18, rfl⟩ | ⟨hw_18, rfl⟩
      · exfalso; omega
      · exfalso; omega
      · skip
        refine lv_i2l (v := 240) hx hb dX7_lies_22 (by decide) ?_
        refine lv_lmul hx hb dX7_lies_23 ?_
        refine lv_topl (fun x_20 ex_20 => ?_)
        have tx_20 : x_20.toInt = x_15.toInt * 240 := by rw [ex_20]; exact mul_tl (show (x_15.toInt64 : Int64).toInt = x_15.toInt from (ti_i2l rfl)) (show (240 : Int64).toInt = 240 from (by decide)) (by omega) (by omega)
        refine lv_ladd hx hb dX7_lies_24 ?_
        refine lv_topl (fun x_21 ex_21 => ?_)
        have tx_21 : x_21.toInt = ((0 + (x_1.toInt * 1)) + (x_8.toInt * 12)) + (x_15.toInt * 240) := by rw [ex_21]; exact add_tl (show (x_14 : Int64).toInt = ((0 + (x_1.toInt * 1)) + (x_8.toInt * 12)) from tx_14) (show (x_20 : Int64).toInt = (x_15.toInt * 240) from tx_20) (by omega) (by omega)
        refine lv_lstore_n (lv' := [(1, .long x_21), (3, .int 2), (0, .ref A_self)]) hx hb dX7_lies_25 rfl hl (by decide) rfl (fun ls hl => ?_)
        refine lv_iinc (v := 3) (lv' := [(3, .int 3), (1, .long x_21), (0, .ref A_self)]) hx hb dX7_lies_26 hl (k := 1) rfl (by decide) (by decide) rfl (fun ls hl => ?_)
        refine lv_goto (tgt := 4) hx hb dX7_lies_29 (by decide) ?_
        refine lv_iload_n hx hb dX7_lies_4 rfl (lv_at hl 0 rfl) ?_
        refine lv_bipush (v := 6) hx hb dX7_lies_5 (by decide) ?_
        refine iicmp_geF (a := 3) (b := 6) (tgt := 32) hx hb (by decide) (by decide) dX7_lies_7 (by decide) (by decide) ?_
        refine lv_lload_n hx hb dX7_lies_10 rfl (lv_at hl 1 rfl) ?_
        refine lv_aload_n hx hb dX7_lies_11 rfl (lv_at hl 2 rfl) ?_
        refine va_get (D := D) (ci := 7) (v := .ref (q 55)) (C := RX7) (T := TX7) (N := 56) hx hb hts (fun _ h => List.mem_cons_of_mem _ (List.mem_append_right _ h)) hown hK hP 0 rfl rfl 55 (by decide) (hts (.fieldLink RX7 118 "CrownTableModel" "cloth" "[I") (mem_i 1 rfl)) (fun _ h9 => h9) rfl dX7_lies_12 ?_
        refine lv_iload_n hx hb dX7_lies_15 rfl (lv_at hl 0 rfl) ?_
        refine va_iald hx hb hK hP 1 1 rfl rfl (vin (a := 3) (by decide) (by decide) (by decide)) dX7_lies_16 ?_
        refine lv_topi (fun x_22 ex_22 => ?_)
        have lf_23 : (f_cloth 3).toInt = x_22.toInt := by rw [ex_22]; rfl
        refine lv_i2l hx hb dX7_lies_17 rfl ?_
        refine lv_iload_n hx hb dX7_lies_18 rfl (lv_at hl 0 rfl) ?_
        have hPc := hP.sub (ws' := []) [] rfl
        have hDc := hD.sub (ws' := []) [] (by decide) rfl
        have hFc := va_free (wc := []) hD hS hA [] rfl
        have kzz_24 : (3 : Int32).toInt = 3 := by decide
        refine va_csi (va_runS (As := [.int 3]) (rest := [.long x_22.toInt64, .long x_21]) ⟨hx, hb, hml, hown, hts⟩ (k_X7_worthOf l D c ts s.heap.size 3 3 (by decide) (by omega)) (cwS 1 hts gX7_lies_X7_worthOf rfl rfl rfl ⟨rfl, hdX7_worthOf⟩ ⟨(show 0 + 1 ≤ 1 by decide), (show 8 + (1 + 11) + 0 ≤ 20 by decide)⟩) ⟨Pre0.blind, Pre0.at hPc hDc hAm hSt hS hFc⟩ rfl rfl hl.1 rfl (lv_room (Nat.le_of_ble_eq_true rfl)) dX7_lies_19 ⟨(show 0 + 0 ≤ 0 by decide), (show 0 + 0 ≤ 0 by decide)⟩) (fun r_26 hw_25 => ?_)
        rcases hw_25 with ⟨hw_25, rfl⟩ | ⟨hw_25, rfl⟩ | ⟨hw_25, rfl⟩ | ⟨hw_25, rfl⟩ | ⟨hw_25, rfl⟩ | ⟨hw_25, rfl⟩
        · exfalso; omega
        · exfalso; omega
        · exfalso; omega
        · skip
          refine lv_i2l (v := 4800) hx hb dX7_lies_22 (by decide) ?_
          refine lv_lmul hx hb dX7_lies_23 ?_
          refine lv_topl (fun x_27 ex_27 => ?_)
          have tx_27 : x_27.toInt = x_22.toInt * 4800 := by rw [ex_27]; exact mul_tl (show (x_22.toInt64 : Int64).toInt = x_22.toInt from (ti_i2l rfl)) (show (4800 : Int64).toInt = 4800 from (by decide)) (by omega) (by omega)
          refine lv_ladd hx hb dX7_lies_24 ?_
          refine lv_topl (fun x_28 ex_28 => ?_)
          have tx_28 : x_28.toInt = (((0 + (x_1.toInt * 1)) + (x_8.toInt * 12)) + (x_15.toInt * 240)) + (x_22.toInt * 4800) := by rw [ex_28]; exact add_tl (show (x_21 : Int64).toInt = (((0 + (x_1.toInt * 1)) + (x_8.toInt * 12)) + (x_15.toInt * 240)) from tx_21) (show (x_27 : Int64).toInt = (x_22.toInt * 4800) from tx_27) (by omega) (by omega)
          refine lv_lstore_n (lv' := [(1, .long x_28), (3, .int 3), (0, .ref A_self)]) hx hb dX7_lies_25 rfl hl (by decide) rfl (fun ls hl => ?_)
          refine lv_iinc (v := 4) (lv' := [(3, .int 4), (1, .long x_28), (0, .ref A_self)]) hx hb dX7_lies_26 hl (k := 1) rfl (by decide) (by decide) rfl (fun ls hl => ?_)
          refine lv_goto (tgt := 4) hx hb dX7_lies_29 (by decide) ?_
          refine lv_iload_n hx hb dX7_lies_4 rfl (lv_at hl 0 rfl) ?_
          refine lv_bipush (v := 6) hx hb dX7_lies_5 (by decide) ?_
          refine iicmp_geF (a := 4) (b := 6) (tgt := 32) hx hb (by decide) (by decide) dX7_lies_7 (by decide) (by decide) ?_
          refine lv_lload_n hx hb dX7_lies_10 rfl (lv_at hl 1 rfl) ?_
          refine lv_aload_n hx hb dX7_lies_11 rfl (lv_at hl 2 rfl) ?_
          refine va_get (D := D) (ci := 7) (v := .ref (q 55)) (C := RX7) (T := TX7) (N := 56) hx hb hts (fun _ h => List.mem_cons_of_mem _ (List.mem_append_right _ h)) hown hK hP 0 rfl rfl 55 (by decide) (hts (.fieldLink RX7 118 "CrownTableModel" "cloth" "[I") (mem_i 1 rfl)) (fun _ h9 => h9) rfl dX7_lies_12 ?_
          refine lv_iload_n hx hb dX7_lies_15 rfl (lv_at hl 0 rfl) ?_
          refine va_iald hx hb hK hP 1 1 rfl rfl (vin (a := 4) (by decide) (by decide) (by decide)) dX7_lies_16 ?_
          refine lv_topi (fun x_29 ex_29 => ?_)
          have lf_30 : (f_cloth 4).toInt = x_29.toInt := by rw [ex_29]; rfl
          refine lv_i2l hx hb dX7_lies_17 rfl ?_
          refine lv_iload_n hx hb dX7_lies_18 rfl (lv_at hl 0 rfl) ?_
          have hPc := hP.sub (ws' := []) [] rfl
          have hDc := hD.sub (ws' := []) [] (by decide) rfl
          have hFc := va_free (wc := []) hD hS hA [] rfl
          have kzz_31 : (4 : Int32).toInt = 4 := by decide
          refine va_csi (va_runS (As := [.int 4]) (rest := [.long x_29.toInt64, .long x_28]) ⟨hx, hb, hml, hown, hts⟩ (k_X7_worthOf l D c ts s.heap.size 4 4 (by decide) (by omega)) (cwS 1 hts gX7_lies_X7_worthOf rfl rfl rfl ⟨rfl, hdX7_worthOf⟩ ⟨(show 0 + 1 ≤ 1 by decide), (show 8 + (1 + 11) + 0 ≤ 20 by decide)⟩) ⟨Pre0.blind, Pre0.at hPc hDc hAm hSt hS hFc⟩ rfl rfl hl.1 rfl (lv_room (Nat.le_of_ble_eq_true rfl)) dX7_lies_19 ⟨(show 0 + 0 ≤ 0 by decide), (show 0 + 0 ≤ 0 by decide)⟩) (fun r_33 hw_32 => ?_)
          rcases hw_32 with ⟨hw_32, rfl⟩ | ⟨hw_32, rfl⟩ | ⟨hw_32, rfl⟩ | ⟨hw_32, rfl⟩ | ⟨hw_32, rfl⟩ | ⟨hw_32, rfl⟩
          · exfalso; omega
          · exfalso; omega
          · exfalso; omega
          · exfalso; omega
          · skip
            refine lv_i2l (v := 24000) hx hb dX7_lies_22 (by decide) ?_
            refine lv_lmul hx hb dX7_lies_23 ?_
            refine lv_topl (fun x_34 ex_34 => ?_)
            have tx_34 : x_34.toInt = x_29.toInt * 24000 := by rw [ex_34]; exact mul_tl (show (x_29.toInt64 : Int64).toInt = x_29.toInt from (ti_i2l rfl)) (show (24000 : Int64).toInt = 24000 from (by decide)) (by omega) (by omega)
            refine lv_ladd hx hb dX7_lies_24 ?_
            refine lv_topl (fun x_35 ex_35 => ?_)
            have tx_35 : x_35.toInt = ((((0 + (x_1.toInt * 1)) + (x_8.toInt * 12)) + (x_15.toInt * 240)) + (x_22.toInt * 4800)) + (x_29.toInt * 24000) := by rw [ex_35]; exact add_tl (show (x_28 : Int64).toInt = ((((0 + (x_1.toInt * 1)) + (x_8.toInt * 12)) + (x_15.toInt * 240)) + (x_22.toInt * 4800)) from tx_28) (show (x_34 : Int64).toInt = (x_29.toInt * 24000) from tx_34) (by omega) (by omega)
            refine lv_lstore_n (lv' := [(1, .long x_35), (3, .int 4), (0, .ref A_self)]) hx hb dX7_lies_25 rfl hl (by decide) rfl (fun ls hl => ?_)
            refine lv_iinc (v := 5) (lv' := [(3, .int 5), (1, .long x_35), (0, .ref A_self)]) hx hb dX7_lies_26 hl (k := 1) rfl (by decide) (by decide) rfl (fun ls hl => ?_)
            refine lv_goto (tgt := 4) hx hb dX7_lies_29 (by decide) ?_
            refine lv_iload_n hx hb dX7_lies_4 rfl (lv_at hl 0 rfl) ?_
            refine lv_bipush (v := 6) hx hb dX7_lies_5 (by decide) ?_
            refine iicmp_geF (a := 5) (b := 6) (tgt := 32) hx hb (by decide) (by decide) dX7_lies_7 (by decide) (by decide) ?_
            refine lv_lload_n hx hb dX7_lies_10 rfl (lv_at hl 1 rfl) ?_
            refine lv_aload_n hx hb dX7_lies_11 rfl (lv_at hl 2 rfl) ?_
            refine va_get (D := D) (ci := 7) (v := .ref (q 55)) (C := RX7) (T := TX7) (N := 56) hx hb hts (fun _ h => List.mem_cons_of_mem _ (List.mem_append_right _ h)) hown hK hP 0 rfl rfl 55 (by decide) (hts (.fieldLink RX7 118 "CrownTableModel" "cloth" "[I") (mem_i 1 rfl)) (fun _ h9 => h9) rfl dX7_lies_12 ?_
            refine lv_iload_n hx hb dX7_lies_15 rfl (lv_at hl 0 rfl) ?_
            refine va_iald hx hb hK hP 1 1 rfl rfl (vin (a := 5) (by decide) (by decide) (by decide)) dX7_lies_16 ?_
            refine lv_topi (fun x_36 ex_36 => ?_)
            have lf_37 : (f_cloth 5).toInt = x_36.toInt := by rw [ex_36]; rfl
            refine lv_i2l hx hb dX7_lies_17 rfl ?_
            refine lv_iload_n hx hb dX7_lies_18 rfl (lv_at hl 0 rfl) ?_
            have hPc := hP.sub (ws' := []) [] rfl
            have hDc := hD.sub (ws' := []) [] (by decide) rfl
            have hFc := va_free (wc := []) hD hS hA [] rfl
            have kzz_38 : (5 : Int32).toInt = 5 := by decide
            refine va_csi (va_runS (As := [.int 5]) (rest := [.long x_36.toInt64, .long x_35]) ⟨hx, hb, hml, hown, hts⟩ (k_X7_worthOf l D c ts s.heap.size 5 5 (by decide) (by omega)) (cwS 1 hts gX7_lies_X7_worthOf rfl rfl rfl ⟨rfl, hdX7_worthOf⟩ ⟨(show 0 + 1 ≤ 1 by decide), (show 8 + (1 + 11) + 0 ≤ 20 by decide)⟩) ⟨Pre0.blind, Pre0.at hPc hDc hAm hSt hS hFc⟩ rfl rfl hl.1 rfl (lv_room (Nat.le_of_ble_eq_true rfl)) dX7_lies_19 ⟨(show 0 + 0 ≤ 0 by decide), (show 0 + 0 ≤ 0 by decide)⟩) (fun r_40 hw_39 => ?_)
            rcases hw_39 with ⟨hw_39, rfl⟩ | ⟨hw_39, rfl⟩ | ⟨hw_39, rfl⟩ | ⟨hw_39, rfl⟩ | ⟨hw_39, rfl⟩ | ⟨hw_39, rfl⟩
            · exfalso; omega
            · exfalso; omega
            · exfalso; omega
            · exfalso; omega
            · exfalso; omega
            · skip
              refine lv_i2l (v := 240000) hx hb dX7_lies_22 (by decide) ?_
              refine lv_lmul hx hb dX7_lies_23 ?_
              refine lv_topl (fun x_41 ex_41 => ?_)
              have tx_41 : x_41.toInt = x_36.toInt * 240000 := by rw [ex_41]; exact mul_tl (show (x_36.toInt64 : Int64).toInt = x_36.toInt from (ti_i2l rfl)) (show (240000 : Int64).toInt = 240000 from (by decide)) (by omega) (by omega)
              refine lv_ladd hx hb dX7_lies_24 ?_
              refine lv_topl (fun x_42 ex_42 => ?_)
              have tx_42 : x_42.toInt = (((((0 + (x_1.toInt * 1)) + (x_8.toInt * 12)) + (x_15.toInt * 240)) + (x_22.toInt * 4800)) + (x_29.toInt * 24000)) + (x_36.toInt * 240000) := by rw [ex_42]; exact add_tl (show (x_35 : Int64).toInt = (((((0 + (x_1.toInt * 1)) + (x_8.toInt * 12)) + (x_15.toInt * 240)) + (x_22.toInt * 4800)) + (x_29.toInt * 24000)) from tx_35) (show (x_41 : Int64).toInt = (x_36.toInt * 240000) from tx_41) (by omega) (by omega)
              refine lv_lstore_n (lv' := [(1, .long x_42), (3, .int 5), (0, .ref A_self)]) hx hb dX7_lies_25 rfl hl (by decide) rfl (fun ls hl => ?_)
              refine lv_iinc (v := 6) (lv' := [(3, .int 6), (1, .long x_42), (0, .ref A_self)]) hx hb dX7_lies_26 hl (k := 1) rfl (by decide) (by decide) rfl (fun ls hl => ?_)
              refine lv_goto (tgt := 4) hx hb dX7_lies_29 (by decide) ?_
              refine lv_iload_n hx hb dX7_lies_4 rfl (lv_at hl 0 rfl) ?_
              refine lv_bipush (v := 6) hx hb dX7_lies_5 (by decide) ?_
              refine iicmp_geT (a := 6) (b := 6) (tgt := 32) hx hb (by decide) (by decide) dX7_lies_7 (by decide) (by decide) ?_
              refine lv_lload_n hx hb dX7_lies_32 rfl (lv_at hl 1 rfl) ?_
              exact W.lret (v := x_42) hx hb hr (fun t ht hW => ⟨_, rfl, (by omega), ht⟩) (fun _ h => by cases h) dX7_lies_33
          · exfalso; omega
        · exfalso; omega
        · exfalso; omega
      · exfalso; omega
      · exfalso; omega
      · exfalso; omega
    · exfalso; omega
    · exfalso; omega
    · exfalso; omega
    · exfalso; omega
  · exfalso; omega
  · exfalso; omega
  · exfalso; omega
  · exfalso; omega
  · exfalso; omega

set_option maxHeartbeats 4000000 in
set_option maxRecDepth 100000 in
theorem k_X7_lay (l : Launch) (D : va_G) (c : Nat → ClassId) (ts : Nat × Nat) (sz : Nat) (A_self : Nat) (q : Nat → Nat) (v : Nat → Int32) (w : Nat → Int64) (f_cloth : Nat → Int32) (cb : Int) (a1 : Int32) (i_a1 : Int) (hi_a1 : a1.toInt = i_a1) (hv_2 : 0 ≤ (v 2).toInt ∧ (v 2).toInt ≤ 800) (hv_8 : 0 ≤ (v 8).toInt ∧ (v 8).toInt ≤ 10) (hv_21 : 0 ≤ (v 21).toInt ∧ (v 21).toInt ≤ 40) (hv_24 : 0 ≤ (v 24).toInt ∧ (v 24).toInt ≤ 1000) (hv_27 : 0 ≤ (v 27).toInt ∧ (v 27).toInt ≤ 400) (hv_42 : 0 ≤ (v 42).toInt ∧ (v 42).toInt ≤ 4000) (hv_52 : 0 ≤ (v 52).toInt ∧ (v 52).toInt ≤ 2000) (hq0 : 0 ≤ (f_cloth 0).toInt ∧ (f_cloth 0).toInt ≤ 11) (hq1 : 0 ≤ (f_cloth 1).toInt ∧ (f_cloth 1).toInt ≤ 19) (hq2 : 0 ≤ (f_cloth 2).toInt ∧ (f_cloth 2).toInt ≤ 19) (hq3 : 0 ≤ (f_cloth 3).toInt ∧ (f_cloth 3).toInt ≤ 4) (hq4 : 0 ≤ (f_cloth 4).toInt ∧ (f_cloth 4).toInt ≤ 9) (hq5 : 0 ≤ (f_cloth 5).toInt ∧ (f_cloth 5).toInt ≤ 1000000) (hq6 : (f_cloth 5).toInt ≤ cb ∧ cb ≤ 900000) : Met l yX7_lay wsX7_lay ({ frames := 2, cells := 0, slots := 0, locals := 41 }) (va_Pc [.ref A_self, .int a1] (Pre0 D c ts [(A_self, .inr (7, o7 q v w)), (q 55, .inl (c 1, 6, .inl f_cloth))] sz)) (va_Qi (fun (r : Int32) (u : (Nat → Int32) × Unit) => (0 ≤ (u.1 0).toInt ∧ (u.1 0).toInt ≤ 11) ∧ (0 ≤ (u.1 1).toInt ∧ (u.1 1).toInt ≤ 19) ∧ (0 ≤ (u.1 2).toInt ∧ (u.1 2).toInt ≤ 19) ∧ (0 ≤ (u.1 3).toInt ∧ (u.1 3).toInt ≤ 4) ∧ (0 ≤ (u.1 4).toInt ∧ (u.1 4).toInt ≤ 9) ∧ (0 ≤ (u.1 5).toInt ∧ (u.1 5).toInt ≤ cb + 5) ∧ ((r.toInt = -1 ∧ ¬ (1 ≤ i_a1 ∧ i_a1 ≤ 1000000) ∧ (u.1 0).toInt = (f_cloth 0).toInt ∧ (u.1 1).toInt = (f_cloth 1).toInt ∧ (u.1 2).toInt = (f_cloth 2).toInt ∧ (u.1 3).toInt = (f_cloth 3).toInt ∧ (u.1 4).toInt = (f_cloth 4).toInt ∧ (u.1 5).toInt = (f_cloth 5).toInt) ∨ ((1 ≤ i_a1 ∧ i_a1 ≤ 1000000) ∧ LayI (f_cloth 0).toInt (f_cloth 1).toInt (f_cloth 2).toInt (f_cloth 3).toInt (f_cloth 4).toInt (f_cloth 5).toInt (u.1 0).toInt (u.1 1).toInt (u.1 2).toInt (u.1 3).toInt (u.1 4).toInt (u.1 5).toInt i_a1 r.toInt ∧ (0 ≤ (u.1 0).toInt ∧ (u.1 0).toInt ≤ 11) ∧ (0 ≤ (u.1 1).toInt ∧ (u.1 1).toInt ≤ 19) ∧ (0 ≤ (u.1 2).toInt ∧ (u.1 2).toInt ≤ 19) ∧ (0 ≤ (u.1 3).toInt ∧ (u.1 3).toInt ≤ 4) ∧ (0 ≤ (u.1 4).toInt ∧ (u.1 4).toInt ≤ 9)))) (fun u t => va_P D vwCl [(A_self, .inr (7, o7 q v w)), (q 55, .inl (c 1, 6, .inl u.1))] t.heap ∧ va_D (va_A [(A_self, .inr (7, o7 q v w)), (q 55, .inl (c 1, 6, .inl f_cloth))] sz) [(A_self, .inr (7, o7 q v w)), (q 55, .inl (c 1, 6, .inl u.1))]) (va_A [(A_self, .inr (7, o7 q v w)), (q 55, .inl (c 1, 6, .inl f_cloth))] sz)) 0 0 (va_A [(A_self, .inr (7, o7 q v w)), (q 55, .inl (c 1, 6, .inl f_cloth))] sz) := by
  refine Met.ofW (cc := cX7_lay) (maxL := 4) (ret := (some .int)) (by decide) rfl ?_
  intro p e s m args below meth cd s₁ B hml hv
  obtain ⟨rfl, hsz, hP, hD0, hAm, hSt⟩ := hv
  have hx := B.exec
  have hb := B.bytes
  have hr := B.returns
  have hts := atoms_spec (ws := wsX7_lay) B.pre
  have hown : s.vm.findClass RX7 = some m.cls := findClass_of_methodNamed B.named
  have hlocks := B.notSynchronized
  have hK := hAm.1
  subst hsz
  have hD := hD0.self (sz := s.heap.size)
  generalize hAe : va_A [(A_self, .inr (7, o7 q v w)), (q 55, .inl (c 1, 6, .inl f_cloth))] s.heap.size = A at hD hSt ⊢
  have hA : ∀ q : Nat, s.heap.size ≤ q → A q := fun q h => by rw [← hAe]; exact Or.inr h
  have hS : va_S A s.heap s.heap [] := va_S.rf
  clear hD0 hAe
  have hl := lv_entry ([.ref A_self, .int a1]) (n := 4) (Nat.le_of_ble_eq_true rfl)
  rw [lg_entry_eq]
  generalize (lg_sl ([.ref A_self, .int a1]) ++ List.replicate (4 - (lg_sl ([.ref A_self, .int a1])).length) Slot.unset).toArray = ls at hl ⊢
  have hl : lv_has ls 4 [(0, .ref A_self), (1, .int a1)] := hl
  have rg_a1 := i32r a1
  refine lv_iload_n hx hb dX7_lay_0 rfl (lv_at hl 1 rfl) ?_
  refine lv_iconst (v := 1) hx hb dX7_lay_1 (by decide) ?_
  refine lv_ldcw (v := 1000000) hx hb hown (hts (.constant RX7 284 (1000000)) (mem_i 1 rfl)) dX7_lay_2 ?_
  have hPc := hP.sub (ws' := []) [] rfl
  have hDc := hD.sub (ws' := []) [] (by decide) rfl
  have hFc := va_free (wc := []) hD hS hA [] rfl
  have kzz_1 : (1 : Int32).toInt = 1 := by decide
  have kzz_2 : (1000000 : Int32).toInt = 1000000 := by decide
  refine va_csi (va_runS (As := [.int a1, .int 1, .int 1000000]) (rest := []) ⟨hx, hb, hml, hown, hts⟩ (k_X7_in l D c ts s.heap.size a1 i_a1 hi_a1 1 1 (by decide) 1000000 1000000 (by decide)) (cwS 3 hts gX7_lay_X7_in rfl rfl rfl ⟨rfl, hdX7_in⟩ ⟨(show 0 + 1 ≤ 2 by decide), (show 8 + (3 + 11) + 0 ≤ 41 by decide)⟩) ⟨Pre0.blind, Pre0.at hPc hDc hAm hSt hS hFc⟩ rfl rfl hl.1 rfl (lv_room (Nat.le_of_ble_eq_true rfl)) dX7_lay_5 ⟨(show 0 + 0 ≤ 0 by decide), (show 0 + 0 ≤ 0 by decide)⟩) (fun r_4 hw_3 => ?_)
  rcases hw_3 with ⟨hw_3, rfl⟩ | ⟨hw_3, rfl⟩
  · skip
    refine iif_neT (a := 1) (tgt := 13) hx hb (by decide) dX7_lay_8 (by decide) (by decide) ?_
    obtain ⟨n0, n1, n2, n3, n4, n5, hDg⟩ := DgI.ex i_a1
    obtain ⟨nb0, nb1, nb2, nb3, nb4, nb5, nz⟩ := hDg.bd (by omega)
    clear nz
    refine lv_iconst (v := 0) hx hb dX7_lay_13 (by decide) ?_
    refine lv_istore_n (lv' := [(2, .int 0), (0, .ref A_self), (1, .int a1)]) hx hb dX7_lay_14 rfl hl (by decide) rfl (fun ls hl => ?_)
    refine lv_iload_n hx hb dX7_lay_15 rfl (lv_at hl 0 rfl) ?_
    refine lv_bipush (v := 6) hx hb dX7_lay_16 (by decide) ?_
    refine iicmp_geF (a := 0) (b := 6) (tgt := 41) hx hb (by decide) (by decide) dX7_lay_18 (by decide) (by decide) ?_
    refine lv_aload_n hx hb dX7_lay_21 rfl (lv_at hl 1 rfl) ?_
    refine va_get (D := D) (ci := 7) (v := .ref (q 55)) (C := RX7) (T := TX7) (N := 56) hx hb hts (fun _ h => List.mem_cons_of_mem _ (List.mem_append_right _ h)) hown hK hP 0 rfl rfl 55 (by decide) (hts (.fieldLink RX7 118 "CrownTableModel" "cloth" "[I") (mem_i 2 rfl)) (fun _ h9 => h9) rfl dX7_lay_22 ?_
    refine lv_iload_n hx hb dX7_lay_25 rfl (lv_at hl 0 rfl) ?_
    refine lv_dup2_11 hx hb dX7_lay_26 rfl rfl ?_
    refine va_iald hx hb hK hP 1 1 rfl rfl (vin (a := 0) (by decide) (by decide) (by decide)) dX7_lay_27 ?_
    refine lv_topi (fun x_5 ex_5 => ?_)
    have lf_6 : (f_cloth 0).toInt = x_5.toInt := by rw [ex_5]; rfl
    refine lv_iload_n hx hb dX7_lay_28 rfl (lv_at hl 2 rfl) ?_
    refine lv_iload_n hx hb dX7_lay_29 rfl (lv_at hl 0 rfl) ?_
    have hPc := hP.sub (ws' := []) [] rfl
    have hDc := hD.sub (ws' := []) [] (by decide) rfl
    have hFc := va_free (wc := []) hD hS hA [] rfl
    have kzz_7 : (0 : Int32).toInt = 0 := by decide
    refine va_csi (va_runS (As := [.int a1, .int 0]) (rest := [.int x_5, .int 0, .ref (q 55)]) ⟨hx, hb, hml, hown, hts⟩ (k_X7_notch_P l D c ts s.heap.size a1 i_a1 hi_a1 0 0 (by decide) (by omega) (by omega)) (cwS 2 hts gX7_lay_X7_notch rfl rfl rfl ⟨rfl, hdX7_notch⟩ ⟨(show 1 + 1 ≤ 2 by decide), (show 8 + (2 + 11) + 20 ≤ 41 by decide)⟩) ⟨Pre0.blind, Pre0.at hPc hDc hAm hSt hS hFc⟩ rfl rfl hl.1 rfl (lv_room (Nat.le_of_ble_eq_true rfl)) dX7_lay_30 ⟨(show 0 + 0 ≤ 0 by decide), (show 0 + 0 ≤ 0 by decide)⟩) (fun r_9 hw_8 => ?_)
    have nf_10 : r_9.toInt = n0 := (hw_8.2.1 rfl).trans hDg.1
    clear hw_8
    have rg_r_9 := i32r r_9
    refine lv_iadd hx hb dX7_lay_33 ?_
    refine lv_topi (fun x_11 ex_11 => ?_)
    have tx_11 : x_11.toInt = (x_5.toInt + r_9.toInt) := by rw [ex_11]; exact add_ti (a := x_5.toInt) (b := r_9.toInt) rfl rfl (by omega) (by omega)
    refine va_iast hx hb hK hP hD hS 1 1 rfl rfl (vin (a := 0) (by decide) (by decide) (by decide)) dX7_lay_34 (fun H locs hP hD hS => ?_)
    obtain ⟨f_12, ef_12, hP, hD⟩ : ∃ f_12 : Nat → Int32, f_12 = upd f_cloth (0 : Int32).toNatClampNeg x_11 ∧ va_P D vwCl [(A_self, .inr (7, o7 q v w)), (q 55, .inl (c 1, 6, .inl f_12))] H ∧ va_D A [(A_self, .inr (7, o7 q v w)), (q 55, .inl (c 1, 6, .inl f_12))] := ⟨_, rfl, hP, hD⟩
    have cl_13 : (f_12 0).toInt = x_11.toInt := by rw [ef_12]; rfl
    have cl_14 : (f_12 1).toInt = (f_cloth 1).toInt := by rw [ef_12]; rfl
    have cl_15 : (f_12 2).toInt = (f_cloth 2).toInt := by rw [ef_12]; rfl
    have cl_16 : (f_12 3).toInt = (f_cloth 3).toInt := by rw [ef_12]; rfl
    have cl_17 : (f_12 4).toInt = (f_cloth 4).toInt := by rw [ef_12]; rfl
    have cl_18 : (f_12 5).toInt = (f_cloth 5).toInt := by rw [ef_12]; rfl
    refine lv_iinc (v := 1) (lv' := [(2, .int 1), (0, .ref A_self), (1, .int a1)]) hx hb dX7_lay_35 hl (k := 0) rfl (by decide) (by decide) rfl (fun ls hl => ?_)
    refine lv_goto (tgt := 15) hx hb dX7_lay_38 (by decide) ?_
    refine lv_iload_n hx hb dX7_lay_15 rfl (lv_at hl 0 rfl) ?_
    refine lv_bipush (v := 6) hx hb dX7_lay_16 (by decide) ?_
    refine iicmp_geF (a := 1) (b := 6) (tgt := 41) hx hb (by decide) (by decide) dX7_lay_18 (by decide) (by decide) ?_
    refine lv_aload_n hx hb dX7_lay_21 rfl (lv_at hl 1 rfl) ?_
    refine va_get (D := D) (ci := 7) (v := .ref (q 55)) (C := RX7) (T := TX7) (N := 56) hx hb hts (fun _ h => List.mem_cons_of_mem _ (List.mem_append_right _ h)) hown hK hP 0 rfl rfl 55 (by decide) (hts (.fieldLink RX7 118 "CrownTableModel" "cloth" "[I") (mem_i 2 rfl)) (fun _ h9 => h9) rfl dX7_lay_22 ?_
    refine lv_iload_n hx hb dX7_lay_25 rfl (lv_at hl 0 rfl) ?_
    refine lv_dup2_11 hx hb dX7_lay_26 rfl rfl ?_
    refine va_iald hx hb hK hP 1 1 rfl rfl (vin (a := 1) (by decide) (by decide) (by decide)) dX7_lay_27 ?_
    refine lv_topi (fun x_19 ex_19 => ?_)
    have lf_20 : (f_12 1).toInt = x_19.toInt := by rw [ex_19]; rfl
    refine lv_iload_n hx hb dX7_lay_28 rfl (lv_at hl 2 rfl) ?_
    refine lv_iload_n hx hb dX7_lay_29 rfl (lv_at hl 0 rfl) ?_
    have hPc := hP.sub (ws' := []) [] rfl
    have hDc := hD.sub (ws' := []) [] (by decide) rfl
    have hFc := va_free (wc := []) hD hS hA [] rfl
    have kzz_21 : (1 : Int32).toInt = 1 := by decide
    refine va_csi (va_runS (As := [.int a1, .int 1]) (rest := [.int x_19, .int 1, .ref (q 55)]) ⟨hx, hb, hml, hown, hts⟩ (k_X7_notch_P l D c ts H.size a1 i_a1 hi_a1 1 1 (by decide) (by omega) (by omega)) (cwS 2 hts gX7_lay_X7_notch rfl rfl rfl ⟨rfl, hdX7_notch⟩ ⟨(show 1 + 1 ≤ 2 by decide), (show 8 + (2 + 11) + 20 ≤ 41 by decide)⟩) ⟨Pre0.blind, Pre0.at hPc hDc hAm hSt hS hFc⟩ rfl rfl hl.1 rfl (lv_room (Nat.le_of_ble_eq_true rfl)) dX7_lay_30 ⟨(show 0 + 0 ≤ 0 by decide), (show 0 + 0 ≤ 0 by decide)⟩) (fun r_23 hw_22 => ?_)
    have nf_24 : r_23.toInt = n1 := (hw_22.2.2.1 rfl).trans hDg.2.1
    clear hw_22
    have rg_r_23 := i32r r_23
    refine lv_iadd hx hb dX7_lay_33 ?_
    refine lv_topi (fun x_25 ex_25 => ?_)
    have tx_25 : x_25.toInt = (x_19.toInt + r_23.toInt) := by rw [ex_25]; exact add_ti (a := x_19.toInt) (b := r_23.toInt) rfl rfl (by omega) (by omega)
    refine va_iast hx hb hK hP hD hS 1 1 rfl rfl (vin (a := 1) (by decide) (by decide) (by decide)) dX7_lay_34 (fun H locs hP hD hS => ?_)
    obtain ⟨f_26, ef_26, hP, hD⟩ : ∃ f_26 : Nat → Int32, f_26 = upd f_12 (1 : Int32).toNatClampNeg x_25 ∧ va_P D vwCl [(A_self, .inr (7, o7 q v w)), (q 55, .inl (c 1, 6, .inl f_26))] H ∧ va_D A [(A_self, .inr (7, o7 q v w)), (q 55, .inl (c 1, 6, .inl f_26))] := ⟨_, rfl, hP, hD⟩
    have cl_27 : (f_26 0).toInt = (f_12 0).toInt := by rw [ef_26]; rfl
    have cl_28 : (f_26 1).toInt = x_25.toInt := by rw [ef_26]; rfl
    have cl_29 : (f_26 2).toInt = (f_12 2).toInt := by rw [ef_26]; rfl
    have cl_30 : (f_26 3).toInt = (f_12 3).toInt := by rw [ef_26]; rfl
    have cl_31 : (f_26 4).toInt = (f_12 4).toInt := by rw [ef_26]; rfl
    have cl_32 : (f_26 5).toInt = (f_12 5).toInt := by rw [ef_26]; rfl
    refine lv_iinc (v := 2) (lv' := [(2, .int 2), (0, .ref A_self), (1, .int a1)]) hx hb dX7_lay_35 hl (k := 0) rfl (by decide) (by decide) rfl (fun ls hl => ?_)
    refine lv_goto (tgt := 15) hx hb dX7_lay_38 (by decide) ?_
    refine lv_iload_n hx hb dX7_lay_15 rfl (lv_at hl 0 rfl) ?_
    refine lv_bipush (v := 6) hx hb dX7_lay_16 (by decide) ?_
    refine iicmp_geF (a := 2) (b := 6) (tgt := 41) hx hb (by decide) (by decide) dX7_lay_18 (by decide) (by decide) ?_
    refine lv_aload_n hx hb dX7_lay_21 rfl (lv_at hl 1 rfl) ?_
    refine va_get (D := D) (ci := 7) (v := .ref (q 55)) (C := RX7) (T := TX7) (N := 56) hx hb hts (fun _ h => List.mem_cons_of_mem _ (List.mem_append_right _ h)) hown hK hP 0 rfl rfl 55 (by decide) (hts (.fieldLink RX7 118 "CrownTableModel" "cloth" "[I") (mem_i 2 rfl)) (fun _ h9 => h9) rfl dX7_lay_22 ?_
    refine lv_iload_n hx hb dX7_lay_25 rfl (lv_at hl 0 rfl) ?_
    refine lv_dup2_11 hx hb dX7_lay_26 rfl rfl ?_
    refine va_iald hx hb hK hP 1 1 rfl rfl (vin (a := 2) (by decide) (by decide) (by decide)) dX7_lay_27 ?_
    refine lv_topi (fun x_33 ex_33 => ?_)
    have lf_34 : (f_26 2).toInt = x_33.toInt := by rw [ex_33]; rfl
    refine lv_iload_n hx hb dX7_lay_28 rfl (lv_at hl 2 rfl) ?_
    refine lv_iload_n hx hb dX7_lay_29 rfl (lv_at hl 0 rfl) ?_
    have hPc := hP.sub (ws' := []) [] rfl
    have hDc := hD.sub (ws' := []) [] (by decide) rfl
    have hFc := va_free (wc := []) hD hS hA [] rfl
    have kzz_35 : (2 : Int32).toInt = 2 := by decide
    refine va_csi (va_runS (As := [.int a1, .int 2]) (rest := [.int x_33, .int 2, .ref (q 55)]) ⟨hx, hb, hml, hown, hts⟩ (k_X7_notch_P l D c ts H.size a1 i_a1 hi_a1 2 2 (by decide) (by omega) (by omega)) (cwS 2 hts gX7_lay_X7_notch rfl rfl rfl ⟨rfl, hdX7_notch⟩ ⟨(show 1 + 1 ≤ 2 by decide), (show 8 + (2 + 11) + 20 ≤ 41 by decide)⟩) ⟨Pre0.blind, Pre0.at hPc hDc hAm hSt hS hFc⟩ rfl rfl hl.1 rfl (lv_room (Nat.le_of_ble_eq_true rfl)) dX7_lay_30 ⟨(show 0 + 0 ≤ 0 by decide), (show 0 + 0 ≤ 0 by decide)⟩) (fun r_37 hw_36 => ?_)
    have nf_38 : r_37.toInt = n2 := (hw_36.2.2.2.1 rfl).trans hDg.2.2.1
    clear hw_36
    have rg_r_37 := i32r r_37
    refine lv_iadd hx hb dX7_lay_33 ?_
    refine lv_topi (fun x_39 ex_39 => ?_)
    have tx_39 : x_39.toInt = (x_33.toInt + r_37.toInt) := by rw [ex_39]; exact add_ti (a := x_33.toInt) (b := r_37.toInt) rfl rfl (by omega) (by omega)
    refine va_iast hx hb hK hP hD hS 1 1 rfl rfl (vin (a := 2) (by decide) (by decide) (by decide)) dX7_lay_34 (fun H locs hP hD hS => ?_)
    obtain ⟨f_40, ef_40, hP, hD⟩ : ∃ f_40 : Nat → Int32, f_40 = upd f_26 (2 : Int32).toNatClampNeg x_39 ∧ va_P D vwCl [(A_self, .inr (7, o7 q v w)), (q 55, .inl (c 1, 6, .inl f_40))] H ∧ va_D A [(A_self, .inr (7, o7 q v w)), (q 55, .inl (c 1, 6, .inl f_40))] := ⟨_, rfl, hP, hD⟩
    have cl_41 : (f_40 0).toInt = (f_26 0).toInt := by rw [ef_40]; rfl
    have cl_42 : (f_40 1).toInt = (f_26 1).toInt := by rw [ef_40]; rfl
    have cl_43 : (f_40 2).toInt = x_39.toInt := by rw [ef_40]; rfl
    have cl_44 : (f_40 3).toInt = (f_26 3).toInt := by rw [ef_40]; rfl
    have cl_45 : (f_40 4).toInt = (f_26 4).toInt := by rw [ef_40]; rfl
    have cl_46 : (f_40 5).toInt = (f_26 5).toInt := by rw [ef_40]; rfl
    refine lv_iinc (v := 3) (lv' := [(2, .int 3), (0, .ref A_self), (1, .int a1)]) hx hb dX7_lay_35 hl (k := 0) rfl (by decide) (by decide) rfl (fun ls hl => ?_)
    refine lv_goto (tgt := 15) hx hb dX7_lay_38 (by decide) ?_
    refine lv_iload_n hx hb dX7_lay_15 rfl (lv_at hl 0 rfl) ?_
    refine lv_bipush (v := 6) hx hb dX7_lay_16 (by decide) ?_
    refine iicmp_geF (a := 3) (b := 6) (tgt := 41) hx hb (by decide) (by decide) dX7_lay_18 (by decide) (by decide) ?_
    refine lv_aload_n hx hb dX7_lay_21 rfl (lv_at hl 1 rfl) ?_
    refine va_get (D := D) (ci := 7) (v := .ref (q 55)) (C := RX7) (T := TX7) (N := 56) hx hb hts (fun _ h => List.mem_cons_of_mem _ (List.mem_append_right _ h)) hown hK hP 0 rfl rfl 55 (by decide) (hts (.fieldLink RX7 118 "CrownTableModel" "cloth" "[I") (mem_i 2 rfl)) (fun _ h9 => h9) rfl dX7_lay_22 ?_
    refine lv_iload_n hx hb dX7_lay_25 rfl (lv_at hl 0 rfl) ?_
    refine lv_dup2_11 hx hb dX7_lay_26 rfl rfl ?_
    refine va_iald hx hb hK hP 1 1 rfl rfl (vin (a := 3) (by decide) (by decide) (by decide)) dX7_lay_27 ?_
    refine lv_topi (fun x_47 ex_47 => ?_)
    have lf_48 : (f_40 3).toInt = x_47.toInt := by rw [ex_47]; rfl
    refine lv_iload_n hx hb dX7_lay_28 rfl (lv_at hl 2 rfl) ?_
    refine lv_iload_n hx hb dX7_lay_29 rfl (lv_at hl 0 rfl) ?_
    have hPc := hP.sub (ws' := []) [] rfl
    have hDc := hD.sub (ws' := []) [] (by decide) rfl
    have hFc := va_free (wc := []) hD hS hA [] rfl
    have kzz_49 : (3 : Int32).toInt = 3 := by decide
    refine va_csi (va_runS (As := [.int a1, .int 3]) (rest := [.int x_47, .int 3, .ref (q 55)]) ⟨hx, hb, hml, hown, hts⟩ (k_X7_notch_P l D c ts H.size a1 i_a1 hi_a1 3 3 (by decide) (by omega) (by omega)) (cwS 2 hts gX7_lay_X7_notch rfl rfl rfl ⟨rfl, hdX7_notch⟩ ⟨(show 1 + 1 ≤ 2 by decide), (show 8 + (2 + 11) + 20 ≤ 41 by decide)⟩) ⟨Pre0.blind, Pre0.at hPc hDc hAm hSt hS hFc⟩ rfl rfl hl.1 rfl (lv_room (Nat.le_of_ble_eq_true rfl)) dX7_lay_30 ⟨(show 0 + 0 ≤ 0 by decide), (show 0 + 0 ≤ 0 by decide)⟩) (fun r_51 hw_50 => ?_)
    have nf_52 : r_51.toInt = n3 := (hw_50.2.2.2.2.1 rfl).trans hDg.2.2.2.1
    clear hw_50
    have rg_r_51 := i32r r_51
    refine lv_iadd hx hb dX7_lay_33 ?_
    refine lv_topi (fun x_53 ex_53 => ?_)
    have tx_53 : x_53.toInt = (x_47.toInt + r_51.toInt) := by rw [ex_53]; exact add_ti (a := x_47.toInt) (b := r_51.toInt) rfl rfl (by omega) (by omega)
    refine va_iast hx hb hK hP hD hS 1 1 rfl rfl (vin (a := 3) (by decide) (by decide) (by decide)) dX7_lay_34 (fun H locs hP hD hS => ?_)
    obtain ⟨f_54, ef_54, hP, hD⟩ : ∃ f_54 : Nat → Int32, f_54 = upd f_40 (3 : Int32).toNatClampNeg x_53 ∧ va_P D vwCl [(A_self, .inr (7, o7 q v w)), (q 55, .inl (c 1, 6, .inl f_54))] H ∧ va_D A [(A_self, .inr (7, o7 q v w)), (q 55, .inl (c 1, 6, .inl f_54))] := ⟨_, rfl, hP, hD⟩
    have cl_55 : (f_54 0).toInt = (f_40 0).toInt := by rw [ef_54]; rfl
    have cl_56 : (f_54 1).toInt = (f_40 1).toInt := by rw [ef_54]; rfl
    have cl_57 : (f_54 2).toInt = (f_40 2).toInt := by rw [ef_54]; rfl
    have cl_58 : (f_54 3).toInt = x_53.toInt := by rw [ef_54]; rfl
    have cl_59 : (f_54 4).toInt = (f_40 4).toInt := by rw [ef_54]; rfl
    have cl_60 : (f_54 5).toInt = (f_40 5).toInt := by rw [ef_54]; rfl
    refine lv_iinc (v := 4) (lv' := [(2, .int 4), (0, .ref A_self), (1, .int a1)]) hx hb dX7_lay_35 hl (k := 0) rfl (by decide) (by decide) rfl (fun ls hl => ?_)
    refine lv_goto (tgt := 15) hx hb dX7_lay_38 (by decide) ?_
    refine lv_iload_n hx hb dX7_lay_15 rfl (lv_at hl 0 rfl) ?_
    refine lv_bipush (v := 6) hx hb dX7_lay_16 (by decide) ?_
    refine iicmp_geF (a := 4) (b := 6) (tgt := 41) hx hb (by decide) (by decide) dX7_lay_18 (by decide) (by decide) ?_
    refine lv_aload_n hx hb dX7_lay_21 rfl (lv_at hl 1 rfl) ?_
    refine va_get (D := D) (ci := 7) (v := .ref (q 55)) (C := RX7) (T := TX7) (N := 56) hx hb hts (fun _ h => List.mem_cons_of_mem _ (List.mem_append_right _ h)) hown hK hP 0 rfl rfl 55 (by decide) (hts (.fieldLink RX7 118 "CrownTableModel" "cloth" "[I") (mem_i 2 rfl)) (fun _ h9 => h9) rfl dX7_lay_22 ?_
    refine lv_iload_n hx hb dX7_lay_25 rfl (lv_at hl 0 rfl) ?_
    refine lv_dup2_11 hx hb dX7_lay_26 rfl rfl ?_
    refine va_iald hx hb hK hP 1 1 rfl rfl (vin (a := 4) (by decide) (by decide) (by decide)) dX7_lay_27 ?_
    refine lv_topi (fun x_61 ex_61 => ?_)
    have lf_62 : (f_54 4).toInt = x_61.toInt := by rw [ex_61]; rfl
    refine lv_iload_n hx hb dX7_lay_28 rfl (lv_at hl 2 rfl) ?_
    refine lv_iload_n hx hb dX7_lay_29 rfl (lv_at hl 0 rfl) ?_
    have hPc := hP.sub (ws' := []) [] rfl
    have hDc := hD.sub (ws' := []) [] (by decide) rfl
    have hFc := va_free (wc := []) hD hS hA [] rfl
    have kzz_63 : (4 : Int32).toInt = 4 := by decide
    refine va_csi (va_runS (As := [.int a1, .int 4]) (rest := [.int x_61, .int 4, .ref (q 55)]) ⟨hx, hb, hml, hown, hts⟩ (k_X7_notch_P l D c ts H.size a1 i_a1 hi_a1 4 4 (by decide) (by omega) (by omega)) (cwS 2 hts gX7_lay_X7_notch rfl rfl rfl ⟨rfl, hdX7_notch⟩ ⟨(show 1 + 1 ≤ 2 by decide), (show 8 + (2 + 11) + 20 ≤ 41 by decide)⟩) ⟨Pre0.blind, Pre0.at hPc hDc hAm hSt hS hFc⟩ rfl rfl hl.1 rfl (lv_room (Nat.le_of_ble_eq_true rfl)) dX7_lay_30 ⟨(show 0 + 0 ≤ 0 by decide), (show 0 + 0 ≤ 0 by decide)⟩) (fun r_65 hw_64 => ?_)
    have nf_66 : r_65.toInt = n4 := (hw_64.2.2.2.2.2.1 rfl).trans hDg.2.2.2.2.1
    clear hw_64
    have rg_r_65 := i32r r_65
    refine lv_iadd hx hb dX7_lay_33 ?_
    refine lv_topi (fun x_67 ex_67 => ?_)
    have tx_67 : x_67.toInt = (x_61.toInt + r_65.toInt) := by rw [ex_67]; exact add_ti (a := x_61.toInt) (b := r_65.toInt) rfl rfl (by omega) (by omega)
    refine va_iast hx hb hK hP hD hS 1 1 rfl rfl (vin (a := 4) (by decide) (by decide) (by decide)) dX7_lay_34 (fun H locs hP hD hS => ?_)
    obtain ⟨f_68, ef_68, hP, hD⟩ : ∃ f_68 : Nat → Int32, f_68 = upd f_54 (4 : Int32).toNatClampNeg x_67 ∧ va_P D vwCl [(A_self, .inr (7, o7 q v w)), (q 55, .inl (c 1, 6, .inl f_68))] H ∧ va_D A [(A_self, .inr (7, o7 q v w)), (q 55, .inl (c 1, 6, .inl f_68))] := ⟨_, rfl, hP, hD⟩
    have cl_69 : (f_68 0).toInt = (f_54 0).toInt := by rw [ef_68]; rfl
    have cl_70 : (f_68 1).toInt = (f_54 1).toInt := by rw [ef_68]; rfl
    have cl_71 : (f_68 2).toInt = (f_54 2).toInt := by rw [ef_68]; rfl
    have cl_72 : (f_68 3).toInt = (f_54 3).toInt := by rw [ef_68]; rfl
    have cl_73 : (f_68 4).toInt = x_67.toInt := by rw [ef_68]; rfl
    have cl_74 : (f_68 5).toInt = (f_54 5).toInt := by rw [ef_68]; rfl
    refine lv_iinc (v := 5) (lv' := [(2, .int 5), (0, .ref A_self), (1, .int a1)]) hx hb dX7_lay_35 hl (k := 0) rfl (by decide) (by decide) rfl (fun ls hl => ?_)
    refine lv_goto (tgt := 15) hx hb dX7_lay_38 (by decide) ?_
    refine lv_iload_n hx hb dX7_lay_15 rfl (lv_at hl 0 rfl) ?_
    refine lv_bipush (v := 6) hx hb dX7_lay_16 (by decide) ?_
    refine iicmp_geF (a := 5) (b := 6) (tgt := 41) hx hb (by decide) (by decide) dX7_lay_18 (by decide) (by decide) ?_
    refine lv_aload_n hx hb dX7_lay_21 rfl (lv_at hl 1 rfl) ?_
    refine va_get (D := D) (ci := 7) (v := .ref (q 55)) (C := RX7) (T := TX7) (N := 56) hx hb hts (fun _ h => List.mem_cons_of_mem _ (List.mem_append_right _ h)) hown hK hP 0 rfl rfl 55 (by decide) (hts (.fieldLink RX7 118 "CrownTableModel" "cloth" "[I") (mem_i 2 rfl)) (fun _ h9 => h9) rfl dX7_lay_22 ?_
    refine lv_iload_n hx hb dX7_lay_25 rfl (lv_at hl 0 rfl) ?_
    refine lv_dup2_11 hx hb dX7_lay_26 rfl rfl ?_
    refine va_iald hx hb hK hP 1 1 rfl rfl (vin (a := 5) (by decide) (by decide) (by decide)) dX7_lay_27 ?_
    refine lv_topi (fun x_75 ex_75 => ?_)
    have lf_76 : (f_68 5).toInt = x_75.toInt := by rw [ex_75]; rfl
    refine lv_iload_n hx hb dX7_lay_28 rfl (lv_at hl 2 rfl) ?_
    refine lv_iload_n hx hb dX7_lay_29 rfl (lv_at hl 0 rfl) ?_
    have hPc := hP.sub (ws' := []) [] rfl
    have hDc := hD.sub (ws' := []) [] (by decide) rfl
    have hFc := va_free (wc := []) hD hS hA [] rfl
    have kzz_77 : (5 : Int32).toInt = 5 := by decide
    refine va_csi (va_runS (As := [.int a1, .int 5]) (rest := [.int x_75, .int 5, .ref (q 55)]) ⟨hx, hb, hml, hown, hts⟩ (k_X7_notch_P l D c ts H.size a1 i_a1 hi_a1 5 5 (by decide) (by omega) (by omega)) (cwS 2 hts gX7_lay_X7_notch rfl rfl rfl ⟨rfl, hdX7_notch⟩ ⟨(show 1 + 1 ≤ 2 by decide), (show 8 + (2 + 11) + 20 ≤ 41 by decide)⟩) ⟨Pre0.blind, Pre0.at hPc hDc hAm hSt hS hFc⟩ rfl rfl hl.1 rfl (lv_room (Nat.le_of_ble_eq_true rfl)) dX7_lay_30 ⟨(show 0 + 0 ≤ 0 by decide), (show 0 + 0 ≤ 0 by decide)⟩) (fun r_79 hw_78 => ?_)
    have nf_80 : r_79.toInt = n5 := (hw_78.2.2.2.2.2.2 rfl).trans hDg.2.2.2.2.2
    clear hw_78
    have rg_r_79 := i32r r_79
    refine lv_iadd hx hb dX7_lay_33 ?_
    refine lv_topi (fun x_81 ex_81 => ?_)
    have tx_81 : x_81.toInt = (x_75.toInt + r_79.toInt) := by rw [ex_81]; exact add_ti (a := x_75.toInt) (b := r_79.toInt) rfl rfl (by omega) (by omega)
    refine va_iast hx hb hK hP hD hS 1 1 rfl rfl (vin (a := 5) (by decide) (by decide) (by decide)) dX7_lay_34 (fun H locs hP hD hS => ?_)
    obtain ⟨f_82, ef_82, hP, hD⟩ : ∃ f_82 : Nat → Int32, f_82 = upd f_68 (5 : Int32).toNatClampNeg x_81 ∧ va_P D vwCl [(A_self, .inr (7, o7 q v w)), (q 55, .inl (c 1, 6, .inl f_82))] H ∧ va_D A [(A_self, .inr (7, o7 q v w)), (q 55, .inl (c 1, 6, .inl f_82))] := ⟨_, rfl, hP, hD⟩
    have cl_83 : (f_82 0).toInt = (f_68 0).toInt := by rw [ef_82]; rfl
    have cl_84 : (f_82 1).toInt = (f_68 1).toInt := by rw [ef_82]; rfl
    have cl_85 : (f_82 2).toInt = (f_68 2).toInt := by rw [ef_82]; rfl
    have cl_86 : (f_82 3).toInt = (f_68 3).toInt := by rw [ef_82]; rfl
    have cl_87 : (f_82 4).toInt = (f_68 4).toInt := by rw [ef_82]; rfl
    have cl_88 : (f_82 5).toInt = x_81.toInt := by rw [ef_82]; rfl
    refine lv_iinc (v := 6) (lv' := [(2, .int 6), (0, .ref A_self), (1, .int a1)]) hx hb dX7_lay_35 hl (k := 0) rfl (by decide) (by decide) rfl (fun ls hl => ?_)
    refine lv_goto (tgt := 15) hx hb dX7_lay_38 (by decide) ?_
    refine lv_iload_n hx hb dX7_lay_15 rfl (lv_at hl 0 rfl) ?_
    refine lv_bipush (v := 6) hx hb dX7_lay_16 (by decide) ?_
    refine iicmp_geT (a := 6) (b := 6) (tgt := 41) hx hb (by decide) (by decide) dX7_lay_18 (by decide) (by decide) ?_
    refine lv_iconst (v := 0) hx hb dX7_lay_41 (by decide) ?_
    refine lv_istore_n (lv' := [(2, .int 0), (0, .ref A_self), (1, .int a1)]) hx hb dX7_lay_42 rfl hl (by decide) rfl (fun ls hl => ?_)
    refine lv_iconst (v := 0) hx hb dX7_lay_43 (by decide) ?_
    refine lv_istore_n (lv' := [(3, .int 0), (2, .int 0), (0, .ref A_self), (1, .int a1)]) hx hb dX7_lay_44 rfl hl (by decide) rfl (fun ls hl => ?_)
    have lp_45 : ∀ (N : Nat) (L2 : Int32) (L3 : Int32) (M_cloth : Nat → Int32) (k0 : Int) (k1 : Int) (k2 : Int) (k3 : Int) (k4 : Int) (hf45_0 : 0 ≤ L2.toInt) (hf45_1 : L2.toInt ≤ 5) (hf45_2 : 0 ≤ L3.toInt) (hf45_3 : L3.toInt ≤ 5) (hf45_4 : (M_cloth 0).toInt = (f_cloth 0).toInt + n0 - 12 * k0) (hf45_5 : (M_cloth 1).toInt = (f_cloth 1).toInt + n1 + k0 - 20 * k1) (hf45_6 : (M_cloth 2).toInt = (f_cloth 2).toInt + n2 + k1 - 20 * k2) (hf45_7 : (M_cloth 3).toInt = (f_cloth 3).toInt + n3 + k2 - 5 * k3) (hf45_8 : (M_cloth 4).toInt = (f_cloth 4).toInt + n4 + k3 - 10 * k4) (hf45_9 : (M_cloth 5).toInt = (f_cloth 5).toInt + n5 + k4) (hf45_10 : 0 ≤ (M_cloth 0).toInt) (hf45_11 : 0 ≤ (M_cloth 1).toInt) (hf45_12 : 0 ≤ (M_cloth 2).toInt) (hf45_13 : 0 ≤ (M_cloth 3).toInt) (hf45_14 : 0 ≤ (M_cloth 4).toInt) (hf45_15 : 0 ≤ k0 ∧ k0 ≤ 1) (hf45_16 : 0 ≤ k1 ∧ k1 ≤ 1) (hf45_17 : 0 ≤ k2 ∧ k2 ≤ 1) (hf45_18 : 0 ≤ k3 ∧ k3 ≤ 1) (hf45_19 : 0 ≤ k4 ∧ k4 ≤ 1) (hf45_20 : L2.toInt = k0 + k1 + k2 + k3 + k4) (hf45_21 : L3.toInt ≤ 0 ∨ (M_cloth 0).toInt ≤ 11) (hf45_22 : L3.toInt ≤ 1 ∨ (M_cloth 1).toInt ≤ 19) (hf45_23 : L3.toInt ≤ 2 ∨ (M_cloth 2).toInt ≤ 19) (hf45_24 : L3.toInt ≤ 3 ∨ (M_cloth 3).toInt ≤ 4) (hf45_25 : L3.toInt ≤ 4 ∨ (M_cloth 4).toInt ≤ 9) (hN45 : (6 * (5 - L2.toInt) + 5 - L3.toInt).toNat = N) (H : Heap) (locs : List Loc) (ls : Array Slot), va_P D vwCl [(A_self, .inr (7, o7 q v w)), (q 55, .inl (c 1, 6, .inl M_cloth))] H → va_D A [(A_self, .inr (7, o7 q v w)), (q 55, .inl (c 1, 6, .inl M_cloth))] → va_S A s.heap H locs → lv_has ls 4 [(0, .ref A_self), (1, .int a1), (2, .int L2), (3, .int L3)] → W p l e (headSpec wsX7_lay ({ frames := 2, cells := 0, slots := 0, locals := 41 })).room s m (([.ref A_self, .int a1] : List Value).toArray) below meth cd H locs 0 0 (MQ below (va_Qi (fun (r : Int32) (u : (Nat → Int32) × Unit) => (0 ≤ (u.1 0).toInt ∧ (u.1 0).toInt ≤ 11) ∧ (0 ≤ (u.1 1).toInt ∧ (u.1 1).toInt ≤ 19) ∧ (0 ≤ (u.1 2).toInt ∧ (u.1 2).toInt ≤ 19) ∧ (0 ≤ (u.1 3).toInt ∧ (u.1 3).toInt ≤ 4) ∧ (0 ≤ (u.1 4).toInt ∧ (u.1 4).toInt ≤ 9) ∧ (0 ≤ (u.1 5).toInt ∧ (u.1 5).toInt ≤ cb + 5) ∧ ((r.toInt = -1 ∧ ¬ (1 ≤ i_a1 ∧ i_a1 ≤ 1000000) ∧ (u.1 0).toInt = (f_cloth 0).toInt ∧ (u.1 1).toInt = (f_cloth 1).toInt ∧ (u.1 2).toInt = (f_cloth 2).toInt ∧ (u.1 3).toInt = (f_cloth 3).toInt ∧ (u.1 4).toInt = (f_cloth 4).toInt ∧ (u.1 5).toInt = (f_cloth 5).toInt) ∨ ((1 ≤ i_a1 ∧ i_a1 ≤ 1000000) ∧ LayI (f_cloth 0).toInt (f_cloth 1).toInt (f_cloth 2).toInt (f_cloth 3).toInt (f_cloth 4).toInt (f_cloth 5).toInt (u.1 0).toInt (u.1 1).toInt (u.1 2).toInt (u.1 3).toInt (u.1 4).toInt (u.1 5).toInt i_a1 r.toInt ∧ (0 ≤ (u.1 0).toInt ∧ (u.1 0).toInt ≤ 11) ∧ (0 ≤ (u.1 1).toInt ∧ (u.1 1).toInt ≤ 19) ∧ (0 ≤ (u.1 2).toInt ∧ (u.1 2).toInt ≤ 19) ∧ (0 ≤ (u.1 3).toInt ∧ (u.1 3).toInt ≤ 4) ∧ (0 ≤ (u.1 4).toInt ∧ (u.1 4).toInt ≤ 9)))) (fun u t => va_P D vwCl [(A_self, .inr (7, o7 q v w)), (q 55, .inl (c 1, 6, .inl u.1))] t.heap ∧ va_D A [(A_self, .inr (7, o7 q v w)), (q 55, .inl (c 1, 6, .inl u.1))]) A) ([.ref A_self, .int a1] : List Value).toArray s 0 0 A) (F0 m 45 ls []) := by
      refine st_ind (fun N ih45 => ?_)
      intro L2 L3 M_cloth k0 k1 k2 k3 k4 hf45_0 hf45_1 hf45_2 hf45_3 hf45_4 hf45_5 hf45_6 hf45_7 hf45_8 hf45_9 hf45_10 hf45_11 hf45_12 hf45_13 hf45_14 hf45_15 hf45_16 hf45_17 hf45_18 hf45_19 hf45_20 hf45_21 hf45_22 hf45_23 hf45_24 hf45_25 hN45 H locs ls hP hD hS hl
      rcases (show L3.toInt = 0 ∨ L3.toInt = 1 ∨ L3.toInt = 2 ∨ L3.toInt = 3 ∨ L3.toInt = 4 ∨ L3.toInt = 5 by omega) with hsp | hsp | hsp | hsp | hsp | hsp
      · skip
        obtain rfl : L3 = 0 := Int32.toInt_inj.mp (by rw [hsp]; rfl)
        have hl : lv_has ls 4 [(0, .ref A_self), (1, .int a1), (2, .int L2), (3, .int 0)] := hl
        have kzz_89 : (0 : Int32).toInt = 0 := by decide
        refine lv_iload_n hx hb dX7_lay_45 rfl (lv_at hl 3 rfl) ?_
        refine lv_iconst (v := 5) hx hb dX7_lay_46 (by decide) ?_
        refine iicmp_geF (a := 0) (b := 5) (tgt := 102) hx hb (by decide) (by decide) dX7_lay_47 (by decide) (by decide) ?_
        refine lv_aload_n hx hb dX7_lay_50 rfl (lv_at hl 0 rfl) ?_
        refine va_get (D := D) (ci := 7) (v := .ref (q 55)) (C := RX7) (T := TX7) (N := 56) hx hb hts (fun _ h => List.mem_cons_of_mem _ (List.mem_append_right _ h)) hown hK hP 0 rfl rfl 55 (by decide) (hts (.fieldLink RX7 118 "CrownTableModel" "cloth" "[I") (mem_i 2 rfl)) (fun _ h9 => h9) rfl dX7_lay_51 ?_
        refine lv_iload_n hx hb dX7_lay_54 rfl (lv_at hl 3 rfl) ?_
        refine va_iald hx hb hK hP 1 1 rfl rfl (vin (a := 0) (by decide) (by decide) (by decide)) dX7_lay_55 ?_
        refine lv_topi (fun x_90 ex_90 => ?_)
        have lf_91 : (M_cloth 0).toInt = x_90.toInt := by rw [ex_90]; rfl
        refine lv_iload_n hx hb dX7_lay_56 rfl (lv_at hl 3 rfl) ?_
        have hPc := hP.sub (ws' := []) [] rfl
        have hDc := hD.sub (ws' := []) [] (by decide) rfl
        have hFc := va_free (wc := []) hD hS hA [] rfl
        have kzz_92 : (0 : Int32).toInt = 0 := by decide
        refine va_csi (va_runS (As := [.int 0]) (rest := [.int x_90]) ⟨hx, hb, hml, hown, hts⟩ (k_X7_next l D c ts H.size 0 0 (by decide) (by omega)) (cwS 1 hts gX7_lay_X7_next rfl rfl rfl ⟨rfl, hdX7_next⟩ ⟨(show 1 + 1 ≤ 2 by decide), (show 8 + (1 + 11) + 20 ≤ 41 by decide)⟩) ⟨Pre0.blind, Pre0.at hPc hDc hAm hSt hS hFc⟩ rfl rfl hl.1 rfl (lv_room (Nat.le_of_ble_eq_true rfl)) dX7_lay_57 ⟨(show 0 + 0 ≤ 0 by decide), (show 0 + 0 ≤ 0 by decide)⟩) (fun r_94 hw_93 => ?_)
        rcases hw_93 with ⟨hw_93, rfl⟩ | ⟨hw_93, rfl⟩ | ⟨hw_93, rfl⟩ | ⟨hw_93, rfl⟩
        · skip
          refine iicmp_ge (a := x_90.toInt) (b := 12) (tgt := 69) hx hb rfl (by decide) dX7_lay_60 (by decide) (fun k_95 => ?_) (fun k_95 => ?_)
          · skip
            clear hf45_21 hf45_22 hf45_23 hf45_24 hf45_25
            refine lv_aload_n hx hb dX7_lay_69 rfl (lv_at hl 0 rfl) ?_
            refine va_get (D := D) (ci := 7) (v := .ref (q 55)) (C := RX7) (T := TX7) (N := 56) hx hb hts (fun _ h => List.mem_cons_of_mem _ (List.mem_append_right _ h)) hown hK hP 0 rfl rfl 55 (by decide) (hts (.fieldLink RX7 118 "CrownTableModel" "cloth" "[I") (mem_i 2 rfl)) (fun _ h9 => h9) rfl dX7_lay_70 ?_
            refine lv_iload_n hx hb dX7_lay_73 rfl (lv_at hl 3 rfl) ?_
            refine lv_dup2_11 hx hb dX7_lay_74 rfl rfl ?_
            refine va_iald hx hb hK hP 1 1 rfl rfl (vin (a := 0) (by decide) (by decide) (by decide)) dX7_lay_75 ?_
            refine lv_topi (fun x_96 ex_96 => ?_)
            have lf_97 : (M_cloth 0).toInt = x_96.toInt := by rw [ex_96]; rfl
            refine lv_iload_n hx hb dX7_lay_76 rfl (lv_at hl 3 rfl) ?_
            have hPc := hP.sub (ws' := []) [] rfl
            have hDc := hD.sub (ws' := []) [] (by decide) rfl
            have hFc := va_free (wc := []) hD hS hA [] rfl
            have kzz_98 : (0 : Int32).toInt = 0 := by decide
            refine va_csi (va_runS (As := [.int 0]) (rest := [.int x_96, .int 0, .ref (q 55)]) ⟨hx, hb, hml, hown, hts⟩ (k_X7_next l D c ts H.size 0 0 (by decide) (by omega)) (cwS 1 hts gX7_lay_X7_next rfl rfl rfl ⟨rfl, hdX7_next⟩ ⟨(show 1 + 1 ≤ 2 by decide), (show 8 + (1 + 11) + 20 ≤ 41 by decide)⟩) ⟨Pre0.blind, Pre0.at hPc hDc hAm hSt hS hFc⟩ rfl rfl hl.1 rfl (lv_room (Nat.le_of_ble_eq_true rfl)) dX7_lay_77 ⟨(show 0 + 0 ≤ 0 by decide), (show 0 + 0 ≤ 0 by decide)⟩) (fun r_100 hw_99 => ?_)
            rcases hw_99 with ⟨hw_99, rfl⟩ | ⟨hw_99, rfl⟩ | ⟨hw_99, rfl⟩ | ⟨hw_99, rfl⟩
            · skip
              refine lv_isub hx hb dX7_lay_80 ?_
              refine lv_topi (fun x_101 ex_101 => ?_)
              have tx_101 : x_101.toInt = (x_96.toInt - 12) := by rw [ex_101]; exact sub_ti (a := x_96.toInt) (b := 12) rfl (by decide) (by omega) (by omega)
              refine va_iast hx hb hK hP hD hS 1 1 rfl rfl (vin (a := 0) (by decide) (by decide) (by decide)) dX7_lay_81 (fun H locs hP hD hS => ?_)
              obtain ⟨f_102, ef_102, hP, hD⟩ : ∃ f_102 : Nat → Int32, f_102 = upd M_cloth (0 : Int32).toNatClampNeg x_101 ∧ va_P D vwCl [(A_self, .inr (7, o7 q v w)), (q 55, .inl (c 1, 6, .inl f_102))] H ∧ va_D A [(A_self, .inr (7, o7 q v w)), (q 55, .inl (c 1, 6, .inl f_102))] := ⟨_, rfl, hP, hD⟩
              have cl_103 : (f_102 0).toInt = x_101.toInt := by rw [ef_102]; rfl
              have cl_104 : (f_102 1).toInt = (M_cloth 1).toInt := by rw [ef_102]; rfl
              have cl_105 : (f_102 2).toInt = (M_cloth 2).toInt := by rw [ef_102]; rfl
              have cl_106 : (f_102 3).toInt = (M_cloth 3).toInt := by rw [ef_102]; rfl
              have cl_107 : (f_102 4).toInt = (M_cloth 4).toInt := by rw [ef_102]; rfl
              have cl_108 : (f_102 5).toInt = (M_cloth 5).toInt := by rw [ef_102]; rfl
              refine lv_aload_n hx hb dX7_lay_82 rfl (lv_at hl 0 rfl) ?_
              refine va_get (D := D) (ci := 7) (v := .ref (q 55)) (C := RX7) (T := TX7) (N := 56) hx hb hts (fun _ h => List.mem_cons_of_mem _ (List.mem_append_right _ h)) hown hK hP 0 rfl rfl 55 (by decide) (hts (.fieldLink RX7 118 "CrownTableModel" "cloth" "[I") (mem_i 2 rfl)) (fun _ h9 => h9) rfl dX7_lay_83 ?_
              refine lv_iload_n hx hb dX7_lay_86 rfl (lv_at hl 3 rfl) ?_
              refine lv_iconst (v := 1) hx hb dX7_lay_87 (by decide) ?_
              refine lv_iadd hx hb dX7_lay_88 ?_
              refine lk_i (y := 1) (by decide) ?_
              refine lv_dup2_11 hx hb dX7_lay_89 rfl rfl ?_
              refine va_iald hx hb hK hP 1 1 rfl rfl (vin (a := 1) (by decide) (by decide) (by decide)) dX7_lay_90 ?_
              refine lv_topi (fun x_109 ex_109 => ?_)
              have lf_110 : (f_102 1).toInt = x_109.toInt := by rw [ex_109]; rfl
              refine lv_iconst (v := 1) hx hb dX7_lay_91 (by decide) ?_
              refine lv_iadd hx hb dX7_lay_92 ?_
              refine lv_topi (fun x_111 ex_111 => ?_)
              have tx_111 : x_111.toInt = (x_109.toInt + 1) := by rw [ex_111]; exact add_ti (a := x_109.toInt) (b := 1) rfl (by decide) (by omega) (by omega)
              refine va_iast hx hb hK hP hD hS 1 1 rfl rfl (vin (a := 1) (by decide) (by decide) (by decide)) dX7_lay_93 (fun H locs hP hD hS => ?_)
              obtain ⟨f_112, ef_112, hP, hD⟩ : ∃ f_112 : Nat → Int32, f_112 = upd f_102 (1 : Int32).toNatClampNeg x_111 ∧ va_P D vwCl [(A_self, .inr (7, o7 q v w)), (q 55, .inl (c 1, 6, .inl f_112))] H ∧ va_D A [(A_self, .inr (7, o7 q v w)), (q 55, .inl (c 1, 6, .inl f_112))] := ⟨_, rfl, hP, hD⟩
              have cl_113 : (f_112 0).toInt = (f_102 0).toInt := by rw [ef_112]; rfl
              have cl_114 : (f_112 1).toInt = x_111.toInt := by rw [ef_112]; rfl
              have cl_115 : (f_112 2).toInt = (f_102 2).toInt := by rw [ef_112]; rfl
              have cl_116 : (f_112 3).toInt = (f_102 3).toInt := by rw [ef_112]; rfl
              have cl_117 : (f_112 4).toInt = (f_102 4).toInt := by rw [ef_112]; rfl
              have cl_118 : (f_112 5).toInt = (f_102 5).toInt := by rw [ef_112]; rfl
              obtain ⟨x_119, ex_119⟩ : ∃ y : Int32, y = L2 + 1 := ⟨_, rfl⟩
              have tx_119 : x_119.toInt = L2.toInt + 1 := by rw [ex_119]; exact add_ti (a := L2.toInt) (b := 1) rfl (by decide) (by omega) (by omega)
              refine lv_iinc (v := x_119) (lv' := [(2, .int x_119), (0, .ref A_self), (1, .int a1), (3, .int 0)]) hx hb dX7_lay_94 hl (k := 2) rfl (by rw [ex_119]; rfl) (by decide) rfl (fun ls hl => ?_)
              refine lv_iconst (v := 0) hx hb dX7_lay_97 (by decide) ?_
              refine lv_istore_n (lv' := [(3, .int 0), (2, .int x_119), (0, .ref A_self), (1, .int a1)]) hx hb dX7_lay_98 rfl hl (by decide) rfl (fun ls hl => ?_)
              refine lv_goto (tgt := 45) hx hb dX7_lay_99 (by decide) ?_
              have kzz_120 : (0 : Int32).toInt = 0 := by decide
              have hl := lv_sub hl [2, 3, 1, 0] rfl
              exact (ih45 ((6 * (5 - x_119.toInt) + 5 - (0 : Int32).toInt).toNat) (by omega) x_119 0 f_112 (k0 + 1) k1 k2 k3 k4 (by omega) (by omega) (by omega) (by omega) (by omega) (by omega) (by omega) (by omega) (by omega) (by omega) (by omega) (by omega) (by omega) (by omega) (by omega) (by omega) (by omega) (by omega) (by omega) (by omega) (by omega) (Or.inl (by omega)) (Or.inl (by omega)) (Or.inl (by omega)) (Or.inl (by omega)) (Or.inl (by omega)) rfl _ _ _ hP hD hS hl)
            · exfalso; omega
            · exfalso; omega
            · exfalso; omega
          · skip
            refine lv_iinc (v := 1) (lv' := [(3, .int 1), (0, .ref A_self), (1, .int a1), (2, .int L2)]) hx hb dX7_lay_63 hl (k := 3) rfl (by decide) (by decide) rfl (fun ls hl => ?_)
            refine lv_goto (tgt := 45) hx hb dX7_lay_66 (by decide) ?_
            have kzz_121 : (1 : Int32).toInt = 1 := by decide
            have hl := lv_sub hl [1, 2, 3, 0] rfl
            exact (ih45 ((6 * (5 - L2.toInt) + 5 - (1 : Int32).toInt).toNat) (by omega) L2 1 M_cloth k0 k1 k2 k3 k4 (by omega) (by omega) (by omega) (by omega) (by omega) (by omega) (by omega) (by omega) (by omega) (by omega) (by omega) (by omega) (by omega) (by omega) (by omega) (by omega) (by omega) (by omega) (by omega) (by omega) (by omega) (Or.inr (by omega)) (Or.inl (by omega)) (Or.inl (by omega)) (Or.inl (by omega)) (Or.inl (by omega)) rfl _ _ _ hP hD hS hl)
        · exfalso; omega
        · exfalso; omega
        · exfalso; omega
      · skip
        obtain rfl : L3 = 1 := Int32.toInt_inj.mp (by rw [hsp]; rfl)
        have hl : lv_has ls 4 [(0, .ref A_self), (1, .int a1), (2, .int L2), (3, .int 1)] := hl
        have kzz_122 : (1 : Int32).toInt = 1 := by decide
        refine lv_iload_n hx hb dX7_lay_45 rfl (lv_at hl 3 rfl) ?_
        refine lv_iconst (v := 5) hx hb dX7_lay_46 (by decide) ?_
        refine iicmp_geF (a := 1) (b := 5) (tgt := 102) hx hb (by decide) (by decide) dX7_lay_47 (by decide) (by decide) ?_
        refine lv_aload_n hx hb dX7_lay_50 rfl (lv_at hl 0 rfl) ?_
        refine va_get (D := D) (ci := 7) (v := .ref (q 55)) (C := RX7) (T := TX7) (N := 56) hx hb hts (fun _ h => List.mem_cons_of_mem _ (List.mem_append_right _ h)) hown hK hP 0 rfl rfl 55 (by decide) (hts (.fieldLink RX7 118 "CrownTableModel" "cloth" "[I") (mem_i 2 rfl)) (fun _ h9 => h9) rfl dX7_lay_51 ?_
        refine lv_iload_n hx hb dX7_lay_54 rfl (lv_at hl 3 rfl) ?_
        refine va_iald hx hb hK hP 1 1 rfl rfl (vin (a := 1) (by decide) (by decide) (by decide)) dX7_lay_55 ?_
        refine lv_topi (fun x_123 ex_123 => ?_)
        have lf_124 : (M_cloth 1).toInt = x_123.toInt := by rw [ex_123]; rfl
        refine lv_iload_n hx hb dX7_lay_56 rfl (lv_at hl 3 rfl) ?_
        have hPc := hP.sub (ws' := []) [] rfl
        have hDc := hD.sub (ws' := []) [] (by decide) rfl
        have hFc := va_free (wc := []) hD hS hA [] rfl
        have kzz_125 : (1 : Int32).toInt = 1 := by decide
        refine va_csi (va_runS (As := [.int 1]) (rest := [.int x_123]) ⟨hx, hb, hml, hown, hts⟩ (k_X7_next l D c ts H.size 1 1 (by decide) (by omega)) (cwS 1 hts gX7_lay_X7_next rfl rfl rfl ⟨rfl, hdX7_next⟩ ⟨(show 1 + 1 ≤ 2 by decide), (show 8 + (1 + 11) + 20 ≤ 41 by decide)⟩) ⟨Pre0.blind, Pre0.at hPc hDc hAm hSt hS hFc⟩ rfl rfl hl.1 rfl (lv_room (Nat.le_of_ble_eq_true rfl)) dX7_lay_57 ⟨(show 0 + 0 ≤ 0 by decide), (show 0 + 0 ≤ 0 by decide)⟩) (fun r_127 hw_126 => ?_)
        rcases hw_126 with ⟨hw_126, rfl⟩ | ⟨hw_126, rfl⟩ | ⟨hw_126, rfl⟩ | ⟨hw_126, rfl⟩
        · exfalso; omega
        · skip
          refine iicmp_ge (a := x_123.toInt) (b := 20) (tgt := 69) hx hb rfl (by decide) dX7_lay_60 (by decide) (fun k_128 => ?_) (fun k_128 => ?_)
          · skip
            clear hf45_21 hf45_22 hf45_23 hf45_24 hf45_25
            refine lv_aload_n hx hb dX7_lay_69 rfl (lv_at hl 0 rfl) ?_
            refine va_get (D := D) (ci := 7) (v := .ref (q 55)) (C := RX7) (T := TX7) (N := 56) hx hb hts (fun _ h => List.mem_cons_of_mem _ (List.mem_append_right _ h)) hown hK hP 0 rfl rfl 55 (by decide) (hts (.fieldLink RX7 118 "CrownTableModel" "cloth" "[I") (mem_i 2 rfl)) (fun _ h9 => h9) rfl dX7_lay_70 ?_
            refine lv_iload_n hx hb dX7_lay_73 rfl (lv_at hl 3 rfl) ?_
            refine lv_dup2_11 hx hb dX7_lay_74 rfl rfl ?_
            refine va_iald hx hb hK hP 1 1 rfl rfl (vin (a := 1) (by decide) (by decide) (by decide)) dX7_lay_75 ?_
            refine lv_topi (fun x_129 ex_129 => ?_)
            have lf_130 : (M_cloth 1).toInt = x_129.toInt := by rw [ex_129]; rfl
            refine lv_iload_n hx hb dX7_lay_76 rfl (lv_at hl 3 rfl) ?_
            have hPc := hP.sub (ws' := []) [] rfl
            have hDc := hD.sub (ws' := []) [] (by decide) rfl
            have hFc := va_free (wc := []) hD hS hA [] rfl
            have kzz_131 : (1 : Int32).toInt = 1 := by decide
            refine va_csi (va_runS (As := [.int 1]) (rest := [.int x_129, .int 1, .ref (q 55)]) ⟨hx, hb, hml, hown, hts⟩ (k_X7_next l D c ts H.size 1 1 (by decide) (by omega)) (cwS 1 hts gX7_lay_X7_next rfl rfl rfl ⟨rfl, hdX7_next⟩ ⟨(show 1 + 1 ≤ 2 by decide), (show 8 + (1 + 11) + 20 ≤ 41 by decide)⟩) ⟨Pre0.blind, Pre0.at hPc hDc hAm hSt hS hFc⟩ rfl rfl hl.1 rfl (lv_room (Nat.le_of_ble_eq_true rfl)) dX7_lay_77 ⟨(show 0 + 0 ≤ 0 by decide), (show 0 + 0 ≤ 0 by decide)⟩) (fun r_133 hw_132 => ?_)
            rcases hw_132 with ⟨hw_132, rfl⟩ | ⟨hw_132, rfl⟩ | ⟨hw_132, rfl⟩ | ⟨hw_132, rfl⟩
            · exfalso; omega
            · skip
              refine lv_isub hx hb dX7_lay_80 ?_
              refine lv_topi (fun x_134 ex_134 => ?_)
              have tx_134 : x_134.toInt = (x_129.toInt - 20) := by rw [ex_134]; exact sub_ti (a := x_129.toInt) (b := 20) rfl (by decide) (by omega) (by omega)
              refine va_iast hx hb hK hP hD hS 1 1 rfl rfl (vin (a := 1) (by decide) (by decide) (by decide)) dX7_lay_81 (fun H locs hP hD hS => ?_)
              obtain ⟨f_135, ef_135, hP, hD⟩ : ∃ f_135 : Nat → Int32, f_135 = upd M_cloth (1 : Int32).toNatClampNeg x_134 ∧ va_P D vwCl [(A_self, .inr (7, o7 q v w)), (q 55, .inl (c 1, 6, .inl f_135))] H ∧ va_D A [(A_self, .inr (7, o7 q v w)), (q 55, .inl (c 1, 6, .inl f_135))] := ⟨_, rfl, hP, hD⟩
              have cl_136 : (f_135 0).toInt = (M_cloth 0).toInt := by rw [ef_135]; rfl
              have cl_137 : (f_135 1).toInt = x_134.toInt := by rw [ef_135]; rfl
              have cl_138 : (f_135 2).toInt = (M_cloth 2).toInt := by rw [ef_135]; rfl
              have cl_139 : (f_135 3).toInt = (M_cloth 3).toInt := by rw [ef_135]; rfl
              have cl_140 : (f_135 4).toInt = (M_cloth 4).toInt := by rw [ef_135]; rfl
              have cl_141 : (f_135 5).toInt = (M_cloth 5).toInt := by rw [ef_135]; rfl
              refine lv_aload_n hx hb dX7_lay_82 rfl (lv_at hl 0 rfl) ?_
              refine va_get (D := D) (ci := 7) (v := .ref (q 55)) (C := RX7) (T := TX7) (N := 56) hx hb hts (fun _ h => List.mem_cons_of_mem _ (List.mem_append_right _ h)) hown hK hP 0 rfl rfl 55 (by decide) (hts (.fieldLink RX7 118 "CrownTableModel" "cloth" "[I") (mem_i 2 rfl)) (fun _ h9 => h9) rfl dX7_lay_83 ?_
              refine lv_iload_n hx hb dX7_lay_86 rfl (lv_at hl 3 rfl) ?_
              refine lv_iconst (v := 1) hx hb dX7_lay_87 (by decide) ?_
              refine lv_iadd hx hb dX7_lay_88 ?_
              refine lk_i (y := 2) (by decide) ?_
              refine lv_dup2_11 hx hb dX7_lay_89 rfl rfl ?_
              refine va_iald hx hb hK hP 1 1 rfl rfl (vin (a := 2) (by decide) (by decide) (by decide)) dX7_lay_90 ?_
              refine lv_topi (fun x_142 ex_142 => ?_)
              have lf_143 : (f_135 2).toInt = x_142.toInt := by rw [ex_142]; rfl
              refine lv_iconst (v := 1) hx hb dX7_lay_91 (by decide) ?_
              refine lv_iadd hx hb dX7_lay_92 ?_
              refine lv_topi (fun x_144 ex_144 => ?_)
              have tx_144 : x_144.toInt = (x_142.toInt + 1) := by rw [ex_144]; exact add_ti (a := x_142.toInt) (b := 1) rfl (by decide) (by omega) (by omega)
              refine va_iast hx hb hK hP hD hS 1 1 rfl rfl (vin (a := 2) (by decide) (by decide) (by decide)) dX7_lay_93 (fun H locs hP hD hS => ?_)
              obtain ⟨f_145, ef_145, hP, hD⟩ : ∃ f_145 : Nat → Int32, f_145 = upd f_135 (2 : Int32).toNatClampNeg x_144 ∧ va_P D vwCl [(A_self, .inr (7, o7 q v w)), (q 55, .inl (c 1, 6, .inl f_145))] H ∧ va_D A [(A_self, .inr (7, o7 q v w)), (q 55, .inl (c 1, 6, .inl f_145))] := ⟨_, rfl, hP, hD⟩
              have cl_146 : (f_145 0).toInt = (f_135 0).toInt := by rw [ef_145]; rfl
              have cl_147 : (f_145 1).toInt = (f_135 1).toInt := by rw [ef_145]; rfl
              have cl_148 : (f_145 2).toInt = x_144.toInt := by rw [ef_145]; rfl
              have cl_149 : (f_145 3).toInt = (f_135 3).toInt := by rw [ef_145]; rfl
              have cl_150 : (f_145 4).toInt = (f_135 4).toInt := by rw [ef_145]; rfl
              have cl_151 : (f_145 5).toInt = (f_135 5).toInt := by rw [ef_145]; rfl
              obtain ⟨x_152, ex_152⟩ : ∃ y : Int32, y = L2 + 1 := ⟨_, rfl⟩
              have tx_152 : x_152.toInt = L2.toInt + 1 := by rw [ex_152]; exact add_ti (a := L2.toInt) (b := 1) rfl (by decide) (by omega) (by omega)
              refine lv_iinc (v := x_152) (lv' := [(2, .int x_152), (0, .ref A_self), (1, .int a1), (3, .int 1)]) hx hb dX7_lay_94 hl (k := 2) rfl (by rw [ex_152]; rfl) (by decide) rfl (fun ls hl => ?_)
              refine lv_iconst (v := 0) hx hb dX7_lay_97 (by decide) ?_
              refine lv_istore_n (lv' := [(3, .int 0), (2, .int x_152), (0, .ref A_self), (1, .int a1)]) hx hb dX7_lay_98 rfl hl (by decide) rfl (fun ls hl => ?_)
              refine lv_goto (tgt := 45) hx hb dX7_lay_99 (by decide) ?_
              have kzz_153 : (0 : Int32).toInt = 0 := by decide
              have hl := lv_sub hl [2, 3, 1, 0] rfl
              exact (ih45 ((6 * (5 - x_152.toInt) + 5 - (0 : Int32).toInt).toNat) (by omega) x_152 0 f_145 k0 (k1 + 1) k2 k3 k4 (by omega) (by omega) (by omega) (by omega) (by omega) (by omega) (by omega) (by omega) (by omega) (by omega) (by omega) (by omega) (by omega) (by omega) (by omega) (by omega) (by omega) (by omega) (by omega) (by omega) (by omega) (Or.inl (by omega)) (Or.inl (by omega)) (Or.inl (by omega)) (Or.inl (by omega)) (Or.inl (by omega)) rfl _ _ _ hP hD hS hl)
            · exfalso; omega
            · exfalso; omega
          · skip
            refine lv_iinc (v := 2) (lv' := [(3, .int 2), (0, .ref A_self), (1, .int a1), (2, .int L2)]) hx hb dX7_lay_63 hl (k := 3) rfl (by decide) (by decide) rfl (fun ls hl => ?_)
            refine lv_goto (tgt := 45) hx hb dX7_lay_66 (by decide) ?_
            have kzz_154 : (2 : Int32).toInt = 2 := by decide
            have hl := lv_sub hl [1, 2, 3, 0] rfl
            exact (ih45 ((6 * (5 - L2.toInt) + 5 - (2 : Int32).toInt).toNat) (by omega) L2 2 M_cloth k0 k1 k2 k3 k4 (by omega) (by omega) (by omega) (by omega) (by omega) (by omega) (by omega) (by omega) (by omega) (by omega) (by omega) (by omega) (by omega) (by omega) (by omega) (by omega) (by omega) (by omega) (by omega) (by omega) (by omega) (Or.inr (by omega)) (Or.inr (by omega)) (Or.inl (by omega)) (Or.inl (by omega)) (Or.inl (by omega)) rfl _ _ _ hP hD hS hl)
        · exfalso; omega
        · exfalso; omega
      · skip
        obtain rfl : L3 = 2 := Int32.toInt_inj.mp (by rw [hsp]; rfl)
        have hl : lv_has ls 4 [(0, .ref A_self), (1, .int a1), (2, .int L2), (3, .int 2)] := hl
        have kzz_155 : (2 : Int32).toInt = 2 := by decide
        refine lv_iload_n hx hb dX7_lay_45 rfl (lv_at hl 3 rfl) ?_
        refine lv_iconst (v := 5) hx hb dX7_lay_46 (by decide) ?_
        refine iicmp_geF (a := 2) (b := 5) (tgt := 102) hx hb (by decide) (by decide) dX7_lay_47 (by decide) (by decide) ?_
        refine lv_aload_n hx hb dX7_lay_50 rfl (lv_at hl 0 rfl) ?_
        refine va_get (D := D) (ci := 7) (v := .ref (q 55)) (C := RX7) (T := TX7) (N := 56) hx hb hts (fun _ h => List.mem_cons_of_mem _ (List.mem_append_right _ h)) hown hK hP 0 rfl rfl 55 (by decide) (hts (.fieldLink RX7 118 "CrownTableModel" "cloth" "[I") (mem_i 2 rfl)) (fun _ h9 => h9) rfl dX7_lay_51 ?_
        refine lv_iload_n hx hb dX7_lay_54 rfl (lv_at hl 3 rfl) ?_
        refine va_iald hx hb hK hP 1 1 rfl rfl (vin (a := 2) (by decide) (by decide) (by decide)) dX7_lay_55 ?_
        refine lv_topi (fun x_156 ex_156 => ?_)
        have lf_157 : (M_cloth 2).toInt = x_156.toInt := by rw [ex_156]; rfl
        refine lv_iload_n hx hb dX7_lay_56 rfl (lv_at hl 3 rfl) ?_
        have hPc := hP.sub (ws' := []) [] rfl
        have hDc := hD.sub (ws' := []) [] (by decide) rfl
        have hFc := va_free (wc := []) hD hS hA [] rfl
        have kzz_158 : (2 : Int32).toInt = 2 := by decide
        refine va_csi (va_runS (As := [.int 2]) (rest := [.int x_156]) ⟨hx, hb, hml, hown, hts⟩ (k_X7_next l D c ts H.size 2 2 (by decide) (by omega)) (cwS 1 hts gX7_lay_X7_next rfl rfl rfl ⟨rfl, hdX7_next⟩ ⟨(show 1 + 1 ≤ 2 by decide), (show 8 + (1 + 11) + 20 ≤ 41 by decide)⟩) ⟨Pre0.blind, Pre0.at hPc hDc hAm hSt hS hFc⟩ rfl rfl hl.1 rfl (lv_room (Nat.le_of_ble_eq_true rfl)) dX7_lay_57 ⟨(show 0 + 0 ≤ 0 by decide), (show 0 + 0 ≤ 0 by decide)⟩) (fun r_160 hw_159 => ?_)
        rcases hw_159 with ⟨hw_159, rfl⟩ | ⟨hw_159, rfl⟩ | ⟨hw_159, rfl⟩ | ⟨hw_159, rfl⟩
        · exfalso; omega
        · skip
          refine iicmp_ge (a := x_156.toInt) (b := 20) (tgt := 69) hx hb rfl (by decide) dX7_lay_60 (by decide) (fun k_161 => ?_) (fun k_161 => ?_)
          · skip
            clear hf45_21 hf45_22 hf45_23 hf45_24 hf45_25
            refine lv_aload_n hx hb dX7_lay_69 rfl (lv_at hl 0 rfl) ?_
            refine va_get (D := D) (ci := 7) (v := .ref (q 55)) (C := RX7) (T := TX7) (N := 56) hx hb hts (fun _ h => List.mem_cons_of_mem _ (List.mem_append_right _ h)) hown hK hP 0 rfl rfl 55 (by decide) (hts (.fieldLink RX7 118 "CrownTableModel" "cloth" "[I") (mem_i 2 rfl)) (fun _ h9 => h9) rfl dX7_lay_70 ?_
            refine lv_iload_n hx hb dX7_lay_73 rfl (lv_at hl 3 rfl) ?_
            refine lv_dup2_11 hx hb dX7_lay_74 rfl rfl ?_
            refine va_iald hx hb hK hP 1 1 rfl rfl (vin (a := 2) (by decide) (by decide) (by decide)) dX7_lay_75 ?_
            refine lv_topi (fun x_162 ex_162 => ?_)
            have lf_163 : (M_cloth 2).toInt = x_162.toInt := by rw [ex_162]; rfl
            refine lv_iload_n hx hb dX7_lay_76 rfl (lv_at hl 3 rfl) ?_
            have hPc := hP.sub (ws' := []) [] rfl
            have hDc := hD.sub (ws' := []) [] (by decide) rfl
            have hFc := va_free (wc := []) hD hS hA [] rfl
            have kzz_164 : (2 : Int32).toInt = 2 := by decide
            refine va_csi (va_runS (As := [.int 2]) (rest := [.int x_162, .int 2, .ref (q 55)]) ⟨hx, hb, hml, hown, hts⟩ (k_X7_next l D c ts H.size 2 2 (by decide) (by omega)) (cwS 1 hts gX7_lay_X7_next rfl rfl rfl ⟨rfl, hdX7_next⟩ ⟨(show 1 + 1 ≤ 2 by decide), (show 8 + (1 + 11) + 20 ≤ 41 by decide)⟩) ⟨Pre0.blind, Pre0.at hPc hDc hAm hSt hS hFc⟩ rfl rfl hl.1 rfl (lv_room (Nat.le_of_ble_eq_true rfl)) dX7_lay_77 ⟨(show 0 + 0 ≤ 0 by decide), (show 0 + 0 ≤ 0 by decide)⟩) (fun r_166 hw_165 => ?_)
            rcases hw_165 with ⟨hw_165, rfl⟩ | ⟨hw_165, rfl⟩ | ⟨hw_165, rfl⟩ | ⟨hw_165, rfl⟩
            · exfalso; omega
            · skip
              refine lv_isub hx hb dX7_lay_80 ?_
              refine lv_topi (fun x_167 ex_167 => ?_)
              have tx_167 : x_167.toInt = (x_162.toInt - 20) := by rw [ex_167]; exact sub_ti (a := x_162.toInt) (b := 20) rfl (by decide) (by omega) (by omega)
              refine va_iast hx hb hK hP hD hS 1 1 rfl rfl (vin (a := 2) (by decide) (by decide) (by decide)) dX7_lay_81 (fun H locs hP hD hS => ?_)
              obtain ⟨f_168, ef_168, hP, hD⟩ : ∃ f_168 : Nat → Int32, f_168 = upd M_cloth (2 : Int32).toNatClampNeg x_167 ∧ va_P D vwCl [(A_self, .inr (7, o7 q v w)), (q 55, .inl (c 1, 6, .inl f_168))] H ∧ va_D A [(A_self, .inr (7, o7 q v w)), (q 55, .inl (c 1, 6, .inl f_168))] := ⟨_, rfl, hP, hD⟩
              have cl_169 : (f_168 0).toInt = (M_cloth 0).toInt := by rw [ef_168]; rfl
              have cl_170 : (f_168 1).toInt = (M_cloth 1).toInt := by rw [ef_168]; rfl
              have cl_171 : (f_168 2).toInt = x_167.toInt := by rw [ef_168]; rfl
              have cl_172 : (f_168 3).toInt = (M_cloth 3).toInt := by rw [ef_168]; rfl
              have cl_173 : (f_168 4).toInt = (M_cloth 4).toInt := by rw [ef_168]; rfl
              have cl_174 : (f_168 5).toInt = (M_cloth 5).toInt := by rw [ef_168]; rfl
              refine lv_aload_n hx hb dX7_lay_82 rfl (lv_at hl 0 rfl) ?_
              refine va_get (D := D) (ci := 7) (v := .ref (q 55)) (C := RX7) (T := TX7) (N := 56) hx hb hts (fun _ h => List.mem_cons_of_mem _ (List.mem_append_right _ h)) hown hK hP 0 rfl rfl 55 (by decide) (hts (.fieldLink RX7 118 "CrownTableModel" "cloth" "[I") (mem_i 2 rfl)) (fun _ h9 => h9) rfl dX7_lay_83 ?_
              refine lv_iload_n hx hb dX7_lay_86 rfl (lv_at hl 3 rfl) ?_
              refine lv_iconst (v := 1) hx hb dX7_lay_87 (by decide) ?_
              refine lv_iadd hx hb dX7_lay_88 ?_
              refine lk_i (y := 3) (by decide) ?_
              refine lv_dup2_11 hx hb dX7_lay_89 rfl rfl ?_
              refine va_iald hx hb hK hP 1 1 rfl rfl (vin (a := 3) (by decide) (by decide) (by decide)) dX7_lay_90 ?_
              refine lv_topi (fun x_175 ex_175 => ?_)
              have lf_176 : (f_168 3).toInt = x_175.toInt := by rw [ex_175]; rfl
              refine lv_iconst (v := 1) hx hb dX7_lay_91 (by decide) ?_
              refine lv_iadd hx hb dX7_lay_92 ?_
              refine lv_topi (fun x_177 ex_177 => ?_)
              have tx_177 : x_177.toInt = (x_175.toInt + 1) := by rw [ex_177]; exact add_ti (a := x_175.toInt) (b := 1) rfl (by decide) (by omega) (by omega)
              refine va_iast hx hb hK hP hD hS 1 1 rfl rfl (vin (a := 3) (by decide) (by decide) (by decide)) dX7_lay_93 (fun H locs hP hD hS => ?_)
              obtain ⟨f_178, ef_178, hP, hD⟩ : ∃ f_178 : Nat → Int32, f_178 = upd f_168 (3 : Int32).toNatClampNeg x_177 ∧ va_P D vwCl [(A_self, .inr (7, o7 q v w)), (q 55, .inl (c 1, 6, .inl f_178))] H ∧ va_D A [(A_self, .inr (7, o7 q v w)), (q 55, .inl (c 1, 6, .inl f_178))] := ⟨_, rfl, hP, hD⟩
              have cl_179 : (f_178 0).toInt = (f_168 0).toInt := by rw [ef_178]; rfl
              have cl_180 : (f_178 1).toInt = (f_168 1).toInt := by rw [ef_178]; rfl
              have cl_181 : (f_178 2).toInt = (f_168 2).toInt := by rw [ef_178]; rfl
              have cl_182 : (f_178 3).toInt = x_177.toInt := by rw [ef_178]; rfl
              have cl_183 : (f_178 4).toInt = (f_168 4).toInt := by rw [ef_178]; rfl
              have cl_184 : (f_178 5).toInt = (f_168 5).toInt := by rw [ef_178]; rfl
              obtain ⟨x_185, ex_185⟩ : ∃ y : Int32, y = L2 + 1 := ⟨_, rfl⟩
              have tx_185 : x_185.toInt = L2.toInt + 1 := by rw [ex_185]; exact add_ti (a := L2.toInt) (b := 1) rfl (by decide) (by omega) (by omega)
              refine lv_iinc (v := x_185) (lv' := [(2, .int x_185), (0, .ref A_self), (1, .int a1), (3, .int 2)]) hx hb dX7_lay_94 hl (k := 2) rfl (by rw [ex_185]; rfl) (by decide) rfl (fun ls hl => ?_)
              refine lv_iconst (v := 0) hx hb dX7_lay_97 (by decide) ?_
              refine lv_istore_n (lv' := [(3, .int 0), (2, .int x_185), (0, .ref A_self), (1, .int a1)]) hx hb dX7_lay_98 rfl hl (by decide) rfl (fun ls hl => ?_)
              refine lv_goto (tgt := 45) hx hb dX7_lay_99 (by decide) ?_
              have kzz_186 : (0 : Int32).toInt = 0 := by decide
              have hl := lv_sub hl [2, 3, 1, 0] rfl
              exact (ih45 ((6 * (5 - x_185.toInt) + 5 - (0 : Int32).toInt).toNat) (by omega) x_185 0 f_178 k0 k1 (k2 + 1) k3 k4 (by omega) (by omega) (by omega) (by omega) (by omega) (by omega) (by omega) (by omega) (by omega) (by omega) (by omega) (by omega) (by omega) (by omega) (by omega) (by omega) (by omega) (by omega) (by omega) (by omega) (by omega) (Or.inl (by omega)) (Or.inl (by omega)) (Or.inl (by omega)) (Or.inl (by omega)) (Or.inl (by omega)) rfl _ _ _ hP hD hS hl)
            · exfalso; omega
            · exfalso; omega
          · skip
            refine lv_iinc (v := 3) (lv' := [(3, .int 3), (0, .ref A_self), (1, .int a1), (2, .int L2)]) hx hb dX7_lay_63 hl (k := 3) rfl (by decide) (by decide) rfl (fun ls hl => ?_)
            refine lv_goto (tgt := 45) hx hb dX7_lay_66 (by decide) ?_
            have kzz_187 : (3 : Int32).toInt = 3 := by decide
            have hl := lv_sub hl [1, 2, 3, 0] rfl
            exact (ih45 ((6 * (5 - L2.toInt) + 5 - (3 : Int32).toInt).toNat) (by omega) L2 3 M_cloth k0 k1 k2 k3 k4 (by omega) (by omega) (by omega) (by omega) (by omega) (by omega) (by omega) (by omega) (by omega) (by omega) (by omega) (by omega) (by omega) (by omega) (by omega) (by omega) (by omega) (by omega) (by omega) (by omega) (by omega) (Or.inr (by omega)) (Or.inr (by omega)) (Or.inr (by omega)) (Or.inl (by omega)) (Or.inl (by omega)) rfl _ _ _ hP hD hS hl)
        · exfalso; omega
        · exfalso; omega
      · skip
        obtain rfl : L3 = 3 := Int32.toInt_inj.mp (by rw [hsp]; rfl)
        have hl : lv_has ls 4 [(0, .ref A_self), (1, .int a1), (2, .int L2), (3, .int 3)] := hl
        have kzz_188 : (3 : Int32).toInt = 3 := by decide
        refine lv_iload_n hx hb dX7_lay_45 rfl (lv_at hl 3 rfl) ?_
        refine lv_iconst (v := 5) hx hb dX7_lay_46 (by decide) ?_
        refine iicmp_geF (a := 3) (b := 5) (tgt := 102) hx hb (by decide) (by decide) dX7_lay_47 (by decide) (by decide) ?_
        refine lv_aload_n hx hb dX7_lay_50 rfl (lv_at hl 0 rfl) ?_
        refine va_get (D := D) (ci := 7) (v := .ref (q 55)) (C := RX7) (T := TX7) (N := 56) hx hb hts (fun _ h => List.mem_cons_of_mem _ (List.mem_append_right _ h)) hown hK hP 0 rfl rfl 55 (by decide) (hts (.fieldLink RX7 118 "CrownTableModel" "cloth" "[I") (mem_i 2 rfl)) (fun _ h9 => h9) rfl dX7_lay_51 ?_
        refine lv_iload_n hx hb dX7_lay_54 rfl (lv_at hl 3 rfl) ?_
        refine va_iald hx hb hK hP 1 1 rfl rfl (vin (a := 3) (by decide) (by decide) (by decide)) dX7_lay_55 ?_
        refine lv_topi (fun x_189 ex_189 => ?_)
        have lf_190 : (M_cloth 3).toInt = x_189.toInt := by rw [ex_189]; rfl
        refine lv_iload_n hx hb dX7_lay_56 rfl (lv_at hl 3 rfl) ?_
        have hPc := hP.sub (ws' := []) [] rfl
        have hDc := hD.sub (ws' := []) [] (by decide) rfl
        have hFc := va_free (wc := []) hD hS hA [] rfl
        have kzz_191 : (3 : Int32).toInt = 3 := by decide
        refine va_csi (va_runS (As := [.int 3]) (rest := [.int x_189]) ⟨hx, hb, hml, hown, hts⟩ (k_X7_next l D c ts H.size 3 3 (by decide) (by omega)) (cwS 1 hts gX7_lay_X7_next rfl rfl rfl ⟨rfl, hdX7_next⟩ ⟨(show 1 + 1 ≤ 2 by decide), (show 8 + (1 + 11) + 20 ≤ 41 by decide)⟩) ⟨Pre0.blind, Pre0.at hPc hDc hAm hSt hS hFc⟩ rfl rfl hl.1 rfl (lv_room (Nat.le_of_ble_eq_true rfl)) dX7_lay_57 ⟨(show 0 + 0 ≤ 0 by decide), (show 0 + 0 ≤ 0 by decide)⟩) (fun r_193 hw_192 => ?_)
        rcases hw_192 with ⟨hw_192, rfl⟩ | ⟨hw_192, rfl⟩ | ⟨hw_192, rfl⟩ | ⟨hw_192, rfl⟩
        · exfalso; omega
        · exfalso; omega
        · skip
          refine iicmp_ge (a := x_189.toInt) (b := 5) (tgt := 69) hx hb rfl (by decide) dX7_lay_60 (by decide) (fun k_194 => ?_) (fun k_194 => ?_)
          · skip
            clear hf45_21 hf45_22 hf45_23 hf45_24 hf45_25
            refine lv_aload_n hx hb dX7_lay_69 rfl (lv_at hl 0 rfl) ?_
            refine va_get (D := D) (ci := 7) (v := .ref (q 55)) (C := RX7) (T := TX7) (N := 56) hx hb hts (fun _ h => List.mem_cons_of_mem _ (List.mem_append_right _ h)) hown hK hP 0 rfl rfl 55 (by decide) (hts (.fieldLink RX7 118 "CrownTableModel" "cloth" "[I") (mem_i 2 rfl)) (fun _ h9 => h9) rfl dX7_lay_70 ?_
            refine lv_iload_n hx hb dX7_lay_73 rfl (lv_at hl 3 rfl) ?_
            refine lv_dup2_11 hx hb dX7_lay_74 rfl rfl ?_
            refine va_iald hx hb hK hP 1 1 rfl rfl (vin (a := 3) (by decide) (by decide) (by decide)) dX7_lay_75 ?_
            refine lv_topi (fun x_195 ex_195 => ?_)
            have lf_196 : (M_cloth 3).toInt = x_195.toInt := by rw [ex_195]; rfl
            refine lv_iload_n hx hb dX7_lay_76 rfl (lv_at hl 3 rfl) ?_
            have hPc := hP.sub (ws' := []) [] rfl
            have hDc := hD.sub (ws' := []) [] (by decide) rfl
            have hFc := va_free (wc := []) hD hS hA [] rfl
            have kzz_197 : (3 : Int32).toInt = 3 := by decide
            refine va_csi (va_runS (As := [.int 3]) (rest := [.int x_195, .int 3, .ref (q 55)]) ⟨hx, hb, hml, hown, hts⟩ (k_X7_next l D c ts H.size 3 3 (by decide) (by omega)) (cwS 1 hts gX7_lay_X7_next rfl rfl rfl ⟨rfl, hdX7_next⟩ ⟨(show 1 + 1 ≤ 2 by decide), (show 8 + (1 + 11) + 20 ≤ 41 by decide)⟩) ⟨Pre0.blind, Pre0.at hPc hDc hAm hSt hS hFc⟩ rfl rfl hl.1 rfl (lv_room (Nat.le_of_ble_eq_true rfl)) dX7_lay_77 ⟨(show 0 + 0 ≤ 0 by decide), (show 0 + 0 ≤ 0 by decide)⟩) (fun r_199 hw_198 => ?_)
            rcases hw_198 with ⟨hw_198, rfl⟩ | ⟨hw_198, rfl⟩ | ⟨hw_198, rfl⟩ | ⟨hw_198, rfl⟩
            · exfalso; omega
            · exfalso; omega
            · skip
              refine lv_isub hx hb dX7_lay_80 ?_
              refine lv_topi (fun x_200 ex_200 => ?_)
              have tx_200 : x_200.toInt = (x_195.toInt - 5) := by rw [ex_200]; exact sub_ti (a := x_195.toInt) (b := 5) rfl (by decide) (by omega) (by omega)
              refine va_iast hx hb hK hP hD hS 1 1 rfl rfl (vin (a := 3) (by decide) (by decide) (by decide)) dX7_lay_81 (fun H locs hP hD hS => ?_)
              obtain ⟨f_201, ef_201, hP, hD⟩ : ∃ f_201 : Nat → Int32, f_201 = upd M_cloth (3 : Int32).toNatClampNeg x_200 ∧ va_P D vwCl [(A_self, .inr (7, o7 q v w)), (q 55, .inl (c 1, 6, .inl f_201))] H ∧ va_D A [(A_self, .inr (7, o7 q v w)), (q 55, .inl (c 1, 6, .inl f_201))] := ⟨_, rfl, hP, hD⟩
              have cl_202 : (f_201 0).toInt = (M_cloth 0).toInt := by rw [ef_201]; rfl
              have cl_203 : (f_201 1).toInt = (M_cloth 1).toInt := by rw [ef_201]; rfl
              have cl_204 : (f_201 2).toInt = (M_cloth 2).toInt := by rw [ef_201]; rfl
              have cl_205 : (f_201 3).toInt = x_200.toInt := by rw [ef_201]; rfl
              have cl_206 : (f_201 4).toInt = (M_cloth 4).toInt := by rw [ef_201]; rfl
              have cl_207 : (f_201 5).toInt = (M_cloth 5).toInt := by rw [ef_201]; rfl
              refine lv_aload_n hx hb dX7_lay_82 rfl (lv_at hl 0 rfl) ?_
              refine va_get (D := D) (ci := 7) (v := .ref (q 55)) (C := RX7) (T := TX7) (N := 56) hx hb hts (fun _ h => List.mem_cons_of_mem _ (List.mem_append_right _ h)) hown hK hP 0 rfl rfl 55 (by decide) (hts (.fieldLink RX7 118 "CrownTableModel" "cloth" "[I") (mem_i 2 rfl)) (fun _ h9 => h9) rfl dX7_lay_83 ?_
              refine lv_iload_n hx hb dX7_lay_86 rfl (lv_at hl 3 rfl) ?_
              refine lv_iconst (v := 1) hx hb dX7_lay_87 (by decide) ?_
              refine lv_iadd hx hb dX7_lay_88 ?_
              refine lk_i (y := 4) (by decide) ?_
              refine lv_dup2_11 hx hb dX7_lay_89 rfl rfl ?_
              refine va_iald hx hb hK hP 1 1 rfl rfl (vin (a := 4) (by decide) (by decide) (by decide)) dX7_lay_90 ?_
              refine lv_topi (fun x_208 ex_208 => ?_)
              have lf_209 : (f_201 4).toInt = x_208.toInt := by rw [ex_208]; rfl
              refine lv_iconst (v := 1) hx hb dX7_lay_91 (by decide) ?_
              refine lv_iadd hx hb dX7_lay_92 ?_
              refine lv_topi (fun x_210 ex_210 => ?_)
              have tx_210 : x_210.toInt = (x_208.toInt + 1) := by rw [ex_210]; exact add_ti (a := x_208.toInt) (b := 1) rfl (by decide) (by omega) (by omega)
              refine va_iast hx hb hK hP hD hS 1 1 rfl rfl (vin (a := 4) (by decide) (by decide) (by decide)) dX7_lay_93 (fun H locs hP hD hS => ?_)
              obtain ⟨f_211, ef_211, hP, hD⟩ : ∃ f_211 : Nat → Int32, f_211 = upd f_201 (4 : Int32).toNatClampNeg x_210 ∧ va_P D vwCl [(A_self, .inr (7, o7 q v w)), (q 55, .inl (c 1, 6, .inl f_211))] H ∧ va_D A [(A_self, .inr (7, o7 q v w)), (q 55, .inl (c 1, 6, .inl f_211))] := ⟨_, rfl, hP, hD⟩
              have cl_212 : (f_211 0).toInt = (f_201 0).toInt := by rw [ef_211]; rfl
              have cl_213 : (f_211 1).toInt = (f_201 1).toInt := by rw [ef_211]; rfl
              have cl_214 : (f_211 2).toInt = (f_201 2).toInt := by rw [ef_211]; rfl
              have cl_215 : (f_211 3).toInt = (f_201 3).toInt := by rw [ef_211]; rfl
              have cl_216 : (f_211 4).toInt = x_210.toInt := by rw [ef_211]; rfl
              have cl_217 : (f_211 5).toInt = (f_201 5).toInt := by rw [ef_211]; rfl
              obtain ⟨x_218, ex_218⟩ : ∃ y : Int32, y = L2 + 1 := ⟨_, rfl⟩
              have tx_218 : x_218.toInt = L2.toInt + 1 := by rw [ex_218]; exact add_ti (a := L2.toInt) (b := 1) rfl (by decide) (by omega) (by omega)
              refine lv_iinc (v := x_218) (lv' := [(2, .int x_218), (0, .ref A_self), (1, .int a1), (3, .int 3)]) hx hb dX7_lay_94 hl (k := 2) rfl (by rw [ex_218]; rfl) (by decide) rfl (fun ls hl => ?_)
              refine lv_iconst (v := 0) hx hb dX7_lay_97 (by decide) ?_
              refine lv_istore_n (lv' := [(3, .int 0), (2, .int x_218), (0, .ref A_self), (1, .int a1)]) hx hb dX7_lay_98 rfl hl (by decide) rfl (fun ls hl => ?_)
              refine lv_goto (tgt := 45) hx hb dX7_lay_99 (by decide) ?_
              have kzz_219 : (0 : Int32).toInt = 0 := by decide
              have hl := lv_sub hl [2, 3, 1, 0] rfl
              exact (ih45 ((6 * (5 - x_218.toInt) + 5 - (0 : Int32).toInt).toNat) (by omega) x_218 0 f_211 k0 k1 k2 (k3 + 1) k4 (by omega) (by omega) (by omega) (by omega) (by omega) (by omega) (by omega) (by omega) (by omega) (by omega) (by omega) (by omega) (by omega) (by omega) (by omega) (by omega) (by omega) (by omega) (by omega) (by omega) (by omega) (Or.inl (by omega)) (Or.inl (by omega)) (Or.inl (by omega)) (Or.inl (by omega)) (Or.inl (by omega)) rfl _ _ _ hP hD hS hl)
            · exfalso; omega
          · skip
            refine lv_iinc (v := 4) (lv' := [(3, .int 4), (0, .ref A_self), (1, .int a1), (2, .int L2)]) hx hb dX7_lay_63 hl (k := 3) rfl (by decide) (by decide) rfl (fun ls hl => ?_)
            refine lv_goto (tgt := 45) hx hb dX7_lay_66 (by decide) ?_
            have kzz_220 : (4 : Int32).toInt = 4 := by decide
            have hl := lv_sub hl [1, 2, 3, 0] rfl
            exact (ih45 ((6 * (5 - L2.toInt) + 5 - (4 : Int32).toInt).toNat) (by omega) L2 4 M_cloth k0 k1 k2 k3 k4 (by omega) (by omega) (by omega) (by omega) (by omega) (by omega) (by omega) (by omega) (by omega) (by omega) (by omega) (by omega) (by omega) (by omega) (by omega) (by omega) (by omega) (by omega) (by omega) (by omega) (by omega) (Or.inr (by omega)) (Or.inr (by omega)) (Or.inr (by omega)) (Or.inr (by omega)) (Or.inl (by omega)) rfl _ _ _ hP hD hS hl)
        · exfalso; omega
      · skip
        obtain rfl : L3 = 4 := Int32.toInt_inj.mp (by rw [hsp]; rfl)
        have hl : lv_has ls 4 [(0, .ref A_self), (1, .int a1), (2, .int L2), (3, .int 4)] := hl
        have kzz_221 : (4 : Int32).toInt = 4 := by decide
        refine lv_iload_n hx hb dX7_lay_45 rfl (lv_at hl 3 rfl) ?_
        refine lv_iconst (v := 5) hx hb dX7_lay_46 (by decide) ?_
        refine iicmp_geF (a := 4) (b := 5) (tgt := 102) hx hb (by decide) (by decide) dX7_lay_47 (by decide) (by decide) ?_
        refine lv_aload_n hx hb dX7_lay_50 rfl (lv_at hl 0 rfl) ?_
        refine va_get (D := D) (ci := 7) (v := .ref (q 55)) (C := RX7) (T := TX7) (N := 56) hx hb hts (fun _ h => List.mem_cons_of_mem _ (List.mem_append_right _ h)) hown hK hP 0 rfl rfl 55 (by decide) (hts (.fieldLink RX7 118 "CrownTableModel" "cloth" "[I") (mem_i 2 rfl)) (fun _ h9 => h9) rfl dX7_lay_51 ?_
        refine lv_iload_n hx hb dX7_lay_54 rfl (lv_at hl 3 rfl) ?_
        refine va_iald hx hb hK hP 1 1 rfl rfl (vin (a := 4) (by decide) (by decide) (by decide)) dX7_lay_55 ?_
        refine lv_topi (fun x_222 ex_222 => ?_)
        have lf_223 : (M_cloth 4).toInt = x_222.toInt := by rw [ex_222]; rfl
        refine lv_iload_n hx hb dX7_lay_56 rfl (lv_at hl 3 rfl) ?_
        have hPc := hP.sub (ws' := []) [] rfl
        have hDc := hD.sub (ws' := []) [] (by decide) rfl
        have hFc := va_free (wc := []) hD hS hA [] rfl
        have kzz_224 : (4 : Int32).toInt = 4 := by decide
        refine va_csi (va_runS (As := [.int 4]) (rest := [.int x_222]) ⟨hx, hb, hml, hown, hts⟩ (k_X7_next l D c ts H.size 4 4 (by decide) (by omega)) (cwS 1 hts gX7_lay_X7_next rfl rfl rfl ⟨rfl, hdX7_next⟩ ⟨(show 1 + 1 ≤ 2 by decide), (show 8 + (1 + 11) + 20 ≤ 41 by decide)⟩) ⟨Pre0.blind, Pre0.at hPc hDc hAm hSt hS hFc⟩ rfl rfl hl.1 rfl (lv_room (Nat.le_of_ble_eq_true rfl)) dX7_lay_57 ⟨(show 0 + 0 ≤ 0 by decide), (show 0 + 0 ≤ 0 by decide)⟩) (fun r_226 hw_225 => ?_)
        rcases hw_225 with ⟨hw_225, rfl⟩ | ⟨hw_225, rfl⟩ | ⟨hw_225, rfl⟩ | ⟨hw_225, rfl⟩
        · exfalso; omega
        · exfalso; omega
        · exfalso; omega
        · skip
          refine iicmp_ge (a := x_222.toInt) (b := 10) (tgt := 69) hx hb rfl (by decide) dX7_lay_60 (by decide) (fun k_227 => ?_) (fun k_227 => ?_)
          · skip
            clear hf45_21 hf45_22 hf45_23 hf45_24 hf45_25
            refine lv_aload_n hx hb dX7_lay_69 rfl (lv_at hl 0 rfl) ?_
            refine va_get (D := D) (ci := 7) (v := .ref (q 55)) (C := RX7) (T := TX7) (N := 56) hx hb hts (fun _ h => List.mem_cons_of_mem _ (List.mem_append_right _ h)) hown hK hP 0 rfl rfl 55 (by decide) (hts (.fieldLink RX7 118 "CrownTableModel" "cloth" "[I") (mem_i 2 rfl)) (fun _ h9 => h9) rfl dX7_lay_70 ?_
            refine lv_iload_n hx hb dX7_lay_73 rfl (lv_at hl 3 rfl) ?_
            refine lv_dup2_11 hx hb dX7_lay_74 rfl rfl ?_
            refine va_iald hx hb hK hP 1 1 rfl rfl (vin (a := 4) (by decide) (by decide) (by decide)) dX7_lay_75 ?_
            refine lv_topi (fun x_228 ex_228 => ?_)
            have lf_229 : (M_cloth 4).toInt = x_228.toInt := by rw [ex_228]; rfl
            refine lv_iload_n hx hb dX7_lay_76 rfl (lv_at hl 3 rfl) ?_
            have hPc := hP.sub (ws' := []) [] rfl
            have hDc := hD.sub (ws' := []) [] (by decide) rfl
            have hFc := va_free (wc := []) hD hS hA [] rfl
            have kzz_230 : (4 : Int32).toInt = 4 := by decide
            refine va_csi (va_runS (As := [.int 4]) (rest := [.int x_228, .int 4, .ref (q 55)]) ⟨hx, hb, hml, hown, hts⟩ (k_X7_next l D c ts H.size 4 4 (by decide) (by omega)) (cwS 1 hts gX7_lay_X7_next rfl rfl rfl ⟨rfl, hdX7_next⟩ ⟨(show 1 + 1 ≤ 2 by decide), (show 8 + (1 + 11) + 20 ≤ 41 by decide)⟩) ⟨Pre0.blind, Pre0.at hPc hDc hAm hSt hS hFc⟩ rfl rfl hl.1 rfl (lv_room (Nat.le_of_ble_eq_true rfl)) dX7_lay_77 ⟨(show 0 + 0 ≤ 0 by decide), (show 0 + 0 ≤ 0 by decide)⟩) (fun r_232 hw_231 => ?_)
            rcases hw_231 with ⟨hw_231, rfl⟩ | ⟨hw_231, rfl⟩ | ⟨hw_231, rfl⟩ | ⟨hw_231, rfl⟩
            · exfalso; omega
            · exfalso; omega
            · exfalso; omega
            · skip
              refine lv_isub hx hb dX7_lay_80 ?_
              refine lv_topi (fun x_233 ex_233 => ?_)
              have tx_233 : x_233.toInt = (x_228.toInt - 10) := by rw [ex_233]; exact sub_ti (a := x_228.toInt) (b := 10) rfl (by decide) (by omega) (by omega)
              refine va_iast hx hb hK hP hD hS 1 1 rfl rfl (vin (a := 4) (by decide) (by decide) (by decide)) dX7_lay_81 (fun H locs hP hD hS => ?_)
              obtain ⟨f_234, ef_234, hP, hD⟩ : ∃ f_234 : Nat → Int32, f_234 = upd M_cloth (4 : Int32).toNatClampNeg x_233 ∧ va_P D vwCl [(A_self, .inr (7, o7 q v w)), (q 55, .inl (c 1, 6, .inl f_234))] H ∧ va_D A [(A_self, .inr (7, o7 q v w)), (q 55, .inl (c 1, 6, .inl f_234))] := ⟨_, rfl, hP, hD⟩
              have cl_235 : (f_234 0).toInt = (M_cloth 0).toInt := by rw [ef_234]; rfl
              have cl_236 : (f_234 1).toInt = (M_cloth 1).toInt := by rw [ef_234]; rfl
              have cl_237 : (f_234 2).toInt = (M_cloth 2).toInt := by rw [ef_234]; rfl
              have cl_238 : (f_234 3).toInt = (M_cloth 3).toInt := by rw [ef_234]; rfl
              have cl_239 : (f_234 4).toInt = x_233.toInt := by rw [ef_234]; rfl
              have cl_240 : (f_234 5).toInt = (M_cloth 5).toInt := by rw [ef_234]; rfl
              refine lv_aload_n hx hb dX7_lay_82 rfl (lv_at hl 0 rfl) ?_
              refine va_get (D := D) (ci := 7) (v := .ref (q 55)) (C := RX7) (T := TX7) (N := 56) hx hb hts (fun _ h => List.mem_cons_of_mem _ (List.mem_append_right _ h)) hown hK hP 0 rfl rfl 55 (by decide) (hts (.fieldLink RX7 118 "CrownTableModel" "cloth" "[I") (mem_i 2 rfl)) (fun _ h9 => h9) rfl dX7_lay_83 ?_
              refine lv_iload_n hx hb dX7_lay_86 rfl (lv_at hl 3 rfl) ?_
              refine lv_iconst (v := 1) hx hb dX7_lay_87 (by decide) ?_
              refine lv_iadd hx hb dX7_lay_88 ?_
              refine lk_i (y := 5) (by decide) ?_
              refine lv_dup2_11 hx hb dX7_lay_89 rfl rfl ?_
              refine va_iald hx hb hK hP 1 1 rfl rfl (vin (a := 5) (by decide) (by decide) (by decide)) dX7_lay_90 ?_
              refine lv_topi (fun x_241 ex_241 => ?_)
              have lf_242 : (f_234 5).toInt = x_241.toInt := by rw [ex_241]; rfl
              refine lv_iconst (v := 1) hx hb dX7_lay_91 (by decide) ?_
              refine lv_iadd hx hb dX7_lay_92 ?_
              refine lv_topi (fun x_243 ex_243 => ?_)
              have tx_243 : x_243.toInt = (x_241.toInt + 1) := by rw [ex_243]; exact add_ti (a := x_241.toInt) (b := 1) rfl (by decide) (by omega) (by omega)
              refine va_iast hx hb hK hP hD hS 1 1 rfl rfl (vin (a := 5) (by decide) (by decide) (by decide)) dX7_lay_93 (fun H locs hP hD hS => ?_)
              obtain ⟨f_244, ef_244, hP, hD⟩ : ∃ f_244 : Nat → Int32, f_244 = upd f_234 (5 : Int32).toNatClampNeg x_243 ∧ va_P D vwCl [(A_self, .inr (7, o7 q v w)), (q 55, .inl (c 1, 6, .inl f_244))] H ∧ va_D A [(A_self, .inr (7, o7 q v w)), (q 55, .inl (c 1, 6, .inl f_244))] := ⟨_, rfl, hP, hD⟩
              have cl_245 : (f_244 0).toInt = (f_234 0).toInt := by rw [ef_244]; rfl
              have cl_246 : (f_244 1).toInt = (f_234 1).toInt := by rw [ef_244]; rfl
              have cl_247 : (f_244 2).toInt = (f_234 2).toInt := by rw [ef_244]; rfl
              have cl_248 : (f_244 3).toInt = (f_234 3).toInt := by rw [ef_244]; rfl
              have cl_249 : (f_244 4).toInt = (f_234 4).toInt := by rw [ef_244]; rfl
              have cl_250 : (f_244 5).toInt = x_243.toInt := by rw [ef_244]; rfl
              obtain ⟨x_251, ex_251⟩ : ∃ y : Int32, y = L2 + 1 := ⟨_, rfl⟩
              have tx_251 : x_251.toInt = L2.toInt + 1 := by rw [ex_251]; exact add_ti (a := L2.toInt) (b := 1) rfl (by decide) (by omega) (by omega)
              refine lv_iinc (v := x_251) (lv' := [(2, .int x_251), (0, .ref A_self), (1, .int a1), (3, .int 4)]) hx hb dX7_lay_94 hl (k := 2) rfl (by rw [ex_251]; rfl) (by decide) rfl (fun ls hl => ?_)
              refine lv_iconst (v := 0) hx hb dX7_lay_97 (by decide) ?_
              refine lv_istore_n (lv' := [(3, .int 0), (2, .int x_251), (0, .ref A_self), (1, .int a1)]) hx hb dX7_lay_98 rfl hl (by decide) rfl (fun ls hl => ?_)
              refine lv_goto (tgt := 45) hx hb dX7_lay_99 (by decide) ?_
              have kzz_252 : (0 : Int32).toInt = 0 := by decide
              have hl := lv_sub hl [2, 3, 1, 0] rfl
              exact (ih45 ((6 * (5 - x_251.toInt) + 5 - (0 : Int32).toInt).toNat) (by omega) x_251 0 f_244 k0 k1 k2 k3 (k4 + 1) (by omega) (by omega) (by omega) (by omega) (by omega) (by omega) (by omega) (by omega) (by omega) (by omega) (by omega) (by omega) (by omega) (by omega) (by omega) (by omega) (by omega) (by omega) (by omega) (by omega) (by omega) (Or.inl (by omega)) (Or.inl (by omega)) (Or.inl (by omega)) (Or.inl (by omega)) (Or.inl (by omega)) rfl _ _ _ hP hD hS hl)
          · skip
            refine lv_iinc (v := 5) (lv' := [(3, .int 5), (0, .ref A_self), (1, .int a1), (2, .int L2)]) hx hb dX7_lay_63 hl (k := 3) rfl (by decide) (by decide) rfl (fun ls hl => ?_)
            refine lv_goto (tgt := 45) hx hb dX7_lay_66 (by decide) ?_
            have kzz_253 : (5 : Int32).toInt = 5 := by decide
            have hl := lv_sub hl [1, 2, 3, 0] rfl
            exact (ih45 ((6 * (5 - L2.toInt) + 5 - (5 : Int32).toInt).toNat) (by omega) L2 5 M_cloth k0 k1 k2 k3 k4 (by omega) (by omega) (by omega) (by omega) (by omega) (by omega) (by omega) (by omega) (by omega) (by omega) (by omega) (by omega) (by omega) (by omega) (by omega) (by omega) (by omega) (by omega) (by omega) (by omega) (by omega) (Or.inr (by omega)) (Or.inr (by omega)) (Or.inr (by omega)) (Or.inr (by omega)) (Or.inr (by omega)) rfl _ _ _ hP hD hS hl)
      · skip
        obtain rfl : L3 = 5 := Int32.toInt_inj.mp (by rw [hsp]; rfl)
        have hl : lv_has ls 4 [(0, .ref A_self), (1, .int a1), (2, .int L2), (3, .int 5)] := hl
        have kzz_254 : (5 : Int32).toInt = 5 := by decide
        refine lv_iload_n hx hb dX7_lay_45 rfl (lv_at hl 3 rfl) ?_
        refine lv_iconst (v := 5) hx hb dX7_lay_46 (by decide) ?_
        refine iicmp_geT (a := 5) (b := 5) (tgt := 102) hx hb (by decide) (by decide) dX7_lay_47 (by decide) (by decide) ?_
        refine lv_iload_n hx hb dX7_lay_102 rfl (lv_at hl 2 rfl) ?_
        have hP9 := hP.sub (ws' := [(A_self, .inr (7, o7 q v w)), (q 55, .inl (c 1, 6, .inl M_cloth))]) [0, 1] rfl
        have hD9 := hD.sub (ws' := [(A_self, .inr (7, o7 q v w)), (q 55, .inl (c 1, 6, .inl M_cloth))]) [0, 1] (by decide) rfl
        refine W.widen (k := 0) (n := 0) (by omega) (by omega) ?_
        exact W.iret (v := L2) hx hb hr (fun t ht hW => ⟨⟨_, (M_cloth, ()), rfl, ⟨(show 0 ≤ (M_cloth 0).toInt ∧ (M_cloth 0).toInt ≤ 11 by omega), (show 0 ≤ (M_cloth 1).toInt ∧ (M_cloth 1).toInt ≤ 19 by omega), (show 0 ≤ (M_cloth 2).toInt ∧ (M_cloth 2).toInt ≤ 19 by omega), (show 0 ≤ (M_cloth 3).toInt ∧ (M_cloth 3).toInt ≤ 4 by omega), (show 0 ≤ (M_cloth 4).toInt ∧ (M_cloth 4).toInt ≤ 9 by omega), (show 0 ≤ (M_cloth 5).toInt ∧ (M_cloth 5).toInt ≤ cb + 5 by omega), (show (L2.toInt = -1 ∧ ¬ (1 ≤ i_a1 ∧ i_a1 ≤ 1000000) ∧ (M_cloth 0).toInt = (f_cloth 0).toInt ∧ (M_cloth 1).toInt = (f_cloth 1).toInt ∧ (M_cloth 2).toInt = (f_cloth 2).toInt ∧ (M_cloth 3).toInt = (f_cloth 3).toInt ∧ (M_cloth 4).toInt = (f_cloth 4).toInt ∧ (M_cloth 5).toInt = (f_cloth 5).toInt) ∨ ((1 ≤ i_a1 ∧ i_a1 ≤ 1000000) ∧ LayI (f_cloth 0).toInt (f_cloth 1).toInt (f_cloth 2).toInt (f_cloth 3).toInt (f_cloth 4).toInt (f_cloth 5).toInt (M_cloth 0).toInt (M_cloth 1).toInt (M_cloth 2).toInt (M_cloth 3).toInt (M_cloth 4).toInt (M_cloth 5).toInt i_a1 L2.toInt ∧ (0 ≤ (M_cloth 0).toInt ∧ (M_cloth 0).toInt ≤ 11) ∧ (0 ≤ (M_cloth 1).toInt ∧ (M_cloth 1).toInt ≤ 19) ∧ (0 ≤ (M_cloth 2).toInt ∧ (M_cloth 2).toInt ≤ 19) ∧ (0 ≤ (M_cloth 3).toInt ∧ (M_cloth 3).toInt ≤ 4) ∧ (0 ≤ (M_cloth 4).toInt ∧ (M_cloth 4).toInt ≤ 9)) from Or.inr ⟨by omega, ⟨n0, n1, n2, n3, n4, n5, k0, k1, k2, k3, k4, hDg, by omega, by omega, by omega, by omega, by omega, by omega, by omega, by omega, by omega, by omega, by omega, by omega⟩, by omega, by omega, by omega, by omega, by omega⟩)⟩, ⟨by rw [ht]; exact hP9, hD9⟩⟩, hS.F ht⟩) hS.2.2 dX7_lay_103
    have kzz_255 : (0 : Int32).toInt = 0 := by decide
    have hl := lv_sub hl [2, 3, 1, 0] rfl
    exact (lp_45 _ 0 0 f_82 0 0 0 0 0 (by omega) (by omega) (by omega) (by omega) (by omega) (by omega) (by omega) (by omega) (by omega) (by omega) (by omega) (by omega) (by omega) (by omega) (by omega) (by omega) (by omega) (by omega) (by omega) (by omega) (by omega) (Or.inl (by omega)) (Or.inl (by omega)) (Or.inl (by omega)) (Or.inl (by omega)) (Or.inl (by omega)) rfl _ _ _ hP hD hS hl)
  · skip
    refine iif_neF (a := 0) (tgt := 13) hx hb (by decide) dX7_lay_8 (by decide) (by decide) ?_
    refine lv_iconst (v := (-1)) hx hb dX7_lay_11 (by decide) ?_
    have kzz_256 : ((-1) : Int32).toInt = (-1) := by decide
    have hP9 := hP.sub (ws' := [(A_self, .inr (7, o7 q v w)), (q 55, .inl (c 1, 6, .inl f_cloth))]) [0, 1] rfl
    have hD9 := hD.sub (ws' := [(A_self, .inr (7, o7 q v w)), (q 55, .inl (c 1, 6, .inl f_cloth))]) [0, 1] (by decide) rfl
    refine W.widen (k := 0) (n := 0) (by omega) (by omega) ?_
    exact W.iret (v := (-1)) hx hb hr (fun t ht hW => ⟨⟨_, (f_cloth, ()), rfl, ⟨(show 0 ≤ (f_cloth 0).toInt ∧ (f_cloth 0).toInt ≤ 11 by omega), (show 0 ≤ (f_cloth 1).toInt ∧ (f_cloth 1).toInt ≤ 19 by omega), (show 0 ≤ (f_cloth 2).toInt ∧ (f_cloth 2).toInt ≤ 19 by omega), (show 0 ≤ (f_cloth 3).toInt ∧ (f_cloth 3).toInt ≤ 4 by omega), (show 0 ≤ (f_cloth 4).toInt ∧ (f_cloth 4).toInt ≤ 9 by omega), (show 0 ≤ (f_cloth 5).toInt ∧ (f_cloth 5).toInt ≤ cb + 5 by omega), (show (((-1) : Int32).toInt = -1 ∧ ¬ (1 ≤ i_a1 ∧ i_a1 ≤ 1000000) ∧ (f_cloth 0).toInt = (f_cloth 0).toInt ∧ (f_cloth 1).toInt = (f_cloth 1).toInt ∧ (f_cloth 2).toInt = (f_cloth 2).toInt ∧ (f_cloth 3).toInt = (f_cloth 3).toInt ∧ (f_cloth 4).toInt = (f_cloth 4).toInt ∧ (f_cloth 5).toInt = (f_cloth 5).toInt) ∨ ((1 ≤ i_a1 ∧ i_a1 ≤ 1000000) ∧ LayI (f_cloth 0).toInt (f_cloth 1).toInt (f_cloth 2).toInt (f_cloth 3).toInt (f_cloth 4).toInt (f_cloth 5).toInt (f_cloth 0).toInt (f_cloth 1).toInt (f_cloth 2).toInt (f_cloth 3).toInt (f_cloth 4).toInt (f_cloth 5).toInt i_a1 ((-1) : Int32).toInt ∧ (0 ≤ (f_cloth 0).toInt ∧ (f_cloth 0).toInt ≤ 11) ∧ (0 ≤ (f_cloth 1).toInt ∧ (f_cloth 1).toInt ≤ 19) ∧ (0 ≤ (f_cloth 2).toInt ∧ (f_cloth 2).toInt ≤ 19) ∧ (0 ≤ (f_cloth 3).toInt ∧ (f_cloth 3).toInt ≤ 4) ∧ (0 ≤ (f_cloth 4).toInt ∧ (f_cloth 4).toInt ≤ 9)) from Or.inl ⟨by omega, by omega, by omega, by omega, by omega, by omega, by omega, by omega⟩)⟩, ⟨by rw [ht]; exact hP9, hD9⟩⟩, hS.F ht⟩) hS.2.2 dX7_lay_12
