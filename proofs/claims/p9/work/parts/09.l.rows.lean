set_option maxHeartbeats 4000000 in
set_option maxRecDepth 100000 in
theorem k_X7_take (l : Launch) (D : va_G) (c : Nat → ClassId) (ts : Nat × Nat) (sz : Nat) (A_self : Nat) (q : Nat → Nat) (v : Nat → Int32) (w : Nat → Int64) (f_cloth : Nat → Int32) (cb : Int) (a1 : Int32) (i_a1 : Int) (hi_a1 : a1.toInt = i_a1) (hv_2 : 0 ≤ (v 2).toInt ∧ (v 2).toInt ≤ 800) (hv_8 : 0 ≤ (v 8).toInt ∧ (v 8).toInt ≤ 10) (hv_21 : 0 ≤ (v 21).toInt ∧ (v 21).toInt ≤ 40) (hv_24 : 0 ≤ (v 24).toInt ∧ (v 24).toInt ≤ 1000) (hv_27 : 0 ≤ (v 27).toInt ∧ (v 27).toInt ≤ 400) (hv_42 : 0 ≤ (v 42).toInt ∧ (v 42).toInt ≤ 4000) (hv_52 : 0 ≤ (v 52).toInt ∧ (v 52).toInt ≤ 2000) (hq0 : 0 ≤ (f_cloth 0).toInt ∧ (f_cloth 0).toInt ≤ 11) (hq1 : 0 ≤ (f_cloth 1).toInt ∧ (f_cloth 1).toInt ≤ 19) (hq2 : 0 ≤ (f_cloth 2).toInt ∧ (f_cloth 2).toInt ≤ 19) (hq3 : 0 ≤ (f_cloth 3).toInt ∧ (f_cloth 3).toInt ≤ 4) (hq4 : 0 ≤ (f_cloth 4).toInt ∧ (f_cloth 4).toInt ≤ 9) (hq5 : 0 ≤ (f_cloth 5).toInt ∧ (f_cloth 5).toInt ≤ 1000000) (hq6 : (f_cloth 5).toInt ≤ cb ∧ cb ≤ 900000) : Met l yX7_take wsX7_take ({ frames := 2, cells := 0, slots := 0, locals := 43 }) (va_Pc [.ref A_self, .int a1] (Pre0 D c ts [(A_self, .inr (7, o7 q v w)), (q 55, .inl (c 1, 6, .inl f_cloth))] sz)) (va_Qi (fun (r : Int32) (u : (Nat → Int32) × Unit) => (0 ≤ (u.1 0).toInt ∧ (u.1 0).toInt ≤ 11) ∧ (0 ≤ (u.1 1).toInt ∧ (u.1 1).toInt ≤ 19) ∧ (0 ≤ (u.1 2).toInt ∧ (u.1 2).toInt ≤ 19) ∧ (0 ≤ (u.1 3).toInt ∧ (u.1 3).toInt ≤ 4) ∧ (0 ≤ (u.1 4).toInt ∧ (u.1 4).toInt ≤ 9) ∧ (0 ≤ (u.1 5).toInt ∧ (u.1 5).toInt ≤ cb)) (fun u t => va_P D vwCl [(A_self, .inr (7, o7 q v w)), (q 55, .inl (c 1, 6, .inl u.1))] t.heap ∧ va_D (va_A [(A_self, .inr (7, o7 q v w)), (q 55, .inl (c 1, 6, .inl f_cloth))] sz) [(A_self, .inr (7, o7 q v w)), (q 55, .inl (c 1, 6, .inl u.1))]) (va_A [(A_self, .inr (7, o7 q v w)), (q 55, .inl (c 1, 6, .inl f_cloth))] sz)) 0 0 (va_A [(A_self, .inr (7, o7 q v w)), (q 55, .inl (c 1, 6, .inl f_cloth))] sz) := by
  refine Met.ofW (cc := cX7_take) (maxL := 6) (ret := (some .int)) (by decide) rfl ?_
  intro p e s m args below meth cd s₁ B hml hv
  obtain ⟨rfl, hsz, hP, hD0, hAm, hSt⟩ := hv
  have hx := B.exec
  have hb := B.bytes
  have hr := B.returns
  have hts := atoms_spec (ws := wsX7_take) B.pre
  have hown : s.vm.findClass RX7 = some m.cls := findClass_of_methodNamed B.named
  have hlocks := B.notSynchronized
  have hK := hAm.1
  subst hsz
  have hD := hD0.self (sz := s.heap.size)
  generalize hAe : va_A [(A_self, .inr (7, o7 q v w)), (q 55, .inl (c 1, 6, .inl f_cloth))] s.heap.size = A at hD hSt ⊢
  have hA : ∀ q : Nat, s.heap.size ≤ q → A q := fun q h => by rw [← hAe]; exact Or.inr h
  have hS : va_S A s.heap s.heap [] := va_S.rf
  clear hD0 hAe
  have hl := lv_entry ([.ref A_self, .int a1]) (n := 6) (Nat.le_of_ble_eq_true rfl)
  rw [lg_entry_eq]
  generalize (lg_sl ([.ref A_self, .int a1]) ++ List.replicate (6 - (lg_sl ([.ref A_self, .int a1])).length) Slot.unset).toArray = ls at hl ⊢
  have hl : lv_has ls 6 [(0, .ref A_self), (1, .int a1)] := hl
  have rg_a1 := i32r a1
  refine lv_iload_n hx hb dX7_take_0 rfl (lv_at hl 1 rfl) ?_
  refine lv_iconst (v := 1) hx hb dX7_take_1 (by decide) ?_
  refine lv_ldcw (v := 1000000) hx hb hown (hts (.constant RX7 284 (1000000)) (mem_i 1 rfl)) dX7_take_2 ?_
  have hPc := hP.sub (ws' := []) [] rfl
  have hDc := hD.sub (ws' := []) [] (by decide) rfl
  have hFc := va_free (wc := []) hD hS hA [] rfl
  have kzz_1 : (1 : Int32).toInt = 1 := by decide
  have kzz_2 : (1000000 : Int32).toInt = 1000000 := by decide
  refine va_csi (va_runS (As := [.int a1, .int 1, .int 1000000]) (rest := []) ⟨hx, hb, hml, hown, hts⟩ (k_X7_in l D c ts s.heap.size a1 i_a1 hi_a1 1 1 (by decide) 1000000 1000000 (by decide)) (cwS 3 hts gX7_take_X7_in rfl rfl rfl ⟨rfl, hdX7_in⟩ ⟨(show 0 + 1 ≤ 2 by decide), (show 8 + (3 + 11) + 0 ≤ 43 by decide)⟩) ⟨Pre0.blind, Pre0.at hPc hDc hAm hSt hS hFc⟩ rfl rfl hl.1 rfl (lv_room (Nat.le_of_ble_eq_true rfl)) dX7_take_5 ⟨(show 0 + 0 ≤ 0 by decide), (show 0 + 0 ≤ 0 by decide)⟩) (fun r_4 hw_3 => ?_)
  rcases hw_3 with ⟨hw_3, rfl⟩ | ⟨hw_3, rfl⟩
  · skip
    refine iif_neT (a := 1) (tgt := 13) hx hb (by decide) dX7_take_8 (by decide) (by decide) ?_
    refine lv_iload_n hx hb dX7_take_13 rfl (lv_at hl 1 rfl) ?_
    refine lv_i2l hx hb dX7_take_14 rfl ?_
    refine lv_aload_n hx hb dX7_take_15 rfl (lv_at hl 0 rfl) ?_
    have hPc := hP.sub (ws' := [(A_self, .inr (7, o7 q v w)), (q 55, .inl (c 1, 6, .inl f_cloth))]) [0, 1] rfl
    have hDc := hD.sub (ws' := [(A_self, .inr (7, o7 q v w)), (q 55, .inl (c 1, 6, .inl f_cloth))]) [0, 1] (by decide) rfl
    have hFc := va_free (wc := [(A_self, .inr (7, o7 q v w)), (q 55, .inl (c 1, 6, .inl f_cloth))]) hD hS hA [0, 1] rfl
    refine va_csl (va_runV (As := []) (rest := [.long a1.toInt64]) ⟨hx, hb, hml, hown, hts⟩ (k_X7_lies l D c ts s.heap.size A_self q v w f_cloth (show 0 ≤ (v 2).toInt ∧ (v 2).toInt ≤ 800 by omega) (show 0 ≤ (v 8).toInt ∧ (v 8).toInt ≤ 10 by omega) (show 0 ≤ (v 21).toInt ∧ (v 21).toInt ≤ 40 by omega) (show 0 ≤ (v 24).toInt ∧ (v 24).toInt ≤ 1000 by omega) (show 0 ≤ (v 27).toInt ∧ (v 27).toInt ≤ 400 by omega) (show 0 ≤ (v 42).toInt ∧ (v 42).toInt ≤ 4000 by omega) (show 0 ≤ (v 52).toInt ∧ (v 52).toInt ≤ 2000 by omega) (show 0 ≤ (f_cloth 0).toInt ∧ (f_cloth 0).toInt ≤ 11 by omega) (show 0 ≤ (f_cloth 1).toInt ∧ (f_cloth 1).toInt ≤ 19 by omega) (show 0 ≤ (f_cloth 2).toInt ∧ (f_cloth 2).toInt ≤ 19 by omega) (show 0 ≤ (f_cloth 3).toInt ∧ (f_cloth 3).toInt ≤ 4 by omega) (show 0 ≤ (f_cloth 4).toInt ∧ (f_cloth 4).toInt ≤ 9 by omega) (show 0 ≤ (f_cloth 5).toInt ∧ (f_cloth 5).toInt ≤ 1000000 by omega)) (cwV 0 hts gX7_take_X7_lies rfl rfl rfl ⟨rfl, hdX7_lies⟩ ⟨(show 1 + 1 ≤ 2 by decide), (show 8 + (4 + 11) + 20 ≤ 43 by decide)⟩) ⟨Pre0.blind, va_recv hK hPc (ci := 7) (q0 := 0) rfl rfl, Pre0.at hPc hDc hAm hSt hS hFc⟩ rfl rfl hl.1 rfl (lv_room (Nat.le_of_ble_eq_true rfl)) dX7_take_16 ⟨(show 0 + 0 ≤ 0 by decide), (show 0 + 0 ≤ 0 by decide)⟩) (fun r_6 hw_5 => ?_)
    have hw_5 : (r_6.toInt = (f_cloth 0).toInt + 12 * (f_cloth 1).toInt + 240 * (f_cloth 2).toInt + 4800 * (f_cloth 3).toInt + 24000 * (f_cloth 4).toInt + 240000 * (f_cloth 5).toInt) := hw_5
    refine W.lcmp hx hb dX7_take_19 ?_
    refine lv_topi (fun x_7 ex_7 => ?_)
    have tx_7 := lcg_fact (n := x_7) ex_7 (show (a1.toInt64 : Int64).toInt = i_a1 from (ti_i2l hi_a1)) (show (r_6 : Int64).toInt = r_6.toInt from rfl)
    refine iif_le (a := x_7.toInt) (tgt := 26) hx hb rfl dX7_take_20 (by decide) (fun k_8 => ?_) (fun k_8 => ?_)
    · skip
      refine lv_iconst (v := 0) hx hb dX7_take_26 (by decide) ?_
      refine lv_istore_n (lv' := [(2, .int 0), (0, .ref A_self), (1, .int a1)]) hx hb dX7_take_27 rfl hl (by decide) rfl (fun ls hl => ?_)
      refine lv_iconst (v := 0) hx hb dX7_take_28 (by decide) ?_
      refine lv_istore_n (lv' := [(3, .int 0), (2, .int 0), (0, .ref A_self), (1, .int a1)]) hx hb dX7_take_29 rfl hl (by decide) rfl (fun ls hl => ?_)
      have lp_30 : ∀ (N : Nat) (L2 : Int32) (L3 : Int32) (M_cloth : Nat → Int32) (hf30_0 : 0 ≤ L3.toInt) (hf30_1 : L3.toInt ≤ 6) (hf30_2 : 0 ≤ (M_cloth 0).toInt ∧ (M_cloth 0).toInt ≤ 11) (hf30_3 : 0 ≤ (M_cloth 1).toInt ∧ (M_cloth 1).toInt ≤ 19) (hf30_4 : 0 ≤ (M_cloth 2).toInt ∧ (M_cloth 2).toInt ≤ 19) (hf30_5 : 0 ≤ (M_cloth 3).toInt ∧ (M_cloth 3).toInt ≤ 4) (hf30_6 : 0 ≤ (M_cloth 4).toInt ∧ (M_cloth 4).toInt ≤ 9) (hf30_7 : 0 ≤ (M_cloth 5).toInt ∧ (M_cloth 5).toInt ≤ cb) (hf30_8 : L3.toInt = 0 → 1 * (i_a1 / 1) ≤ 1 * (M_cloth 0).toInt + 12 * (M_cloth 1).toInt + 240 * (M_cloth 2).toInt + 4800 * (M_cloth 3).toInt + 24000 * (M_cloth 4).toInt + 240000 * (M_cloth 5).toInt) (hf30_9 : L3.toInt = 1 → 12 * (i_a1 / 12) ≤ 12 * (M_cloth 1).toInt + 240 * (M_cloth 2).toInt + 4800 * (M_cloth 3).toInt + 24000 * (M_cloth 4).toInt + 240000 * (M_cloth 5).toInt) (hf30_10 : L3.toInt = 2 → 240 * (i_a1 / 240) ≤ 240 * (M_cloth 2).toInt + 4800 * (M_cloth 3).toInt + 24000 * (M_cloth 4).toInt + 240000 * (M_cloth 5).toInt) (hf30_11 : L3.toInt = 3 → 4800 * (i_a1 / 4800) ≤ 4800 * (M_cloth 3).toInt + 24000 * (M_cloth 4).toInt + 240000 * (M_cloth 5).toInt) (hf30_12 : L3.toInt = 4 → 24000 * (i_a1 / 24000) ≤ 24000 * (M_cloth 4).toInt + 240000 * (M_cloth 5).toInt) (hf30_13 : L3.toInt = 5 → 240000 * (i_a1 / 240000) ≤ 240000 * (M_cloth 5).toInt) (hN30 : (6 - L3.toInt).toNat = N) (H : Heap) (locs : List Loc) (ls : Array Slot), va_P D vwCl [(A_self, .inr (7, o7 q v w)), (q 55, .inl (c 1, 6, .inl M_cloth))] H → va_D A [(A_self, .inr (7, o7 q v w)), (q 55, .inl (c 1, 6, .inl M_cloth))] → va_S A s.heap H locs → lv_has ls 6 [(0, .ref A_self), (1, .int a1), (2, .int L2), (3, .int L3)] → W p l e (headSpec wsX7_take ({ frames := 2, cells := 0, slots := 0, locals := 43 })).room s m (([.ref A_self, .int a1] : List Value).toArray) below meth cd H locs 0 0 (MQ below (va_Qi (fun (r : Int32) (u : (Nat → Int32) × Unit) => (0 ≤ (u.1 0).toInt ∧ (u.1 0).toInt ≤ 11) ∧ (0 ≤ (u.1 1).toInt ∧ (u.1 1).toInt ≤ 19) ∧ (0 ≤ (u.1 2).toInt ∧ (u.1 2).toInt ≤ 19) ∧ (0 ≤ (u.1 3).toInt ∧ (u.1 3).toInt ≤ 4) ∧ (0 ≤ (u.1 4).toInt ∧ (u.1 4).toInt ≤ 9) ∧ (0 ≤ (u.1 5).toInt ∧ (u.1 5).toInt ≤ cb)) (fun u t => va_P D vwCl [(A_self, .inr (7, o7 q v w)), (q 55, .inl (c 1, 6, .inl u.1))] t.heap ∧ va_D A [(A_self, .inr (7, o7 q v w)), (q 55, .inl (c 1, 6, .inl u.1))]) A) ([.ref A_self, .int a1] : List Value).toArray s 0 0 A) (F0 m 30 ls []) := by
        refine st_ind (fun N ih30 => ?_)
        intro L2 L3 M_cloth hf30_0 hf30_1 hf30_2 hf30_3 hf30_4 hf30_5 hf30_6 hf30_7 hf30_8 hf30_9 hf30_10 hf30_11 hf30_12 hf30_13 hN30 H locs ls hP hD hS hl
        have rg_L2 := i32r L2
        rcases (show L3.toInt = 0 ∨ L3.toInt = 1 ∨ L3.toInt = 2 ∨ L3.toInt = 3 ∨ L3.toInt = 4 ∨ L3.toInt = 5 ∨ L3.toInt = 6 by omega) with hsp | hsp | hsp | hsp | hsp | hsp | hsp
        · skip
          obtain rfl : L3 = 0 := Int32.toInt_inj.mp (by rw [hsp]; rfl)
          have hl : lv_has ls 6 [(0, .ref A_self), (1, .int a1), (2, .int L2), (3, .int 0)] := hl
          have kzz_9 : (0 : Int32).toInt = 0 := by decide
          refine lv_iload_n hx hb dX7_take_30 rfl (lv_at hl 3 rfl) ?_
          refine lv_bipush (v := 6) hx hb dX7_take_31 (by decide) ?_
          refine iicmp_geF (a := 0) (b := 6) (tgt := 136) hx hb (by decide) (by decide) dX7_take_33 (by decide) (by decide) ?_
          refine lv_iload_n hx hb dX7_take_36 rfl (lv_at hl 1 rfl) ?_
          refine lv_iload_n hx hb dX7_take_37 rfl (lv_at hl 3 rfl) ?_
          have hPc := hP.sub (ws' := []) [] rfl
          have hDc := hD.sub (ws' := []) [] (by decide) rfl
          have hFc := va_free (wc := []) hD hS hA [] rfl
          have kzz_10 : (0 : Int32).toInt = 0 := by decide
          refine va_csi (va_runS (As := [.int a1, .int 0]) (rest := []) ⟨hx, hb, hml, hown, hts⟩ (k_X7_notch_P l D c ts H.size a1 i_a1 hi_a1 0 0 (by decide) (by omega) (by omega)) (cwS 2 hts gX7_take_X7_notch rfl rfl rfl ⟨rfl, hdX7_notch⟩ ⟨(show 1 + 1 ≤ 2 by decide), (show 8 + (2 + 11) + 20 ≤ 43 by decide)⟩) ⟨Pre0.blind, Pre0.at hPc hDc hAm hSt hS hFc⟩ rfl rfl hl.1 rfl (lv_room (Nat.le_of_ble_eq_true rfl)) dX7_take_38 ⟨(show 0 + 0 ≤ 0 by decide), (show 0 + 0 ≤ 0 by decide)⟩) (fun r_12 hw_11 => ?_)
          have nf_13 := hw_11.2.1 rfl
          have nf_14 := hw_11.1
          clear hw_11
          have rg_r_12 := i32r r_12
          refine lv_istore (lv' := [(4, .int r_12), (0, .ref A_self), (1, .int a1), (2, .int L2), (3, .int 0)]) hx hb dX7_take_41 hl (by decide) rfl (fun ls hl => ?_)
          refine lv_aload_n hx hb dX7_take_43 rfl (lv_at hl 1 rfl) ?_
          refine va_get (D := D) (ci := 7) (v := .ref (q 55)) (C := RX7) (T := TX7) (N := 56) hx hb hts (fun _ h => List.mem_cons_of_mem _ (List.mem_append_right _ h)) hown hK hP 0 rfl rfl 55 (by decide) (hts (.fieldLink RX7 118 "CrownTableModel" "cloth" "[I") (mem_i 2 rfl)) (fun _ h9 => h9) rfl dX7_take_44 ?_
          refine lv_iload_n hx hb dX7_take_47 rfl (lv_at hl 4 rfl) ?_
          refine va_iald hx hb hK hP 1 1 rfl rfl (vin (a := 0) (by decide) (by decide) (by decide)) dX7_take_48 ?_
          refine lv_topi (fun x_15 ex_15 => ?_)
          have lf_16 : (M_cloth 0).toInt = x_15.toInt := by rw [ex_15]; rfl
          refine lv_iload hx hb dX7_take_49 (lv_at hl 0 rfl) ?_
          refine iicmp_ge (a := x_15.toInt) (b := r_12.toInt) (tgt := 119) hx hb rfl rfl dX7_take_51 (by decide) (fun k_17 => ?_) (fun k_17 => ?_)
          · skip
            refine lv_aload_n hx hb dX7_take_119 rfl (lv_at hl 1 rfl) ?_
            refine va_get (D := D) (ci := 7) (v := .ref (q 55)) (C := RX7) (T := TX7) (N := 56) hx hb hts (fun _ h => List.mem_cons_of_mem _ (List.mem_append_right _ h)) hown hK hP 0 rfl rfl 55 (by decide) (hts (.fieldLink RX7 118 "CrownTableModel" "cloth" "[I") (mem_i 2 rfl)) (fun _ h9 => h9) rfl dX7_take_120 ?_
            refine lv_iload_n hx hb dX7_take_123 rfl (lv_at hl 4 rfl) ?_
            refine lv_dup2_11 hx hb dX7_take_124 rfl rfl ?_
            refine va_iald hx hb hK hP 1 1 rfl rfl (vin (a := 0) (by decide) (by decide) (by decide)) dX7_take_125 ?_
            refine lv_topi (fun x_18 ex_18 => ?_)
            have lf_19 : (M_cloth 0).toInt = x_18.toInt := by rw [ex_18]; rfl
            refine lv_iload hx hb dX7_take_126 (lv_at hl 0 rfl) ?_
            refine lv_isub hx hb dX7_take_128 ?_
            refine lv_topi (fun x_20 ex_20 => ?_)
            have tx_20 : x_20.toInt = (x_18.toInt - r_12.toInt) := by rw [ex_20]; exact sub_ti (a := x_18.toInt) (b := r_12.toInt) rfl rfl (by omega) (by omega)
            refine va_iast hx hb hK hP hD hS 1 1 rfl rfl (vin (a := 0) (by decide) (by decide) (by decide)) dX7_take_129 (fun H locs hP hD hS => ?_)
            obtain ⟨f_21, ef_21, hP, hD⟩ : ∃ f_21 : Nat → Int32, f_21 = upd M_cloth (0 : Int32).toNatClampNeg x_20 ∧ va_P D vwCl [(A_self, .inr (7, o7 q v w)), (q 55, .inl (c 1, 6, .inl f_21))] H ∧ va_D A [(A_self, .inr (7, o7 q v w)), (q 55, .inl (c 1, 6, .inl f_21))] := ⟨_, rfl, hP, hD⟩
            have cl_22 : (f_21 0).toInt = x_20.toInt := by rw [ef_21]; rfl
            have cl_23 : (f_21 1).toInt = (M_cloth 1).toInt := by rw [ef_21]; rfl
            have cl_24 : (f_21 2).toInt = (M_cloth 2).toInt := by rw [ef_21]; rfl
            have cl_25 : (f_21 3).toInt = (M_cloth 3).toInt := by rw [ef_21]; rfl
            have cl_26 : (f_21 4).toInt = (M_cloth 4).toInt := by rw [ef_21]; rfl
            have cl_27 : (f_21 5).toInt = (M_cloth 5).toInt := by rw [ef_21]; rfl
            refine lv_iinc (v := 1) (lv' := [(3, .int 1), (4, .int r_12), (0, .ref A_self), (1, .int a1), (2, .int L2)]) hx hb dX7_take_130 hl (k := 4) rfl (by decide) (by decide) rfl (fun ls hl => ?_)
            refine lv_goto (tgt := 30) hx hb dX7_take_133 (by decide) ?_
            have kzz_28 : (1 : Int32).toInt = 1 := by decide
            have hl := lv_sub hl [2, 3, 4, 0] rfl
            exact (ih30 ((6 - (1 : Int32).toInt).toNat) (by omega) L2 1 f_21 (by omega) (by omega) (by omega) (by omega) (by omega) (by omega) (by omega) (by omega) (by omega) (by omega) (by omega) (by omega) (by omega) (by omega) rfl _ _ _ hP hD hS hl)
          · skip
            refine lv_iload_n hx hb dX7_take_54 rfl (lv_at hl 4 rfl) ?_
            refine lv_iconst (v := 1) hx hb dX7_take_55 (by decide) ?_
            refine lv_iadd hx hb dX7_take_56 ?_
            refine lk_i (y := 1) (by decide) ?_
            refine lv_istore (lv' := [(5, .int 1), (4, .int r_12), (0, .ref A_self), (1, .int a1), (2, .int L2), (3, .int 0)]) hx hb dX7_take_57 hl (by decide) rfl (fun ls hl => ?_)
            refine lv_aload_n hx hb dX7_take_59 rfl (lv_at hl 2 rfl) ?_
            refine va_get (D := D) (ci := 7) (v := .ref (q 55)) (C := RX7) (T := TX7) (N := 56) hx hb hts (fun _ h => List.mem_cons_of_mem _ (List.mem_append_right _ h)) hown hK hP 0 rfl rfl 55 (by decide) (hts (.fieldLink RX7 118 "CrownTableModel" "cloth" "[I") (mem_i 2 rfl)) (fun _ h9 => h9) rfl dX7_take_60 ?_
            refine lv_iload hx hb dX7_take_63 (lv_at hl 0 rfl) ?_
            refine va_iald hx hb hK hP 1 1 rfl rfl (vin (a := 1) (by decide) (by decide) (by decide)) dX7_take_65 ?_
            refine lv_topi (fun x_29 ex_29 => ?_)
            have lf_30 : (M_cloth 1).toInt = x_29.toInt := by rw [ex_29]; rfl
            refine iif_ne (a := x_29.toInt) (tgt := 75) hx hb rfl dX7_take_66 (by decide) (fun k_31 => ?_) (fun k_31 => ?_)
            · skip
              refine lv_iload hx hb dX7_take_75 (lv_at hl 0 rfl) ?_
              refine lv_iload_n hx hb dX7_take_77 rfl (lv_at hl 5 rfl) ?_
              refine iicmp_leF (a := 1) (b := 0) (tgt := 116) hx hb (by decide) (by decide) dX7_take_78 (by decide) (by decide) ?_
              refine lv_aload_n hx hb dX7_take_81 rfl (lv_at hl 2 rfl) ?_
              refine va_get (D := D) (ci := 7) (v := .ref (q 55)) (C := RX7) (T := TX7) (N := 56) hx hb hts (fun _ h => List.mem_cons_of_mem _ (List.mem_append_right _ h)) hown hK hP 0 rfl rfl 55 (by decide) (hts (.fieldLink RX7 118 "CrownTableModel" "cloth" "[I") (mem_i 2 rfl)) (fun _ h9 => h9) rfl dX7_take_82 ?_
              refine lv_iload hx hb dX7_take_85 (lv_at hl 0 rfl) ?_
              refine lv_dup2_11 hx hb dX7_take_87 rfl rfl ?_
              refine va_iald hx hb hK hP 1 1 rfl rfl (vin (a := 1) (by decide) (by decide) (by decide)) dX7_take_88 ?_
              refine lv_topi (fun x_32 ex_32 => ?_)
              have lf_33 : (M_cloth 1).toInt = x_32.toInt := by rw [ex_32]; rfl
              refine lv_iconst (v := 1) hx hb dX7_take_89 (by decide) ?_
              refine lv_isub hx hb dX7_take_90 ?_
              refine lv_topi (fun x_34 ex_34 => ?_)
              have tx_34 : x_34.toInt = (x_32.toInt - 1) := by rw [ex_34]; exact sub_ti (a := x_32.toInt) (b := 1) rfl (by decide) (by omega) (by omega)
              refine va_iast hx hb hK hP hD hS 1 1 rfl rfl (vin (a := 1) (by decide) (by decide) (by decide)) dX7_take_91 (fun H locs hP hD hS => ?_)
              obtain ⟨f_35, ef_35, hP, hD⟩ : ∃ f_35 : Nat → Int32, f_35 = upd M_cloth (1 : Int32).toNatClampNeg x_34 ∧ va_P D vwCl [(A_self, .inr (7, o7 q v w)), (q 55, .inl (c 1, 6, .inl f_35))] H ∧ va_D A [(A_self, .inr (7, o7 q v w)), (q 55, .inl (c 1, 6, .inl f_35))] := ⟨_, rfl, hP, hD⟩
              have cl_36 : (f_35 0).toInt = (M_cloth 0).toInt := by rw [ef_35]; rfl
              have cl_37 : (f_35 1).toInt = x_34.toInt := by rw [ef_35]; rfl
              have cl_38 : (f_35 2).toInt = (M_cloth 2).toInt := by rw [ef_35]; rfl
              have cl_39 : (f_35 3).toInt = (M_cloth 3).toInt := by rw [ef_35]; rfl
              have cl_40 : (f_35 4).toInt = (M_cloth 4).toInt := by rw [ef_35]; rfl
              have cl_41 : (f_35 5).toInt = (M_cloth 5).toInt := by rw [ef_35]; rfl
              refine lv_iinc (v := 0) (lv' := [(5, .int 0), (4, .int r_12), (0, .ref A_self), (1, .int a1), (2, .int L2), (3, .int 0)]) hx hb dX7_take_92 hl (k := 0) rfl (by decide) (by decide) rfl (fun ls hl => ?_)
              refine lv_aload_n hx hb dX7_take_95 rfl (lv_at hl 2 rfl) ?_
              refine va_get (D := D) (ci := 7) (v := .ref (q 55)) (C := RX7) (T := TX7) (N := 56) hx hb hts (fun _ h => List.mem_cons_of_mem _ (List.mem_append_right _ h)) hown hK hP 0 rfl rfl 55 (by decide) (hts (.fieldLink RX7 118 "CrownTableModel" "cloth" "[I") (mem_i 2 rfl)) (fun _ h9 => h9) rfl dX7_take_96 ?_
              refine lv_iload hx hb dX7_take_99 (lv_at hl 0 rfl) ?_
              refine lv_dup2_11 hx hb dX7_take_101 rfl rfl ?_
              refine va_iald hx hb hK hP 1 1 rfl rfl (vin (a := 0) (by decide) (by decide) (by decide)) dX7_take_102 ?_
              refine lv_topi (fun x_42 ex_42 => ?_)
              have lf_43 : (f_35 0).toInt = x_42.toInt := by rw [ex_42]; rfl
              refine lv_iload hx hb dX7_take_103 (lv_at hl 0 rfl) ?_
              have hPc := hP.sub (ws' := []) [] rfl
              have hDc := hD.sub (ws' := []) [] (by decide) rfl
              have hFc := va_free (wc := []) hD hS hA [] rfl
              have kzz_44 : (0 : Int32).toInt = 0 := by decide
              refine va_csi (va_runS (As := [.int 0]) (rest := [.int x_42, .int 0, .ref (q 55)]) ⟨hx, hb, hml, hown, hts⟩ (k_X7_next l D c ts H.size 0 0 (by decide) (by omega)) (cwS 1 hts gX7_take_X7_next rfl rfl rfl ⟨rfl, hdX7_next⟩ ⟨(show 1 + 1 ≤ 2 by decide), (show 8 + (1 + 11) + 20 ≤ 43 by decide)⟩) ⟨Pre0.blind, Pre0.at hPc hDc hAm hSt hS hFc⟩ rfl rfl hl.1 rfl (lv_room (Nat.le_of_ble_eq_true rfl)) dX7_take_105 ⟨(show 0 + 0 ≤ 0 by decide), (show 0 + 0 ≤ 0 by decide)⟩) (fun r_46 hw_45 => ?_)
              rcases hw_45 with ⟨hw_45, rfl⟩ | ⟨hw_45, rfl⟩ | ⟨hw_45, rfl⟩ | ⟨hw_45, rfl⟩
              · skip
                refine lv_iadd hx hb dX7_take_108 ?_
                refine lv_topi (fun x_47 ex_47 => ?_)
                have tx_47 : x_47.toInt = (x_42.toInt + 12) := by rw [ex_47]; exact add_ti (a := x_42.toInt) (b := 12) rfl (by decide) (by omega) (by omega)
                refine va_iast hx hb hK hP hD hS 1 1 rfl rfl (vin (a := 0) (by decide) (by decide) (by decide)) dX7_take_109 (fun H locs hP hD hS => ?_)
                obtain ⟨f_48, ef_48, hP, hD⟩ : ∃ f_48 : Nat → Int32, f_48 = upd f_35 (0 : Int32).toNatClampNeg x_47 ∧ va_P D vwCl [(A_self, .inr (7, o7 q v w)), (q 55, .inl (c 1, 6, .inl f_48))] H ∧ va_D A [(A_self, .inr (7, o7 q v w)), (q 55, .inl (c 1, 6, .inl f_48))] := ⟨_, rfl, hP, hD⟩
                have cl_49 : (f_48 0).toInt = x_47.toInt := by rw [ef_48]; rfl
                have cl_50 : (f_48 1).toInt = (f_35 1).toInt := by rw [ef_48]; rfl
                have cl_51 : (f_48 2).toInt = (f_35 2).toInt := by rw [ef_48]; rfl
                have cl_52 : (f_48 3).toInt = (f_35 3).toInt := by rw [ef_48]; rfl
                have cl_53 : (f_48 4).toInt = (f_35 4).toInt := by rw [ef_48]; rfl
                have cl_54 : (f_48 5).toInt = (f_35 5).toInt := by rw [ef_48]; rfl
                obtain ⟨x_55, ex_55⟩ : ∃ y : Int32, y = L2 + 1 := ⟨_, rfl⟩
                refine lv_iinc (v := x_55) (lv' := [(2, .int x_55), (5, .int 0), (4, .int r_12), (0, .ref A_self), (1, .int a1), (3, .int 0)]) hx hb dX7_take_110 hl (k := 4) rfl (by rw [ex_55]; rfl) (by decide) rfl (fun ls hl => ?_)
                refine lv_goto (tgt := 75) hx hb dX7_take_113 (by decide) ?_
                refine lv_iload hx hb dX7_take_75 (lv_at hl 1 rfl) ?_
                refine lv_iload_n hx hb dX7_take_77 rfl (lv_at hl 5 rfl) ?_
                refine iicmp_leT (a := 0) (b := 0) (tgt := 116) hx hb (by decide) (by decide) dX7_take_78 (by decide) (by decide) ?_
                refine lv_goto (tgt := 43) hx hb dX7_take_116 (by decide) ?_
                refine lv_aload_n hx hb dX7_take_43 rfl (lv_at hl 3 rfl) ?_
                refine va_get (D := D) (ci := 7) (v := .ref (q 55)) (C := RX7) (T := TX7) (N := 56) hx hb hts (fun _ h => List.mem_cons_of_mem _ (List.mem_append_right _ h)) hown hK hP 0 rfl rfl 55 (by decide) (hts (.fieldLink RX7 118 "CrownTableModel" "cloth" "[I") (mem_i 2 rfl)) (fun _ h9 => h9) rfl dX7_take_44 ?_
                refine lv_iload_n hx hb dX7_take_47 rfl (lv_at hl 5 rfl) ?_
                refine va_iald hx hb hK hP 1 1 rfl rfl (vin (a := 0) (by decide) (by decide) (by decide)) dX7_take_48 ?_
                refine lv_topi (fun x_56 ex_56 => ?_)
                have lf_57 : (f_48 0).toInt = x_56.toInt := by rw [ex_56]; rfl
                refine lv_iload hx hb dX7_take_49 (lv_at hl 2 rfl) ?_
                refine iicmp_ge (a := x_56.toInt) (b := r_12.toInt) (tgt := 119) hx hb rfl rfl dX7_take_51 (by decide) (fun k_58 => ?_) (fun k_58 => ?_)
                · skip
                  refine lv_aload_n hx hb dX7_take_119 rfl (lv_at hl 3 rfl) ?_
                  refine va_get (D := D) (ci := 7) (v := .ref (q 55)) (C := RX7) (T := TX7) (N := 56) hx hb hts (fun _ h => List.mem_cons_of_mem _ (List.mem_append_right _ h)) hown hK hP 0 rfl rfl 55 (by decide) (hts (.fieldLink RX7 118 "CrownTableModel" "cloth" "[I") (mem_i 2 rfl)) (fun _ h9 => h9) rfl dX7_take_120 ?_
                  refine lv_iload_n hx hb dX7_take_123 rfl (lv_at hl 5 rfl) ?_
                  refine lv_dup2_11 hx hb dX7_take_124 rfl rfl ?_
                  refine va_iald hx hb hK hP 1 1 rfl rfl (vin (a := 0) (by decide) (by decide) (by decide)) dX7_take_125 ?_
                  refine lv_topi (fun x_59 ex_59 => ?_)
                  have lf_60 : (f_48 0).toInt = x_59.toInt := by rw [ex_59]; rfl
                  refine lv_iload hx hb dX7_take_126 (lv_at hl 2 rfl) ?_
                  refine lv_isub hx hb dX7_take_128 ?_
                  refine lv_topi (fun x_61 ex_61 => ?_)
                  have tx_61 : x_61.toInt = (x_59.toInt - r_12.toInt) := by rw [ex_61]; exact sub_ti (a := x_59.toInt) (b := r_12.toInt) rfl rfl (by omega) (by omega)
                  refine va_iast hx hb hK hP hD hS 1 1 rfl rfl (vin (a := 0) (by decide) (by decide) (by decide)) dX7_take_129 (fun H locs hP hD hS => ?_)
                  obtain ⟨f_62, ef_62, hP, hD⟩ : ∃ f_62 : Nat → Int32, f_62 = upd f_48 (0 : Int32).toNatClampNeg x_61 ∧ va_P D vwCl [(A_self, .inr (7, o7 q v w)), (q 55, .inl (c 1, 6, .inl f_62))] H ∧ va_D A [(A_self, .inr (7, o7 q v w)), (q 55, .inl (c 1, 6, .inl f_62))] := ⟨_, rfl, hP, hD⟩
                  have cl_63 : (f_62 0).toInt = x_61.toInt := by rw [ef_62]; rfl
                  have cl_64 : (f_62 1).toInt = (f_48 1).toInt := by rw [ef_62]; rfl
                  have cl_65 : (f_62 2).toInt = (f_48 2).toInt := by rw [ef_62]; rfl
                  have cl_66 : (f_62 3).toInt = (f_48 3).toInt := by rw [ef_62]; rfl
                  have cl_67 : (f_62 4).toInt = (f_48 4).toInt := by rw [ef_62]; rfl
                  have cl_68 : (f_62 5).toInt = (f_48 5).toInt := by rw [ef_62]; rfl
                  refine lv_iinc (v := 1) (lv' := [(3, .int 1), (2, .int x_55), (5, .int 0), (4, .int r_12), (0, .ref A_self), (1, .int a1)]) hx hb dX7_take_130 hl (k := 5) rfl (by decide) (by decide) rfl (fun ls hl => ?_)
                  refine lv_goto (tgt := 30) hx hb dX7_take_133 (by decide) ?_
                  have kzz_69 : (1 : Int32).toInt = 1 := by decide
                  have hl := lv_sub hl [4, 5, 1, 0] rfl
                  exact (ih30 ((6 - (1 : Int32).toInt).toNat) (by omega) x_55 1 f_62 (by omega) (by omega) (by omega) (by omega) (by omega) (by omega) (by omega) (by omega) (by omega) (by omega) (by omega) (by omega) (by omega) (by omega) rfl _ _ _ hP hD hS hl)
                · skip
                  exfalso; omega
              · exfalso; omega
              · exfalso; omega
              · exfalso; omega
            · skip
              refine lv_iinc (v := 2) (lv' := [(5, .int 2), (4, .int r_12), (0, .ref A_self), (1, .int a1), (2, .int L2), (3, .int 0)]) hx hb dX7_take_69 hl (k := 0) rfl (by decide) (by decide) rfl (fun ls hl => ?_)
              refine lv_goto (tgt := 59) hx hb dX7_take_72 (by decide) ?_
              refine lv_aload_n hx hb dX7_take_59 rfl (lv_at hl 2 rfl) ?_
              refine va_get (D := D) (ci := 7) (v := .ref (q 55)) (C := RX7) (T := TX7) (N := 56) hx hb hts (fun _ h => List.mem_cons_of_mem _ (List.mem_append_right _ h)) hown hK hP 0 rfl rfl 55 (by decide) (hts (.fieldLink RX7 118 "CrownTableModel" "cloth" "[I") (mem_i 2 rfl)) (fun _ h9 => h9) rfl dX7_take_60 ?_
              refine lv_iload hx hb dX7_take_63 (lv_at hl 0 rfl) ?_
              refine va_iald hx hb hK hP 1 1 rfl rfl (vin (a := 2) (by decide) (by decide) (by decide)) dX7_take_65 ?_
              refine lv_topi (fun x_70 ex_70 => ?_)
              have lf_71 : (M_cloth 2).toInt = x_70.toInt := by rw [ex_70]; rfl
              refine iif_ne (a := x_70.toInt) (tgt := 75) hx hb rfl dX7_take_66 (by decide) (fun k_72 => ?_) (fun k_72 => ?_)
              · skip
                refine lv_iload hx hb dX7_take_75 (lv_at hl 0 rfl) ?_
                refine lv_iload_n hx hb dX7_take_77 rfl (lv_at hl 5 rfl) ?_
                refine iicmp_leF (a := 2) (b := 0) (tgt := 116) hx hb (by decide) (by decide) dX7_take_78 (by decide) (by decide) ?_
                refine lv_aload_n hx hb dX7_take_81 rfl (lv_at hl 2 rfl) ?_
                refine va_get (D := D) (ci := 7) (v := .ref (q 55)) (C := RX7) (T := TX7) (N := 56) hx hb hts (fun _ h => List.mem_cons_of_mem _ (List.mem_append_right _ h)) hown hK hP 0 rfl rfl 55 (by decide) (hts (.fieldLink RX7 118 "CrownTableModel" "cloth" "[I") (mem_i 2 rfl)) (fun _ h9 => h9) rfl dX7_take_82 ?_
                refine lv_iload hx hb dX7_take_85 (lv_at hl 0 rfl) ?_
                refine lv_dup2_11 hx hb dX7_take_87 rfl rfl ?_
                refine va_iald hx hb hK hP 1 1 rfl rfl (vin (a := 2) (by decide) (by decide) (by decide)) dX7_take_88 ?_
                refine lv_topi (fun x_73 ex_73 => ?_)
                have lf_74 : (M_cloth 2).toInt = x_73.toInt := by rw [ex_73]; rfl
                refine lv_iconst (v := 1) hx hb dX7_take_89 (by decide) ?_
                refine lv_isub hx hb dX7_take_90 ?_
                refine lv_topi (fun x_75 ex_75 => ?_)
                have tx_75 : x_75.toInt = (x_73.toInt - 1) := by rw [ex_75]; exact sub_ti (a := x_73.toInt) (b := 1) rfl (by decide) (by omega) (by omega)
                refine va_iast hx hb hK hP hD hS 1 1 rfl rfl (vin (a := 2) (by decide) (by decide) (by decide)) dX7_take_91 (fun H locs hP hD hS => ?_)
                obtain ⟨f_76, ef_76, hP, hD⟩ : ∃ f_76 : Nat → Int32, f_76 = upd M_cloth (2 : Int32).toNatClampNeg x_75 ∧ va_P D vwCl [(A_self, .inr (7, o7 q v w)), (q 55, .inl (c 1, 6, .inl f_76))] H ∧ va_D A [(A_self, .inr (7, o7 q v w)), (q 55, .inl (c 1, 6, .inl f_76))] := ⟨_, rfl, hP, hD⟩
                have cl_77 : (f_76 0).toInt = (M_cloth 0).toInt := by rw [ef_76]; rfl
                have cl_78 : (f_76 1).toInt = (M_cloth 1).toInt := by rw [ef_76]; rfl
                have cl_79 : (f_76 2).toInt = x_75.toInt := by rw [ef_76]; rfl
                have cl_80 : (f_76 3).toInt = (M_cloth 3).toInt := by rw [ef_76]; rfl
                have cl_81 : (f_76 4).toInt = (M_cloth 4).toInt := by rw [ef_76]; rfl
                have cl_82 : (f_76 5).toInt = (M_cloth 5).toInt := by rw [ef_76]; rfl
                refine lv_iinc (v := 1) (lv' := [(5, .int 1), (4, .int r_12), (0, .ref A_self), (1, .int a1), (2, .int L2), (3, .int 0)]) hx hb dX7_take_92 hl (k := 0) rfl (by decide) (by decide) rfl (fun ls hl => ?_)
                refine lv_aload_n hx hb dX7_take_95 rfl (lv_at hl 2 rfl) ?_
                refine va_get (D := D) (ci := 7) (v := .ref (q 55)) (C := RX7) (T := TX7) (N := 56) hx hb hts (fun _ h => List.mem_cons_of_mem _ (List.mem_append_right _ h)) hown hK hP 0 rfl rfl 55 (by decide) (hts (.fieldLink RX7 118 "CrownTableModel" "cloth" "[I") (mem_i 2 rfl)) (fun _ h9 => h9) rfl dX7_take_96 ?_
                refine lv_iload hx hb dX7_take_99 (lv_at hl 0 rfl) ?_
                refine lv_dup2_11 hx hb dX7_take_101 rfl rfl ?_
                refine va_iald hx hb hK hP 1 1 rfl rfl (vin (a := 1) (by decide) (by decide) (by decide)) dX7_take_102 ?_
                refine lv_topi (fun x_83 ex_83 => ?_)
                have lf_84 : (f_76 1).toInt = x_83.toInt := by rw [ex_83]; rfl
                refine lv_iload hx hb dX7_take_103 (lv_at hl 0 rfl) ?_
                have hPc := hP.sub (ws' := []) [] rfl
                have hDc := hD.sub (ws' := []) [] (by decide) rfl
                have hFc := va_free (wc := []) hD hS hA [] rfl
                have kzz_85 : (1 : Int32).toInt = 1 := by decide
                refine va_csi (va_runS (As := [.int 1]) (rest := [.int x_83, .int 1, .ref (q 55)]) ⟨hx, hb, hml, hown, hts⟩ (k_X7_next l D c ts H.size 1 1 (by decide) (by omega)) (cwS 1 hts gX7_take_X7_next rfl rfl rfl ⟨rfl, hdX7_next⟩ ⟨(show 1 + 1 ≤ 2 by decide), (show 8 + (1 + 11) + 20 ≤ 43 by decide)⟩) ⟨Pre0.blind, Pre0.at hPc hDc hAm hSt hS hFc⟩ rfl rfl hl.1 rfl (lv_room (Nat.le_of_ble_eq_true rfl)) dX7_take_105 ⟨(show 0 + 0 ≤ 0 by decide), (show 0 + 0 ≤ 0 by decide)⟩) (fun r_87 hw_86 => ?_)
                rcases hw_86 with ⟨hw_86, rfl⟩ | ⟨hw_86, rfl⟩ | ⟨hw_86, rfl⟩ | ⟨hw_86, rfl⟩
                · exfalso; omega
                · skip
                  refine lv_iadd hx hb dX7_take_108 ?_
                  refine lv_topi (fun x_88 ex_88 => ?_)
                  have tx_88 : x_88.toInt = (x_83.toInt + 20) := by rw [ex_88]; exact add_ti (a := x_83.toInt) (b := 20) rfl (by decide) (by omega) (by omega)
                  refine va_iast hx hb hK hP hD hS 1 1 rfl rfl (vin (a := 1) (by decide) (by decide) (by decide)) dX7_take_109 (fun H locs hP hD hS => ?_)
                  obtain ⟨f_89, ef_89, hP, hD⟩ : ∃ f_89 : Nat → Int32, f_89 = upd f_76 (1 : Int32).toNatClampNeg x_88 ∧ va_P D vwCl [(A_self, .inr (7, o7 q v w)), (q 55, .inl (c 1, 6, .inl f_89))] H ∧ va_D A [(A_self, .inr (7, o7 q v w)), (q 55, .inl (c 1, 6, .inl f_89))] := ⟨_, rfl, hP, hD⟩
                  have cl_90 : (f_89 0).toInt = (f_76 0).toInt := by rw [ef_89]; rfl
                  have cl_91 : (f_89 1).toInt = x_88.toInt := by rw [ef_89]; rfl
                  have cl_92 : (f_89 2).toInt = (f_76 2).toInt := by rw [ef_89]; rfl
                  have cl_93 : (f_89 3).toInt = (f_76 3).toInt := by rw [ef_89]; rfl
                  have cl_94 : (f_89 4).toInt = (f_76 4).toInt := by rw [ef_89]; rfl
                  have cl_95 : (f_89 5).toInt = (f_76 5).toInt := by rw [ef_89]; rfl
                  obtain ⟨x_96, ex_96⟩ : ∃ y : Int32, y = L2 + 1 := ⟨_, rfl⟩
                  refine lv_iinc (v := x_96) (lv' := [(2, .int x_96), (5, .int 1), (4, .int r_12), (0, .ref A_self), (1, .int a1), (3, .int 0)]) hx hb dX7_take_110 hl (k := 4) rfl (by rw [ex_96]; rfl) (by decide) rfl (fun ls hl => ?_)
                  refine lv_goto (tgt := 75) hx hb dX7_take_113 (by decide) ?_
                  refine lv_iload hx hb dX7_take_75 (lv_at hl 1 rfl) ?_
                  refine lv_iload_n hx hb dX7_take_77 rfl (lv_at hl 5 rfl) ?_
                  refine iicmp_leF (a := 1) (b := 0) (tgt := 116) hx hb (by decide) (by decide) dX7_take_78 (by decide) (by decide) ?_
                  refine lv_aload_n hx hb dX7_take_81 rfl (lv_at hl 3 rfl) ?_
                  refine va_get (D := D) (ci := 7) (v := .ref (q 55)) (C := RX7) (T := TX7) (N := 56) hx hb hts (fun _ h => List.mem_cons_of_mem _ (List.mem_append_right _ h)) hown hK hP 0 rfl rfl 55 (by decide) (hts (.fieldLink RX7 118 "CrownTableModel" "cloth" "[I") (mem_i 2 rfl)) (fun _ h9 => h9) rfl dX7_take_82 ?_
                  refine lv_iload hx hb dX7_take_85 (lv_at hl 1 rfl) ?_
                  refine lv_dup2_11 hx hb dX7_take_87 rfl rfl ?_
                  refine va_iald hx hb hK hP 1 1 rfl rfl (vin (a := 1) (by decide) (by decide) (by decide)) dX7_take_88 ?_
                  refine lv_topi (fun x_97 ex_97 => ?_)
                  have lf_98 : (f_89 1).toInt = x_97.toInt := by rw [ex_97]; rfl
                  refine lv_iconst (v := 1) hx hb dX7_take_89 (by decide) ?_
                  refine lv_isub hx hb dX7_take_90 ?_
                  refine lv_topi (fun x_99 ex_99 => ?_)
                  have tx_99 : x_99.toInt = (x_97.toInt - 1) := by rw [ex_99]; exact sub_ti (a := x_97.toInt) (b := 1) rfl (by decide) (by omega) (by omega)
                  refine va_iast hx hb hK hP hD hS 1 1 rfl rfl (vin (a := 1) (by decide) (by decide) (by decide)) dX7_take_91 (fun H locs hP hD hS => ?_)
                  obtain ⟨f_100, ef_100, hP, hD⟩ : ∃ f_100 : Nat → Int32, f_100 = upd f_89 (1 : Int32).toNatClampNeg x_99 ∧ va_P D vwCl [(A_self, .inr (7, o7 q v w)), (q 55, .inl (c 1, 6, .inl f_100))] H ∧ va_D A [(A_self, .inr (7, o7 q v w)), (q 55, .inl (c 1, 6, .inl f_100))] := ⟨_, rfl, hP, hD⟩
                  have cl_101 : (f_100 0).toInt = (f_89 0).toInt := by rw [ef_100]; rfl
                  have cl_102 : (f_100 1).toInt = x_99.toInt := by rw [ef_100]; rfl
                  have cl_103 : (f_100 2).toInt = (f_89 2).toInt := by rw [ef_100]; rfl
                  have cl_104 : (f_100 3).toInt = (f_89 3).toInt := by rw [ef_100]; rfl
                  have cl_105 : (f_100 4).toInt = (f_89 4).toInt := by rw [ef_100]; rfl
                  have cl_106 : (f_100 5).toInt = (f_89 5).toInt := by rw [ef_100]; rfl
                  refine lv_iinc (v := 0) (lv' := [(5, .int 0), (2, .int x_96), (4, .int r_12), (0, .ref A_self), (1, .int a1), (3, .int 0)]) hx hb dX7_take_92 hl (k := 1) rfl (by decide) (by decide) rfl (fun ls hl => ?_)
                  refine lv_aload_n hx hb dX7_take_95 rfl (lv_at hl 3 rfl) ?_
                  refine va_get (D := D) (ci := 7) (v := .ref (q 55)) (C := RX7) (T := TX7) (N := 56) hx hb hts (fun _ h => List.mem_cons_of_mem _ (List.mem_append_right _ h)) hown hK hP 0 rfl rfl 55 (by decide) (hts (.fieldLink RX7 118 "CrownTableModel" "cloth" "[I") (mem_i 2 rfl)) (fun _ h9 => h9) rfl dX7_take_96 ?_
                  refine lv_iload hx hb dX7_take_99 (lv_at hl 0 rfl) ?_
                  refine lv_dup2_11 hx hb dX7_take_101 rfl rfl ?_
                  refine va_iald hx hb hK hP 1 1 rfl rfl (vin (a := 0) (by decide) (by decide) (by decide)) dX7_take_102 ?_
                  refine lv_topi (fun x_107 ex_107 => ?_)
                  have lf_108 : (f_100 0).toInt = x_107.toInt := by rw [ex_107]; rfl
                  refine lv_iload hx hb dX7_take_103 (lv_at hl 0 rfl) ?_
                  have hPc := hP.sub (ws' := []) [] rfl
                  have hDc := hD.sub (ws' := []) [] (by decide) rfl
                  have hFc := va_free (wc := []) hD hS hA [] rfl
                  have kzz_109 : (0 : Int32).toInt = 0 := by decide
                  refine va_csi (va_runS (As := [.int 0]) (rest := [.int x_107, .int 0, .ref (q 55)]) ⟨hx, hb, hml, hown, hts⟩ (k_X7_next l D c ts H.size 0 0 (by decide) (by omega)) (cwS 1 hts gX7_take_X7_next rfl rfl rfl ⟨rfl, hdX7_next⟩ ⟨(show 1 + 1 ≤ 2 by decide), (show 8 + (1 + 11) + 20 ≤ 43 by decide)⟩) ⟨Pre0.blind, Pre0.at hPc hDc hAm hSt hS hFc⟩ rfl rfl hl.1 rfl (lv_room (Nat.le_of_ble_eq_true rfl)) dX7_take_105 ⟨(show 0 + 0 ≤ 0 by decide), (show 0 + 0 ≤ 0 by decide)⟩) (fun r_111 hw_110 => ?_)
                  rcases hw_110 with ⟨hw_110, rfl⟩ | ⟨hw_110, rfl⟩ | ⟨hw_110, rfl⟩ | ⟨hw_110, rfl⟩
                  · skip
                    refine lv_iadd hx hb dX7_take_108 ?_
                    refine lv_topi (fun x_112 ex_112 => ?_)
                    have tx_112 : x_112.toInt = (x_107.toInt + 12) := by rw [ex_112]; exact add_ti (a := x_107.toInt) (b := 12) rfl (by decide) (by omega) (by omega)
                    refine va_iast hx hb hK hP hD hS 1 1 rfl rfl (vin (a := 0) (by decide) (by decide) (by decide)) dX7_take_109 (fun H locs hP hD hS => ?_)
                    obtain ⟨f_113, ef_113, hP, hD⟩ : ∃ f_113 : Nat → Int32, f_113 = upd f_100 (0 : Int32).toNatClampNeg x_112 ∧ va_P D vwCl [(A_self, .inr (7, o7 q v w)), (q 55, .inl (c 1, 6, .inl f_113))] H ∧ va_D A [(A_self, .inr (7, o7 q v w)), (q 55, .inl (c 1, 6, .inl f_113))] := ⟨_, rfl, hP, hD⟩
                    have cl_114 : (f_113 0).toInt = x_112.toInt := by rw [ef_113]; rfl
                    have cl_115 : (f_113 1).toInt = (f_100 1).toInt := by rw [ef_113]; rfl
                    have cl_116 : (f_113 2).toInt = (f_100 2).toInt := by rw [ef_113]; rfl
                    have cl_117 : (f_113 3).toInt = (f_100 3).toInt := by rw [ef_113]; rfl
                    have cl_118 : (f_113 4).toInt = (f_100 4).toInt := by rw [ef_113]; rfl
                    have cl_119 : (f_113 5).toInt = (f_100 5).toInt := by rw [ef_113]; rfl
                    obtain ⟨x_120, ex_120⟩ : ∃ y : Int32, y = x_96 + 1 := ⟨_, rfl⟩
                    refine lv_iinc (v := x_120) (lv' := [(2, .int x_120), (5, .int 0), (4, .int r_12), (0, .ref A_self), (1, .int a1), (3, .int 0)]) hx hb dX7_take_110 hl (k := 1) rfl (by rw [ex_120]; rfl) (by decide) rfl (fun ls hl => ?_)
                    refine lv_goto (tgt := 75) hx hb dX7_take_113 (by decide) ?_
                    refine lv_iload hx hb dX7_take_75 (lv_at hl 1 rfl) ?_
                    refine lv_iload_n hx hb dX7_take_77 rfl (lv_at hl 5 rfl) ?_
                    refine iicmp_leT (a := 0) (b := 0) (tgt := 116) hx hb (by decide) (by decide) dX7_take_78 (by decide) (by decide) ?_
                    refine lv_goto (tgt := 43) hx hb dX7_take_116 (by decide) ?_
                    refine lv_aload_n hx hb dX7_take_43 rfl (lv_at hl 3 rfl) ?_
                    refine va_get (D := D) (ci := 7) (v := .ref (q 55)) (C := RX7) (T := TX7) (N := 56) hx hb hts (fun _ h => List.mem_cons_of_mem _ (List.mem_append_right _ h)) hown hK hP 0 rfl rfl 55 (by decide) (hts (.fieldLink RX7 118 "CrownTableModel" "cloth" "[I") (mem_i 2 rfl)) (fun _ h9 => h9) rfl dX7_take_44 ?_
                    refine lv_iload_n hx hb dX7_take_47 rfl (lv_at hl 5 rfl) ?_
                    refine va_iald hx hb hK hP 1 1 rfl rfl (vin (a := 0) (by decide) (by decide) (by decide)) dX7_take_48 ?_
                    refine lv_topi (fun x_121 ex_121 => ?_)
                    have lf_122 : (f_113 0).toInt = x_121.toInt := by rw [ex_121]; rfl
                    refine lv_iload hx hb dX7_take_49 (lv_at hl 2 rfl) ?_
                    refine iicmp_ge (a := x_121.toInt) (b := r_12.toInt) (tgt := 119) hx hb rfl rfl dX7_take_51 (by decide) (fun k_123 => ?_) (fun k_123 => ?_)
                    · skip
                      refine lv_aload_n hx hb dX7_take_119 rfl (lv_at hl 3 rfl) ?_
                      refine va_get (D := D) (ci := 7) (v := .ref (q 55)) (C := RX7) (T := TX7) (N := 56) hx hb hts (fun _ h => List.mem_cons_of_mem _ (List.mem_append_right _ h)) hown hK hP 0 rfl rfl 55 (by decide) (hts (.fieldLink RX7 118 "CrownTableModel" "cloth" "[I") (mem_i 2 rfl)) (fun _ h9 => h9) rfl dX7_take_120 ?_
                      refine lv_iload_n hx hb dX7_take_123 rfl (lv_at hl 5 rfl) ?_
                      refine lv_dup2_11 hx hb dX7_take_124 rfl rfl ?_
                      refine va_iald hx hb hK hP 1 1 rfl rfl (vin (a := 0) (by decide) (by decide) (by decide)) dX7_take_125 ?_
                      refine lv_topi (fun x_124 ex_124 => ?_)
                      have lf_125 : (f_113 0).toInt = x_124.toInt := by rw [ex_124]; rfl
                      refine lv_iload hx hb dX7_take_126 (lv_at hl 2 rfl) ?_
                      refine lv_isub hx hb dX7_take_128 ?_
                      refine lv_topi (fun x_126 ex_126 => ?_)
                      have tx_126 : x_126.toInt = (x_124.toInt - r_12.toInt) := by rw [ex_126]; exact sub_ti (a := x_124.toInt) (b := r_12.toInt) rfl rfl (by omega) (by omega)
                      refine va_iast hx hb hK hP hD hS 1 1 rfl rfl (vin (a := 0) (by decide) (by decide) (by decide)) dX7_take_129 (fun H locs hP hD hS => ?_)
                      obtain ⟨f_127, ef_127, hP, hD⟩ : ∃ f_127 : Nat → Int32, f_127 = upd f_113 (0 : Int32).toNatClampNeg x_126 ∧ va_P D vwCl [(A_self, .inr (7, o7 q v w)), (q 55, .inl (c 1, 6, .inl f_127))] H ∧ va_D A [(A_self, .inr (7, o7 q v w)), (q 55, .inl (c 1, 6, .inl f_127))] := ⟨_, rfl, hP, hD⟩
                      have cl_128 : (f_127 0).toInt = x_126.toInt := by rw [ef_127]; rfl
                      have cl_129 : (f_127 1).toInt = (f_113 1).toInt := by rw [ef_127]; rfl
                      have cl_130 : (f_127 2).toInt = (f_113 2).toInt := by rw [ef_127]; rfl
                      have cl_131 : (f_127 3).toInt = (f_113 3).toInt := by rw [ef_127]; rfl
                      have cl_132 : (f_127 4).toInt = (f_113 4).toInt := by rw [ef_127]; rfl
                      have cl_133 : (f_127 5).toInt = (f_113 5).toInt := by rw [ef_127]; rfl
                      refine lv_iinc (v := 1) (lv' := [(3, .int 1), (2, .int x_120), (5, .int 0), (4, .int r_12), (0, .ref A_self), (1, .int a1)]) hx hb dX7_take_130 hl (k := 5) rfl (by decide) (by decide) rfl (fun ls hl => ?_)
                      refine lv_goto (tgt := 30) hx hb dX7_take_133 (by decide) ?_
                      have kzz_134 : (1 : Int32).toInt = 1 := by decide
                      have hl := lv_sub hl [4, 5, 1, 0] rfl
                      exact (ih30 ((6 - (1 : Int32).toInt).toNat) (by omega) x_120 1 f_127 (by omega) (by omega) (by omega) (by omega) (by omega) (by omega) (by omega) (by omega) (by omega) (by omega) (by omega) (by omega) (by omega) (by omega) rfl _ _ _ hP hD hS hl)
                    · skip
                      exfalso; omega
                  · exfalso; omega
                  · exfalso; omega
                  · exfalso; omega
                · exfalso; omega
                · exfalso; omega
              · skip
                refine lv_iinc (v := 3) (lv' := [(5, .int 3), (4, .int r_12), (0, .ref A_self), (1, .int a1), (2, .int L2), (3, .int 0)]) hx hb dX7_take_69 hl (k := 0) rfl (by decide) (by decide) rfl (fun ls hl => ?_)
                refine lv_goto (tgt := 59) hx hb dX7_take_72 (by decide) ?_
                refine lv_aload_n hx hb dX7_take_59 rfl (lv_at hl 2 rfl) ?_
                refine va_get (D := D) (ci := 7) (v := .ref (q 55)) (C := RX7) (T := TX7) (N := 56) hx hb hts (fun _ h => List.mem_cons_of_mem _ (List.mem_append_right _ h)) hown hK hP 0 rfl rfl 55 (by decide) (hts (.fieldLink RX7 118 "CrownTableModel" "cloth" "[I") (mem_i 2 rfl)) (fun _ h9 => h9) rfl dX7_take_60 ?_
                refine lv_iload hx hb dX7_take_63 (lv_at hl 0 rfl) ?_
                refine va_iald hx hb hK hP 1 1 rfl rfl (vin (a := 3) (by decide) (by decide) (by decide)) dX7_take_65 ?_
                refine lv_topi (fun x_135 ex_135 => ?_)
                have lf_136 : (M_cloth 3).toInt = x_135.toInt := by rw [ex_135]; rfl
                refine iif_ne (a := x_135.toInt) (tgt := 75) hx hb rfl dX7_take_66 (by decide) (fun k_137 => ?_) (fun k_137 => ?_)
                · skip
                  refine lv_iload hx hb dX7_take_75 (lv_at hl 0 rfl) ?_
                  refine lv_iload_n hx hb dX7_take_77 rfl (lv_at hl 5 rfl) ?_
                  refine iicmp_leF (a := 3) (b := 0) (tgt := 116) hx hb (by decide) (by decide) dX7_take_78 (by decide) (by decide) ?_
                  refine lv_aload_n hx hb dX7_take_81 rfl (lv_at hl 2 rfl) ?_
                  refine va_get (D := D) (ci := 7) (v := .ref (q 55)) (C := RX7) (T := TX7) (N := 56) hx hb hts (fun _ h => List.mem_cons_of_mem _ (List.mem_append_right _ h)) hown hK hP 0 rfl rfl 55 (by decide) (hts (.fieldLink RX7 118 "CrownTableModel" "cloth" "[I") (mem_i 2 rfl)) (fun _ h9 => h9) rfl dX7_take_82 ?_
                  refine lv_iload hx hb dX7_take_85 (lv_at hl 0 rfl) ?_
                  refine lv_dup2_11 hx hb dX7_take_87 rfl rfl ?_
                  refine va_iald hx hb hK hP 1 1 rfl rfl (vin (a := 3) (by decide) (by decide) (by decide)) dX7_take_88 ?_
                  refine lv_topi (fun x_138 ex_138 => ?_)
                  have lf_139 : (M_cloth 3).toInt = x_138.toInt := by rw [ex_138]; rfl
                  refine lv_iconst (v := 1) hx hb dX7_take_89 (by decide) ?_
                  refine lv_isub hx hb dX7_take_90 ?_
                  refine lv_topi (fun x_140 ex_140 => ?_)
                  have tx_140 : x_140.toInt = (x_138.toInt - 1) := by rw [ex_140]; exact sub_ti (a := x_138.toInt) (b := 1) rfl (by decide) (by omega) (by omega)
                  refine va_iast hx hb hK hP hD hS 1 1 rfl rfl (vin (a := 3) (by decide) (by decide) (by decide)) dX7_take_91 (fun H locs hP hD hS => ?_)
                  obtain ⟨f_141, ef_141, hP, hD⟩ : ∃ f_141 : Nat → Int32, f_141 = upd M_cloth (3 : Int32).toNatClampNeg x_140 ∧ va_P D vwCl [(A_self, .inr (7, o7 q v w)), (q 55, .inl (c 1, 6, .inl f_141))] H ∧ va_D A [(A_self, .inr (7, o7 q v w)), (q 55, .inl (c 1, 6, .inl f_141))] := ⟨_, rfl, hP, hD⟩
                  have cl_142 : (f_141 0).toInt = (M_cloth 0).toInt := by rw [ef_141]; rfl
                  have cl_143 : (f_141 1).toInt = (M_cloth 1).toInt := by rw [ef_141]; rfl
                  have cl_144 : (f_141 2).toInt = (M_cloth 2).toInt := by rw [ef_141]; rfl
                  have cl_145 : (f_141 3).toInt = x_140.toInt := by rw [ef_141]; rfl
                  have cl_146 : (f_141 4).toInt = (M_cloth 4).toInt := by rw [ef_141]; rfl
                  have cl_147 : (f_141 5).toInt = (M_cloth 5).toInt := by rw [ef_141]; rfl
                  refine lv_iinc (v := 2) (lv' := [(5, .int 2), (4, .int r_12), (0, .ref A_self), (1, .int a1), (2, .int L2), (3, .int 0)]) hx hb dX7_take_92 hl (k := 0) rfl (by decide) (by decide) rfl (fun ls hl => ?_)
                  refine lv_aload_n hx hb dX7_take_95 rfl (lv_at hl 2 rfl) ?_
                  refine va_get (D := D) (ci := 7) (v := .ref (q 55)) (C := RX7) (T := TX7) (N := 56) hx hb hts (fun _ h => List.mem_cons_of_mem _ (List.mem_append_right _ h)) hown hK hP 0 rfl rfl 55 (by decide) (hts (.fieldLink RX7 118 "CrownTableModel" "cloth" "[I") (mem_i 2 rfl)) (fun _ h9 => h9) rfl dX7_take_96 ?_
                  refine lv_iload hx hb dX7_take_99 (lv_at hl 0 rfl) ?_
                  refine lv_dup2_11 hx hb dX7_take_101 rfl rfl ?_
                  refine va_iald hx hb hK hP 1 1 rfl rfl (vin (a := 2) (by decide) (by decide) (by decide)) dX7_take_102 ?_
                  refine lv_topi (fun x_148 ex_148 => ?_)
                  have lf_149 : (f_141 2).toInt = x_148.toInt := by rw [ex_148]; rfl
                  refine lv_iload hx hb dX7_take_103 (lv_at hl 0 rfl) ?_
                  have hPc := hP.sub (ws' := []) [] rfl
                  have hDc := hD.sub (ws' := []) [] (by decide) rfl
                  have hFc := va_free (wc := []) hD hS hA [] rfl
                  have kzz_150 : (2 : Int32).toInt = 2 := by decide
                  refine va_csi (va_runS (As := [.int 2]) (rest := [.int x_148, .int 2, .ref (q 55)]) ⟨hx, hb, hml, hown, hts⟩ (k_X7_next l D c ts H.size 2 2 (by decide) (by omega)) (cwS 1 hts gX7_take_X7_next rfl rfl rfl ⟨rfl, hdX7_next⟩ ⟨(show 1 + 1 ≤ 2 by decide), (show 8 + (1 + 11) + 20 ≤ 43 by decide)⟩) ⟨Pre0.blind, Pre0.at hPc hDc hAm hSt hS hFc⟩ rfl rfl hl.1 rfl (lv_room (Nat.le_of_ble_eq_true rfl)) dX7_take_105 ⟨(show 0 + 0 ≤ 0 by decide), (show 0 + 0 ≤ 0 by decide)⟩) (fun r_152 hw_151 => ?_)
                  rcases hw_151 with ⟨hw_151, rfl⟩ | ⟨hw_151, rfl⟩ | ⟨hw_151, rfl⟩ | ⟨hw_151, rfl⟩
                  · exfalso; omega
                  · skip
                    refine lv_iadd hx hb dX7_take_108 ?_
                    refine lv_topi (fun x_153 ex_153 => ?_)
                    have tx_153 : x_153.toInt = (x_148.toInt + 20) := by rw [ex_153]; exact add_ti (a := x_148.toInt) (b := 20) rfl (by decide) (by omega) (by omega)
                    refine va_iast hx hb hK hP hD hS 1 1 rfl rfl (vin (a := 2) (by decide) (by decide) (by decide)) dX7_take_109 (fun H locs hP hD hS => ?_)
                    obtain ⟨f_154, ef_154, hP, hD⟩ : ∃ f_154 : Nat → Int32, f_154 = upd f_141 (2 : Int32).toNatClampNeg x_153 ∧ va_P D vwCl [(A_self, .inr (7, o7 q v w)), (q 55, .inl (c 1, 6, .inl f_154))] H ∧ va_D A [(A_self, .inr (7, o7 q v w)), (q 55, .inl (c 1, 6, .inl f_154))] := ⟨_, rfl, hP, hD⟩
                    have cl_155 : (f_154 0).toInt = (f_141 0).toInt := by rw [ef_154]; rfl
                    have cl_156 : (f_154 1).toInt = (f_141 1).toInt := by rw [ef_154]; rfl
                    have cl_157 : (f_154 2).toInt = x_153.toInt := by rw [ef_154]; rfl
                    have cl_158 : (f_154 3).toInt = (f_141 3).toInt := by rw [ef_154]; rfl
                    have cl_159 : (f_154 4).toInt = (f_141 4).toInt := by rw [ef_154]; rfl
                    have cl_160 : (f_154 5).toInt = (f_141 5).toInt := by rw [ef_154]; rfl
                    obtain ⟨x_161, ex_161⟩ : ∃ y : Int32, y = L2 + 1 := ⟨_, rfl⟩
                    refine lv_iinc (v := x_161) (lv' := [(2, .int x_161), (5, .int 2), (4, .int r_12), (0, .ref A_self), (1, .int a1), (3, .int 0)]) hx hb dX7_take_110 hl (k := 4) rfl (by rw [ex_161]; rfl) (by decide) rfl (fun ls hl => ?_)
                    refine lv_goto (tgt := 75) hx hb dX7_take_113 (by decide) ?_
                    refine lv_iload hx hb dX7_take_75 (lv_at hl 1 rfl) ?_
                    refine lv_iload_n hx hb dX7_take_77 rfl (lv_at hl 5 rfl) ?_
                    refine iicmp_leF (a := 2) (b := 0) (tgt := 116) hx hb (by decide) (by decide) dX7_take_78 (by decide) (by decide) ?_
                    refine lv_aload_n hx hb dX7_take_81 rfl (lv_at hl 3 rfl) ?_
                    refine va_get (D := D) (ci := 7) (v := .ref (q 55)) (C := RX7) (T := TX7) (N := 56) hx hb hts (fun _ h => List.mem_cons_of_mem _ (List.mem_append_right _ h)) hown hK hP 0 rfl rfl 55 (by decide) (hts (.fieldLink RX7 118 "CrownTableModel" "cloth" "[I") (mem_i 2 rfl)) (fun _ h9 => h9) rfl dX7_take_82 ?_
                    refine lv_iload hx hb dX7_take_85 (lv_at hl 1 rfl) ?_
                    refine lv_dup2_11 hx hb dX7_take_87 rfl rfl ?_
                    refine va_iald hx hb hK hP 1 1 rfl rfl (vin (a := 2) (by decide) (by decide) (by decide)) dX7_take_88 ?_
                    refine lv_topi (fun x_162 ex_162 => ?_)
                    have lf_163 : (f_154 2).toInt = x_162.toInt := by rw [ex_162]; rfl
                    refine lv_iconst (v := 1) hx hb dX7_take_89 (by decide) ?_
                    refine lv_isub hx hb dX7_take_90 ?_
                    refine lv_topi (fun x_164 ex_164 => ?_)
                    have tx_164 : x_164.toInt = (x_162.toInt - 1) := by rw [ex_164]; exact sub_ti (a := x_162.toInt) (b := 1) rfl (by decide) (by omega) (by omega)
                    refine va_iast hx hb hK hP hD hS 1 1 rfl rfl (vin (a := 2) (by decide) (by decide) (by decide)) dX7_take_91 (fun H locs hP hD hS => ?_)
                    obtain ⟨f_165, ef_165, hP, hD⟩ : ∃ f_165 : Nat → Int32, f_165 = upd f_154 (2 : Int32).toNatClampNeg x_164 ∧ va_P D vwCl [(A_self, .inr (7, o7 q v w)), (q 55, .inl (c 1, 6, .inl f_165))] H ∧ va_D A [(A_self, .inr (7, o7 q v w)), (q 55, .inl (c 1, 6, .inl f_165))] := ⟨_, rfl, hP, hD⟩
                    have cl_166 : (f_165 0).toInt = (f_154 0).toInt := by rw [ef_165]; rfl
                    have cl_167 : (f_165 1).toInt = (f_154 1).toInt := by rw [ef_165]; rfl
                    have cl_168 : (f_165 2).toInt = x_164.toInt := by rw [ef_165]; rfl
                    have cl_169 : (f_165 3).toInt = (f_154 3).toInt := by rw [ef_165]; rfl
                    have cl_170 : (f_165 4).toInt = (f_154 4).toInt := by rw [ef_165]; rfl
                    have cl_171 : (f_165 5).toInt = (f_154 5).toInt := by rw [ef_165]; rfl
                    refine lv_iinc (v := 1) (lv' := [(5, .int 1), (2, .int x_161), (4, .int r_12), (0, .ref A_self), (1, .int a1), (3, .int 0)]) hx hb dX7_take_92 hl (k := 1) rfl (by decide) (by decide) rfl (fun ls hl => ?_)
                    refine lv_aload_n hx hb dX7_take_95 rfl (lv_at hl 3 rfl) ?_
                    refine va_get (D := D) (ci := 7) (v := .ref (q 55)) (C := RX7) (T := TX7) (N := 56) hx hb hts (fun _ h => List.mem_cons_of_mem _ (List.mem_append_right _ h)) hown hK hP 0 rfl rfl 55 (by decide) (hts (.fieldLink RX7 118 "CrownTableModel" "cloth" "[I") (mem_i 2 rfl)) (fun _ h9 => h9) rfl dX7_take_96 ?_
                    refine lv_iload hx hb dX7_take_99 (lv_at hl 0 rfl) ?_
                    refine lv_dup2_11 hx hb dX7_take_101 rfl rfl ?_
                    refine va_iald hx hb hK hP 1 1 rfl rfl (vin (a := 1) (by decide) (by decide) (by decide)) dX7_take_102 ?_
                    refine lv_topi (fun x_172 ex_172 => ?_)
                    have lf_173 : (f_165 1).toInt = x_172.toInt := by rw [ex_172]; rfl
                    refine lv_iload hx hb dX7_take_103 (lv_at hl 0 rfl) ?_
                    have hPc := hP.sub (ws' := []) [] rfl
                    have hDc := hD.sub (ws' := []) [] (by decide) rfl
                    have hFc := va_free (wc := []) hD hS hA [] rfl
                    have kzz_174 : (1 : Int32).toInt = 1 := by decide
                    refine va_csi (va_runS (As := [.int 1]) (rest := [.int x_172, .int 1, .ref (q 55)]) ⟨hx, hb, hml, hown, hts⟩ (k_X7_next l D c ts H.size 1 1 (by decide) (by omega)) (cwS 1 hts gX7_take_X7_next rfl rfl rfl ⟨rfl, hdX7_next⟩ ⟨(show 1 + 1 ≤ 2 by decide), (show 8 + (1 + 11) + 20 ≤ 43 by decide)⟩) ⟨Pre0.blind, Pre0.at hPc hDc hAm hSt hS hFc⟩ rfl rfl hl.1 rfl (lv_room (Nat.le_of_ble_eq_true rfl)) dX7_take_105 ⟨(show 0 + 0 ≤ 0 by decide), (show 0 + 0 ≤ 0 by decide)⟩) (fun r_176 hw_175 => ?_)
                    rcases hw_175 with ⟨hw_175, rfl⟩ | ⟨hw_175, rfl⟩ | ⟨hw_175, rfl⟩ | ⟨hw_175, rfl⟩
                    · exfalso; omega
                    · skip
                      refine lv_iadd hx hb dX7_take_108 ?_
                      refine lv_topi (fun x_177 ex_177 => ?_)
                      have tx_177 : x_177.toInt = (x_172.toInt + 20) := by rw [ex_177]; exact add_ti (a := x_172.toInt) (b := 20) rfl (by decide) (by omega) (by omega)
                      refine va_iast hx hb hK hP hD hS 1 1 rfl rfl (vin (a := 1) (by decide) (by decide) (by decide)) dX7_take_109 (fun H locs hP hD hS => ?_)
                      obtain ⟨f_178, ef_178, hP, hD⟩ : ∃ f_178 : Nat → Int32, f_178 = upd f_165 (1 : Int32).toNatClampNeg x_177 ∧ va_P D vwCl [(A_self, .inr (7, o7 q v w)), (q 55, .inl (c 1, 6, .inl f_178))] H ∧ va_D A [(A_self, .inr (7, o7 q v w)), (q 55, .inl (c 1, 6, .inl f_178))] := ⟨_, rfl, hP, hD⟩
                      have cl_179 : (f_178 0).toInt = (f_165 0).toInt := by rw [ef_178]; rfl
                      have cl_180 : (f_178 1).toInt = x_177.toInt := by rw [ef_178]; rfl
                      have cl_181 : (f_178 2).toInt = (f_165 2).toInt := by rw [ef_178]; rfl
                      have cl_182 : (f_178 3).toInt = (f_165 3).toInt := by rw [ef_178]; rfl
                      have cl_183 : (f_178 4).toInt = (f_165 4).toInt := by rw [ef_178]; rfl
                      have cl_184 : (f_178 5).toInt = (f_165 5).toInt := by rw [ef_178]; rfl
                      obtain ⟨x_185, ex_185⟩ : ∃ y : Int32, y = x_161 + 1 := ⟨_, rfl⟩
                      refine lv_iinc (v := x_185) (lv' := [(2, .int x_185), (5, .int 1), (4, .int r_12), (0, .ref A_self), (1, .int a1), (3, .int 0)]) hx hb dX7_take_110 hl (k := 1) rfl (by rw [ex_185]; rfl) (by decide) rfl (fun ls hl => ?_)
                      refine lv_goto (tgt := 75) hx hb dX7_take_113 (by decide) ?_
                      refine lv_iload hx hb dX7_take_75 (lv_at hl 1 rfl) ?_
                      refine lv_iload_n hx hb dX7_take_77 rfl (lv_at hl 5 rfl) ?_
                      refine iicmp_leF (a := 1) (b := 0) (tgt := 116) hx hb (by decide) (by decide) dX7_take_78 (by decide) (by decide) ?_
                      refine lv_aload_n hx hb dX7_take_81 rfl (lv_at hl 3 rfl) ?_
                      refine va_get (D := D) (ci := 7) (v := .ref (q 55)) (C := RX7) (T := TX7) (N := 56) hx hb hts (fun _ h => List.mem_cons_of_mem _ (List.mem_append_right _ h)) hown hK hP 0 rfl rfl 55 (by decide) (hts (.fieldLink RX7 118 "CrownTableModel" "cloth" "[I") (mem_i 2 rfl)) (fun _ h9 => h9) rfl dX7_take_82 ?_
                      refine lv_iload hx hb dX7_take_85 (lv_at hl 1 rfl) ?_
                      refine lv_dup2_11 hx hb dX7_take_87 rfl rfl ?_
                      refine va_iald hx hb hK hP 1 1 rfl rfl (vin (a := 1) (by decide) (by decide) (by decide)) dX7_take_88 ?_
                      refine lv_topi (fun x_186 ex_186 => ?_)
                      have lf_187 : (f_178 1).toInt = x_186.toInt := by rw [ex_186]; rfl
                      refine lv_iconst (v := 1) hx hb dX7_take_89 (by decide) ?_
                      refine lv_isub hx hb dX7_take_90 ?_
                      refine lv_topi (fun x_188 ex_188 => ?_)
                      have tx_188 : x_188.toInt = (x_186.toInt - 1) := by rw [ex_188]; exact sub_ti (a := x_186.toInt) (b := 1) rfl (by decide) (by omega) (by omega)
                      refine va_iast hx hb hK hP hD hS 1 1 rfl rfl (vin (a := 1) (by decide) (by decide) (by decide)) dX7_take_91 (fun H locs hP hD hS => ?_)
                      obtain ⟨f_189, ef_189, hP, hD⟩ : ∃ f_189 : Nat → Int32, f_189 = upd f_178 (1 : Int32).toNatClampNeg x_188 ∧ va_P D vwCl [(A_self, .inr (7, o7 q v w)), (q 55, .inl (c 1, 6, .inl f_189))] H ∧ va_D A [(A_self, .inr (7, o7 q v w)), (q 55, .inl (c 1, 6, .inl f_189))] := ⟨_, rfl, hP, hD⟩
                      have cl_190 : (f_189 0).toInt = (f_178 0).toInt := by rw [ef_189]; rfl
                      have cl_191 : (f_189 1).toInt = x_188.toInt := by rw [ef_189]; rfl
                      have cl_192 : (f_189 2).toInt = (f_178 2).toInt := by rw [ef_189]; rfl
                      have cl_193 : (f_189 3).toInt = (f_178 3).toInt := by rw [ef_189]; rfl
                      have cl_194 : (f_189 4).toInt = (f_178 4).toInt := by rw [ef_189]; rfl
                      have cl_195 : (f_189 5).toInt = (f_178 5).toInt := by rw [ef_189]; rfl
                      refine lv_iinc (v := 0) (lv' := [(5, .int 0), (2, .int x_185), (4, .int r_12), (0, .ref A_self), (1, .int a1), (3, .int 0)]) hx hb dX7_take_92 hl (k := 1) rfl (by decide) (by decide) rfl (fun ls hl => ?_)
                      refine lv_aload_n hx hb dX7_take_95 rfl (lv_at hl 3 rfl) ?_
                      refine va_get (D := D) (ci := 7) (v := .ref (q 55)) (C := RX7) (T := TX7) (N := 56) hx hb hts (fun _ h => List.mem_cons_of_mem _ (List.mem_append_right _ h)) hown hK hP 0 rfl rfl 55 (by decide) (hts (.fieldLink RX7 118 "CrownTableModel" "cloth" "[I") (mem_i 2 rfl)) (fun _ h9 => h9) rfl dX7_take_96 ?_
                      refine lv_iload hx hb dX7_take_99 (lv_at hl 0 rfl) ?_
                      refine lv_dup2_11 hx hb dX7_take_101 rfl rfl ?_
                      refine va_iald hx hb hK hP 1 1 rfl rfl (vin (a := 0) (by decide) (by decide) (by decide)) dX7_take_102 ?_
                      refine lv_topi (fun x_196 ex_196 => ?_)
                      have lf_197 : (f_189 0).toInt = x_196.toInt := by rw [ex_196]; rfl
                      refine lv_iload hx hb dX7_take_103 (lv_at hl 0 rfl) ?_
                      have hPc := hP.sub (ws' := []) [] rfl
                      have hDc := hD.sub (ws' := []) [] (by decide) rfl
                      have hFc := va_free (wc := []) hD hS hA [] rfl
                      have kzz_198 : (0 : Int32).toInt = 0 := by decide
                      refine va_csi (va_runS (As := [.int 0]) (rest := [.int x_196, .int 0, .ref (q 55)]) ⟨hx, hb, hml, hown, hts⟩ (k_X7_next l D c ts H.size 0 0 (by decide) (by omega)) (cwS 1 hts gX7_take_X7_next rfl rfl rfl ⟨rfl, hdX7_next⟩ ⟨(show 1 + 1 ≤ 2 by decide), (show 8 + (1 + 11) + 20 ≤ 43 by decide)⟩) ⟨Pre0.blind, Pre0.at hPc hDc hAm hSt hS hFc⟩ rfl rfl hl.1 rfl (lv_room (Nat.le_of_ble_eq_true rfl)) dX7_take_105 ⟨(show 0 + 0 ≤ 0 by decide), (show 0 + 0 ≤ 0 by decide)⟩) (fun r_200 hw_199 => ?_)
                      rcases hw_199 with ⟨hw_199, rfl⟩ | ⟨hw_199, rfl⟩ | ⟨hw_199, rfl⟩ | ⟨hw_199, rfl⟩
                      · skip
                        refine lv_iadd hx hb dX7_take_108 ?_
                        refine lv_topi (fun x_201 ex_201 => ?_)
                        have tx_201 : x_201.toInt = (x_196.toInt + 12) := by rw [ex_201]; exact add_ti (a := x_196.toInt) (b := 12) rfl (by decide) (by omega) (by omega)
                        refine va_iast hx hb hK hP hD hS 1 1 rfl rfl (vin (a := 0) (by decide) (by decide) (by decide)) dX7_take_109 (fun H locs hP hD hS => ?_)
                        obtain ⟨f_202, ef_202, hP, hD⟩ : ∃ f_202 : Nat → Int32, f_202 = upd f_189 (0 : Int32).toNatClampNeg x_201 ∧ va_P D vwCl [(A_self, .inr (7, o7 q v w)), (q 55, .inl (c 1, 6, .inl f_202))] H ∧ va_D A [(A_self, .inr (7, o7 q v w)), (q 55, .inl (c 1, 6, .inl f_202))] := ⟨_, rfl, hP, hD⟩
                        have cl_203 : (f_202 0).toInt = x_201.toInt := by rw [ef_202]; rfl
                        have cl_204 : (f_202 1).toInt = (f_189 1).toInt := by rw [ef_202]; rfl
                        have cl_205 : (f_202 2).toInt = (f_189 2).toInt := by rw [ef_202]; rfl
                        have cl_206 : (f_202 3).toInt = (f_189 3).toInt := by rw [ef_202]; rfl
                        have cl_207 : (f_202 4).toInt = (f_189 4).toInt := by rw [ef_202]; rfl
                        have cl_208 : (f_202 5).toInt = (f_189 5).toInt := by rw [ef_202]; rfl
                        obtain ⟨x_209, ex_209⟩ : ∃ y : Int32, y = x_185 + 1 := ⟨_, rfl⟩
                        refine lv_iinc (v := x_209) (lv' := [(2, .int x_209), (5, .int 0), (4, .int r_12), (0, .ref A_self), (1, .int a1), (3, .int 0)]) hx hb dX7_take_110 hl (k := 1) rfl (by rw [ex_209]; rfl) (by decide) rfl (fun ls hl => ?_)
                        refine lv_goto (tgt := 75) hx hb dX7_take_113 (by decide) ?_
                        refine lv_iload hx hb dX7_take_75 (lv_at hl 1 rfl) ?_
                        refine lv_iload_n hx hb dX7_take_77 rfl (lv_at hl 5 rfl) ?_
                        refine iicmp_leT (a := 0) (b := 0) (tgt := 116) hx hb (by decide) (by decide) dX7_take_78 (by decide) (by decide) ?_
                        refine lv_goto (tgt := 43) hx hb dX7_take_116 (by decide) ?_
                        refine lv_aload_n hx hb dX7_take_43 rfl (lv_at hl 3 rfl) ?_
                        refine va_get (D := D) (ci := 7) (v := .ref (q 55)) (C := RX7) (T := TX7) (N := 56) hx hb hts (fun _ h => List.mem_cons_of_mem _ (List.mem_append_right _ h)) hown hK hP 0 rfl rfl 55 (by decide) (hts (.fieldLink RX7 118 "CrownTableModel" "cloth" "[I") (mem_i 2 rfl)) (fun _ h9 => h9) rfl dX7_take_44 ?_
                        refine lv_iload_n hx hb dX7_take_47 rfl (lv_at hl 5 rfl) ?_
                        refine va_iald hx hb hK hP 1 1 rfl rfl (vin (a := 0) (by decide) (by decide) (by decide)) dX7_take_48 ?_
                        refine lv_topi (fun x_210 ex_210 => ?_)
                        have lf_211 : (f_202 0).toInt = x_210.toInt := by rw [ex_210]; rfl
                        refine lv_iload hx hb dX7_take_49 (lv_at hl 2 rfl) ?_
                        refine iicmp_ge (a := x_210.toInt) (b := r_12.toInt) (tgt := 119) hx hb rfl rfl dX7_take_51 (by decide) (fun k_212 => ?_) (fun k_212 => ?_)
                        · skip
                          refine lv_aload_n hx hb dX7_take_119 rfl (lv_at hl 3 rfl) ?_
                          refine va_get (D := D) (ci := 7) (v := .ref (q 55)) (C := RX7) (T := TX7) (N := 56) hx hb hts (fun _ h => List.mem_cons_of_mem _ (List.mem_append_right _ h)) hown hK hP 0 rfl rfl 55 (by decide) (hts (.fieldLink RX7 118 "CrownTableModel" "cloth" "[I") (mem_i 2 rfl)) (fun _ h9 => h9) rfl dX7_take_120 ?_
                          refine lv_iload_n hx hb dX7_take_123 rfl (lv_at hl 5 rfl) ?_
                          refine lv_dup2_11 hx hb dX7_take_124 rfl rfl ?_
                          refine va_iald hx hb hK hP 1 1 rfl rfl (vin (a := 0) (by decide) (by decide) (by decide)) dX7_take_125 ?_
                          refine lv_topi (fun x_213 ex_213 => ?_)
                          have lf_214 : (f_202 0).toInt = x_213.toInt := by rw [ex_213]; rfl
                          refine lv_iload hx hb dX7_take_126 (lv_at hl 2 rfl) ?_
                          refine lv_isub hx hb dX7_take_128 ?_
                          refine lv_topi (fun x_215 ex_215 => ?_)
                          have tx_215 : x_215.toInt = (x_213.toInt - r_12.toInt) := by rw [ex_215]; exact sub_ti (a := x_213.toInt) (b := r_12.toInt) rfl rfl (by omega) (by omega)
                          refine va_iast hx hb hK hP hD hS 1 1 rfl rfl (vin (a := 0) (by decide) (by decide) (by decide)) dX7_take_129 (fun H locs hP hD hS => ?_)
                          obtain ⟨f_216, ef_216, hP, hD⟩ : ∃ f_216 : Nat → Int32, f_216 = upd f_202 (0 : Int32).toNatClampNeg x_215 ∧ va_P D vwCl [(A_self, .inr (7, o7 q v w)), (q 55, .inl (c 1, 6, .inl f_216))] H ∧ va_D A [(A_self, .inr (7, o7 q v w)), (q 55, .inl (c 1, 6, .inl f_216))] := ⟨_, rfl, hP, hD⟩
                          have cl_217 : (f_216 0).toInt = x_215.toInt := by rw [ef_216]; rfl
                          have cl_218 : (f_216 1).toInt = (f_202 1).toInt := by rw [ef_216]; rfl
                          have cl_219 : (f_216 2).toInt = (f_202 2).toInt := by rw [ef_216]; rfl
                          have cl_220 : (f_216 3).toInt = (f_202 3).toInt := by rw [ef_216]; rfl
                          have cl_221 : (f_216 4).toInt = (f_202 4).toInt := by rw [ef_216]; rfl
                          have cl_222 : (f_216 5).toInt = (f_202 5).toInt := by rw [ef_216]; rfl
                          refine lv_iinc (v := 1) (lv' := [(3, .int 1), (2, .int x_209), (5, .int 0), (4, .int r_12), (0, .ref A_self), (1, .int a1)]) hx hb dX7_take_130 hl (k := 5) rfl (by decide) (by decide) rfl (fun ls hl => ?_)
                          refine lv_goto (tgt := 30) hx hb dX7_take_133 (by decide) ?_
                          have kzz_223 : (1 : Int32).toInt = 1 := by decide
                          have hl := lv_sub hl [4, 5, 1, 0] rfl
                          exact (ih30 ((6 - (1 : Int32).toInt).toNat) (by omega) x_209 1 f_216 (by omega) (by omega) (by omega) (by omega) (by omega) (by omega) (by omega) (by omega) (by omega) (by omega) (by omega) (by omega) (by omega) (by omega) rfl _ _ _ hP hD hS hl)
                        · skip
                          exfalso; omega
                      · exfalso; omega
                      · exfalso; omega
                      · exfalso; omega
                    · exfalso; omega
                    · exfalso; omega
                  · exfalso; omega
                  · exfalso; omega
                · skip
                  refine lv_iinc (v := 4) (lv' := [(5, .int 4), (4, .int r_12), (0, .ref A_self), (1, .int a1), (2, .int L2), (3, .int 0)]) hx hb dX7_take_69 hl (k := 0) rfl (by decide) (by decide) rfl (fun ls hl => ?_)
                  refine lv_goto (tgt := 59) hx hb dX7_take_72 (by decide) ?_
                  refine lv_aload_n hx hb dX7_take_59 rfl (lv_at hl 2 rfl) ?_
                  refine va_get (D := D) (ci := 7) (v := .ref (q 55)) (C := RX7) (T := TX7) (N := 56) hx hb hts (fun _ h => List.mem_cons_of_mem _ (List.mem_append_right _ h)) hown hK hP 0 rfl rfl 55 (by decide) (hts (.fieldLink RX7 118 "CrownTableModel" "cloth" "[I") (mem_i 2 rfl)) (fun _ h9 => h9) rfl dX7_take_60 ?_
                  refine lv_iload hx hb dX7_take_63 (lv_at hl 0 rfl) ?_
                  refine va_iald hx hb hK hP 1 1 rfl rfl (vin (a := 4) (by decide) (by decide) (by decide)) dX7_take_65 ?_
                  refine lv_topi (fun x_224 ex_224 => ?_)
                  have lf_225 : (M_cloth 4).toInt = x_224.toInt := by rw [ex_224]; rfl
                  refine iif_ne (a := x_224.toInt) (tgt := 75) hx hb rfl dX7_take_66 (by decide) (fun k_226 => ?_) (fun k_226 => ?_)
                  · skip
                    refine lv_iload hx hb dX7_take_75 (lv_at hl 0 rfl) ?_
                    refine lv_iload_n hx hb dX7_take_77 rfl (lv_at hl 5 rfl) ?_
                    refine iicmp_leF (a := 4) (b := 0) (tgt := 116) hx hb (by decide) (by decide) dX7_take_78 (by decide) (by decide) ?_
                    refine lv_aload_n hx hb dX7_take_81 rfl (lv_at hl 2 rfl) ?_
                    refine va_get (D := D) (ci := 7) (v := .ref (q 55)) (C := RX7) (T := TX7) (N := 56) hx hb hts (fun _ h => List.mem_cons_of_mem _ (List.mem_append_right _ h)) hown hK hP 0 rfl rfl 55 (by decide) (hts (.fieldLink RX7 118 "CrownTableModel" "cloth" "[I") (mem_i 2 rfl)) (fun _ h9 => h9) rfl dX7_take_82 ?_
                    refine lv_iload hx hb dX7_take_85 (lv_at hl 0 rfl) ?_
                    refine lv_dup2_11 hx hb dX7_take_87 rfl rfl ?_
                    refine va_iald hx hb hK hP 1 1 rfl rfl (vin (a := 4) (by decide) (by decide) (by decide)) dX7_take_88 ?_
                    refine lv_topi (fun x_227 ex_227 => ?_)
                    have lf_228 : (M_cloth 4).toInt = x_227.toInt := by rw [ex_227]; rfl
                    refine lv_iconst (v := 1) hx hb dX7_take_89 (by decide) ?_
                    refine lv_isub hx hb dX7_take_90 ?_
                    refine lv_topi (fun x_229 ex_229 => ?_)
                    have tx_229 : x_229.toInt = (x_227.toInt - 1) := by rw [ex_229]; exact sub_ti (a := x_227.toInt) (b := 1) rfl (by decide) (by omega) (by omega)
                    refine va_iast hx hb hK hP hD hS 1 1 rfl rfl (vin (a := 4) (by decide) (by decide) (by decide)) dX7_take_91 (fun H locs hP hD hS => ?_)
                    obtain ⟨f_230, ef_230, hP, hD⟩ : ∃ f_230 : Nat → Int32, f_230 = upd M_cloth (4 : Int32).toNatClampNeg x_229 ∧ va_P D vwCl [(A_self, .inr (7, o7 q v w)), (q 55, .inl (c 1, 6, .inl f_230))] H ∧ va_D A [(A_self, .inr (7, o7 q v w)), (q 55, .inl (c 1, 6, .inl f_230))] := ⟨_, rfl, hP, hD⟩
                    have cl_231 : (f_230 0).toInt = (M_cloth 0).toInt := by rw [ef_230]; rfl
                    have cl_232 : (f_230 1).toInt = (M_cloth 1).toInt := by rw [ef_230]; rfl
                    have cl_233 : (f_230 2).toInt = (M_cloth 2).toInt := by rw [ef_230]; rfl
                    have cl_234 : (f_230 3).toInt = (M_cloth 3).toInt := by rw [ef_230]; rfl
                    have cl_235 : (f_230 4).toInt = x_229.toInt := by rw [ef_230]; rfl
                    have cl_236 : (f_230 5).toInt = (M_cloth 5).toInt := by rw [ef_230]; rfl
                    refine lv_iinc (v := 3) (lv' := [(5, .int 3), (4, .int r_12), (0, .ref A_self), (1, .int a1), (2, .int L2), (3, .int 0)]) hx hb dX7_take_92 hl (k := 0) rfl (by decide) (by decide) rfl (fun ls hl => ?_)
                    refine lv_aload_n hx hb dX7_take_95 rfl (lv_at hl 2 rfl) ?_
                    refine va_get (D := D) (ci := 7) (v := .ref (q 55)) (C := RX7) (T := TX7) (N := 56) hx hb hts (fun _ h => List.mem_cons_of_mem _ (List.mem_append_right _ h)) hown hK hP 0 rfl rfl 55 (by decide) (hts (.fieldLink RX7 118 "CrownTableModel" "cloth" "[I") (mem_i 2 rfl)) (fun _ h9 => h9) rfl dX7_take_96 ?_
                    refine lv_iload hx hb dX7_take_99 (lv_at hl 0 rfl) ?_
                    refine lv_dup2_11 hx hb dX7_take_101 rfl rfl ?_
                    refine va_iald hx hb hK hP 1 1 rfl rfl (vin (a := 3) (by decide) (by decide) (by decide)) dX7_take_102 ?_
                    refine lv_topi (fun x_237 ex_237 => ?_)
                    have lf_238 : (f_230 3).toInt = x_237.toInt := by rw [ex_237]; rfl
                    refine lv_iload hx hb dX7_take_103 (lv_at hl 0 rfl) ?_
                    have hPc := hP.sub (ws' := []) [] rfl
                    have hDc := hD.sub (ws' := []) [] (by decide) rfl
                    have hFc := va_free (wc := []) hD hS hA [] rfl
                    have kzz_239 : (3 : Int32).toInt = 3 := by decide
                    refine va_csi (va_runS (As := [.int 3]) (rest := [.int x_237, .int 3, .ref (q 55)]) ⟨hx, hb, hml, hown, hts⟩ (k_X7_next l D c ts H.size 3 3 (by decide) (by omega)) (cwS 1 hts gX7_take_X7_next rfl rfl rfl ⟨rfl, hdX7_next⟩ ⟨(show 1 + 1 ≤ 2 by decide), (show 8 + (1 + 11) + 20 ≤ 43 by decide)⟩) ⟨Pre0.blind, Pre0.at hPc hDc hAm hSt hS hFc⟩ rfl rfl hl.1 rfl (lv_room (Nat.le_of_ble_eq_true rfl)) dX7_take_105 ⟨(show 0 + 0 ≤ 0 by decide), (show 0 + 0 ≤ 0 by decide)⟩) (fun r_241 hw_240 => ?_)
                    rcases hw_240 with ⟨hw_240, rfl⟩ | ⟨hw_240, rfl⟩ | ⟨hw_240, rfl⟩ | ⟨hw_240, rfl⟩
                    · exfalso; omega
                    · exfalso; omega
                    · skip
                      refine lv_iadd hx hb dX7_take_108 ?_
                      refine lv_topi (fun x_242 ex_242 => ?_)
                      have tx_242 : x_242.toInt = (x_237.toInt + 5) := by rw [ex_242]; exact add_ti (a := x_237.toInt) (b := 5) rfl (by decide) (by omega) (by omega)
                      refine va_iast hx hb hK hP hD hS 1 1 rfl rfl (vin (a := 3) (by decide) (by decide) (by decide)) dX7_take_109 (fun H locs hP hD hS => ?_)
                      obtain ⟨f_243, ef_243, hP, hD⟩ : ∃ f_243 : Nat → Int32, f_243 = upd f_230 (3 : Int32).toNatClampNeg x_242 ∧ va_P D vwCl [(A_self, .inr (7, o7 q v w)), (q 55, .inl (c 1, 6, .inl f_243))] H ∧ va_D A [(A_self, .inr (7, o7 q v w)), (q 55, .inl (c 1, 6, .inl f_243))] := ⟨_, rfl, hP, hD⟩
                      have cl_244 : (f_243 0).toInt = (f_230 0).toInt := by rw [ef_243]; rfl
                      have cl_245 : (f_243 1).toInt = (f_230 1).toInt := by rw [ef_243]; rfl
                      have cl_246 : (f_243 2).toInt = (f_230 2).toInt := by rw [ef_243]; rfl
                      have cl_247 : (f_243 3).toInt = x_242.toInt := by rw [ef_243]; rfl
                      have cl_248 : (f_243 4).toInt = (f_230 4).toInt := by rw [ef_243]; rfl
                      have cl_249 : (f_243 5).toInt = (f_230 5).toInt := by rw [ef_243]; rfl
                      obtain ⟨x_250, ex_250⟩ : ∃ y : Int32, y = L2 + 1 := ⟨_, rfl⟩
                      refine lv_iinc (v := x_250) (lv' := [(2, .int x_250), (5, .int 3), (4, .int r_12), (0, .ref A_self), (1, .int a1), (3, .int 0)]) hx hb dX7_take_110 hl (k := 4) rfl (by rw [ex_250]; rfl) (by decide) rfl (fun ls hl => ?_)
                      refine lv_goto (tgt := 75) hx hb dX7_take_113 (by decide) ?_
                      refine lv_iload hx hb dX7_take_75 (lv_at hl 1 rfl) ?_
                      refine lv_iload_n hx hb dX7_take_77 rfl (lv_at hl 5 rfl) ?_
                      refine iicmp_leF (a := 3) (b := 0) (tgt := 116) hx hb (by decide) (by decide) dX7_take_78 (by decide) (by decide) ?_
                      refine lv_aload_n hx hb dX7_take_81 rfl (lv_at hl 3 rfl) ?_
                      refine va_get (D := D) (ci := 7) (v := .ref (q 55)) (C := RX7) (T := TX7) (N := 56) hx hb hts (fun _ h => List.mem_cons_of_mem _ (List.mem_append_right _ h)) hown hK hP 0 rfl rfl 55 (by decide) (hts (.fieldLink RX7 118 "CrownTableModel" "cloth" "[I") (mem_i 2 rfl)) (fun _ h9 => h9) rfl dX7_take_82 ?_
                      refine lv_iload hx hb dX7_take_85 (lv_at hl 1 rfl) ?_
                      refine lv_dup2_11 hx hb dX7_take_87 rfl rfl ?_
                      refine va_iald hx hb hK hP 1 1 rfl rfl (vin (a := 3) (by decide) (by decide) (by decide)) dX7_take_88 ?_
                      refine lv_topi (fun x_251 ex_251 => ?_)
                      have lf_252 : (f_243 3).toInt = x_251.toInt := by rw [ex_251]; rfl
                      refine lv_iconst (v := 1) hx hb dX7_take_89 (by decide) ?_
                      refine lv_isub hx hb dX7_take_90 ?_
                      refine lv_topi (fun x_253 ex_253 => ?_)
                      have tx_253 : x_253.toInt = (x_251.toInt - 1) := by rw [ex_253]; exact sub_ti (a := x_251.toInt) (b := 1) rfl (by decide) (by omega) (by omega)
                      refine va_iast hx hb hK hP hD hS 1 1 rfl rfl (vin (a := 3) (by decide) (by decide) (by decide)) dX7_take_91 (fun H locs hP hD hS => ?_)
                      obtain ⟨f_254, ef_254, hP, hD⟩ : ∃ f_254 : Nat → Int32, f_254 = upd f_243 (3 : Int32).toNatClampNeg x_253 ∧ va_P D vwCl [(A_self, .inr (7, o7 q v w)), (q 55, .inl (c 1, 6, .inl f_254))] H ∧ va_D A [(A_self, .inr (7, o7 q v w)), (q 55, .inl (c 1, 6, .inl f_254))] := ⟨_, rfl, hP, hD⟩
                      have cl_255 : (f_254 0).toInt = (f_243 0).toInt := by rw [ef_254]; rfl
                      have cl_256 : (f_254 1).toInt = (f_243 1).toInt := by rw [ef_254]; rfl
                      have cl_257 : (f_254 2).toInt = (f_243 2).toInt := by rw [ef_254]; rfl
                      have cl_258 : (f_254 3).toInt = x_253.toInt := by rw [ef_254]; rfl
                      have cl_259 : (f_254 4).toInt = (f_243 4).toInt := by rw [ef_254]; rfl
                      have cl_260 : (f_254 5).toInt = (f_243 5).toInt := by rw [ef_254]; rfl
                      refine lv_iinc (v := 2) (lv' := [(5, .int 2), (2, .int x_250), (4, .int r_12), (0, .ref A_self), (1, .int a1), (3, .int 0)]) hx hb dX7_take_92 hl (k := 1) rfl (by decide) (by decide) rfl (fun ls hl => ?_)
                      refine lv_aload_n hx hb dX7_take_95 rfl (lv_at hl 3 rfl) ?_
                      refine va_get (D := D) (ci := 7) (v := .ref (q 55)) (C := RX7) (T := TX7) (N := 56) hx hb hts (fun _ h => List.mem_cons_of_mem _ (List.mem_append_right _ h)) hown hK hP 0 rfl rfl 55 (by decide) (hts (.fieldLink RX7 118 "CrownTableModel" "cloth" "[I") (mem_i 2 rfl)) (fun _ h9 => h9) rfl dX7_take_96 ?_
                      refine lv_iload hx hb dX7_take_99 (lv_at hl 0 rfl) ?_
                      refine lv_dup2_11 hx hb dX7_take_101 rfl rfl ?_
                      refine va_iald hx hb hK hP 1 1 rfl rfl (vin (a := 2) (by decide) (by decide) (by decide)) dX7_take_102 ?_
                      refine lv_topi (fun x_261 ex_261 => ?_)
                      have lf_262 : (f_254 2).toInt = x_261.toInt := by rw [ex_261]; rfl
                      refine lv_iload hx hb dX7_take_103 (lv_at hl 0 rfl) ?_
                      have hPc := hP.sub (ws' := []) [] rfl
                      have hDc := hD.sub (ws' := []) [] (by decide) rfl
                      have hFc := va_free (wc := []) hD hS hA [] rfl
                      have kzz_263 : (2 : Int32).toInt = 2 := by decide
                      refine va_csi (va_runS (As := [.int 2]) (rest := [.int x_261, .int 2, .ref (q 55)]) ⟨hx, hb, hml, hown, hts⟩ (k_X7_next l D c ts H.size 2 2 (by decide) (by omega)) (cwS 1 hts gX7_take_X7_next rfl rfl rfl ⟨rfl, hdX7_next⟩ ⟨(show 1 + 1 ≤ 2 by decide), (show 8 + (1 + 11) + 20 ≤ 43 by decide)⟩) ⟨Pre0.blind, Pre0.at hPc hDc hAm hSt hS hFc⟩ rfl rfl hl.1 rfl (lv_room (Nat.le_of_ble_eq_true rfl)) dX7_take_105 ⟨(show 0 + 0 ≤ 0 by decide), (show 0 + 0 ≤ 0 by decide)⟩) (fun r_265 hw_264 => ?_)
                      rcases hw_264 with ⟨hw_264, rfl⟩ | ⟨hw_264, rfl⟩ | ⟨hw_264, rfl⟩ | ⟨hw_264, rfl⟩
                      · exfalso; omega
                      · skip
                        refine lv_iadd hx hb dX7_take_108 ?_
                        refine lv_topi (fun x_266 ex_266 => ?_)
                        have tx_266 : x_266.toInt = (x_261.toInt + 20) := by rw [ex_266]; exact add_ti (a := x_261.toInt) (b := 20) rfl (by decide) (by omega) (by omega)
                        refine va_iast hx hb hK hP hD hS 1 1 rfl rfl (vin (a := 2) (by decide) (by decide) (by decide)) dX7_take_109 (fun H locs hP hD hS => ?_)
                        obtain ⟨f_267, ef_267, hP, hD⟩ : ∃ f_267 : Nat → Int32, f_267 = upd f_254 (2 : Int32).toNatClampNeg x_266 ∧ va_P D vwCl [(A_self, .inr (7, o7 q v w)), (q 55, .inl (c 1, 6, .inl f_267))] H ∧ va_D A [(A_self, .inr (7, o7 q v w)), (q 55, .inl (c 1, 6, .inl f_267))] := ⟨_, rfl, hP, hD⟩
                        have cl_268 : (f_267 0).toInt = (f_254 0).toInt := by rw [ef_267]; rfl
                        have cl_269 : (f_267 1).toInt = (f_254 1).toInt := by rw [ef_267]; rfl
                        have cl_270 : (f_267 2).toInt = x_266.toInt := by rw [ef_267]; rfl
                        have cl_271 : (f_267 3).toInt = (f_254 3).toInt := by rw [ef_267]; rfl
                        have cl_272 : (f_267 4).toInt = (f_254 4).toInt := by rw [ef_267]; rfl
                        have cl_273 : (f_267 5).toInt = (f_254 5).toInt := by rw [ef_267]; rfl
                        obtain ⟨x_274, ex_274⟩ : ∃ y : Int32, y = x_250 + 1 := ⟨_, rfl⟩
                        refine lv_iinc (v := x_274) (lv' := [(2, .int x_274), (5, .int 2), (4, .int r_12), (0, .ref A_self), (1, .int a1), (3, .int 0)]) hx hb dX7_take_110 hl (k := 1) rfl (by rw [ex_274]; rfl) (by decide) rfl (fun ls hl => ?_)
                        refine lv_goto (tgt := 75) hx hb dX7_take_113 (by decide) ?_
                        refine lv_iload hx hb dX7_take_75 (lv_at hl 1 rfl) ?_
                        refine lv_iload_n hx hb dX7_take_77 rfl (lv_at hl 5 rfl) ?_
                        refine iicmp_leF (a := 2) (b := 0) (tgt := 116) hx hb (by decide) (by decide) dX7_take_78 (by decide) (by decide) ?_
                        refine lv_aload_n hx hb dX7_take_81 rfl (lv_at hl 3 rfl) ?_
                        refine va_get (D := D) (ci := 7) (v := .ref (q 55)) (C := RX7) (T := TX7) (N := 56) hx hb hts (fun _ h => List.mem_cons_of_mem _ (List.mem_append_right _ h)) hown hK hP 0 rfl rfl 55 (by decide) (hts (.fieldLink RX7 118 "CrownTableModel" "cloth" "[I") (mem_i 2 rfl)) (fun _ h9 => h9) rfl dX7_take_82 ?_
                        refine lv_iload hx hb dX7_take_85 (lv_at hl 1 rfl) ?_
                        refine lv_dup2_11 hx hb dX7_take_87 rfl rfl ?_
                        refine va_iald hx hb hK hP 1 1 rfl rfl (vin (a := 2) (by decide) (by decide) (by decide)) dX7_take_88 ?_
                        refine lv_topi (fun x_275 ex_275 => ?_)
                        have lf_276 : (f_267 2).toInt = x_275.toInt := by rw [ex_275]; rfl
                        refine lv_iconst (v := 1) hx hb dX7_take_89 (by decide) ?_
                        refine lv_isub hx hb dX7_take_90 ?_
                        refine lv_topi (fun x_277 ex_277 => ?_)
                        have tx_277 : x_277.toInt = (x_275.toInt - 1) := by rw [ex_277]; exact sub_ti (a := x_275.toInt) (b := 1) rfl (by decide) (by omega) (by omega)
                        refine va_iast hx hb hK hP hD hS 1 1 rfl rfl (vin (a := 2) (by decide) (by decide) (by decide)) dX7_take_91 (fun H locs hP hD hS => ?_)
                        obtain ⟨f_278, ef_278, hP, hD⟩ : ∃ f_278 : Nat → Int32, f_278 = upd f_267 (2 : Int32).toNatClampNeg x_277 ∧ va_P D vwCl [(A_self, .inr (7, o7 q v w)), (q 55, .inl (c 1, 6, .inl f_278))] H ∧ va_D A [(A_self, .inr (7, o7 q v w)), (q 55, .inl (c 1, 6, .inl f_278))] := ⟨_, rfl, hP, hD⟩
                        have cl_279 : (f_278 0).toInt = (f_267 0).toInt := by rw [ef_278]; rfl
                        have cl_280 : (f_278 1).toInt = (f_267 1).toInt := by rw [ef_278]; rfl
                        have cl_281 : (f_278 2).toInt = x_277.toInt := by rw [ef_278]; rfl
                        have cl_282 : (f_278 3).toInt = (f_267 3).toInt := by rw [ef_278]; rfl
                        have cl_283 : (f_278 4).toInt = (f_267 4).toInt := by rw [ef_278]; rfl
                        have cl_284 : (f_278 5).toInt = (f_267 5).toInt := by rw [ef_278]; rfl
                        refine lv_iinc (v := 1) (lv' := [(5, .int 1), (2, .int x_274), (4, .int r_12), (0, .ref A_self), (1, .int a1), (3, .int 0)]) hx hb dX7_take_92 hl (k := 1) rfl (by decide) (by decide) rfl (fun ls hl => ?_)
                        refine lv_aload_n hx hb dX7_take_95 rfl (lv_at hl 3 rfl) ?_
                        refine va_get (D := D) (ci := 7) (v := .ref (q 55)) (C := RX7) (T := TX7) (N := 56) hx hb hts (fun _ h => List.mem_cons_of_mem _ (List.mem_append_right _ h)) hown hK hP 0 rfl rfl 55 (by decide) (hts (.fieldLink RX7 118 "CrownTableModel" "cloth" "[I") (mem_i 2 rfl)) (fun _ h9 => h9) rfl dX7_take_96 ?_
                        refine lv_iload hx hb dX7_take_99 (lv_at hl 0 rfl) ?_
                        refine lv_dup2_11 hx hb dX7_take_101 rfl rfl ?_
                        refine va_iald hx hb hK hP 1 1 rfl rfl (vin (a := 1) (by decide) (by decide) (by decide)) dX7_take_102 ?_
                        refine lv_topi (fun x_285 ex_285 => ?_)
                        have lf_286 : (f_278 1).toInt = x_285.toInt := by rw [ex_285]; rfl
                        refine lv_iload hx hb dX7_take_103 (lv_at hl 0 rfl) ?_
                        have hPc := hP.sub (ws' := []) [] rfl
                        have hDc := hD.sub (ws' := []) [] (by decide) rfl
                        have hFc := va_free (wc := []) hD hS hA [] rfl
                        have kzz_287 : (1 : Int32).toInt = 1 := by decide
                        refine va_csi (va_runS (As := [.int 1]) (rest := [.int x_285, .int 1, .ref (q 55)]) ⟨hx, hb, hml, hown, hts⟩ (k_X7_next l D c ts H.size 1 1 (by decide) (by omega)) (cwS 1 hts gX7_take_X7_next rfl rfl rfl ⟨rfl, hdX7_next⟩ ⟨(show 1 + 1 ≤ 2 by decide), (show 8 + (1 + 11) + 20 ≤ 43 by decide)⟩) ⟨Pre0.blind, Pre0.at hPc hDc hAm hSt hS hFc⟩ rfl rfl hl.1 rfl (lv_room (Nat.le_of_ble_eq_true rfl)) dX7_take_105 ⟨(show 0 + 0 ≤ 0 by decide), (show 0 + 0 ≤ 0 by decide)⟩) (fun r_289 hw_288 => ?_)
                        rcases hw_288 with ⟨hw_288, rfl⟩ | ⟨hw_288, rfl⟩ | ⟨hw_288, rfl⟩ | ⟨hw_288, rfl⟩
                        · exfalso; omega
                        · skip
                          refine lv_iadd hx hb dX7_take_108 ?_
                          refine lv_topi (fun x_290 ex_290 => ?_)
                          have tx_290 : x_290.toInt = (x_285.toInt + 20) := by rw [ex_290]; exact add_ti (a := x_285.toInt) (b := 20) rfl (by decide) (by omega) (by omega)
                          refine va_iast hx hb hK hP hD hS 1 1 rfl rfl (vin (a := 1) (by decide) (by decide) (by decide)) dX7_take_109 (fun H locs hP hD hS => ?_)
                          obtain ⟨f_291, ef_291, hP, hD⟩ : ∃ f_291 : Nat → Int32, f_291 = upd f_278 (1 : Int32).toNatClampNeg x_290 ∧ va_P D vwCl [(A_self, .inr (7, o7 q v w)), (q 55, .inl (c 1, 6, .inl f_291))] H ∧ va_D A [(A_self, .inr (7, o7 q v w)), (q 55, .inl (c 1, 6, .inl f_291))] := ⟨_, rfl, hP, hD⟩
                          have cl_292 : (f_291 0).toInt = (f_278 0).toInt := by rw [ef_291]; rfl
                          have cl_293 : (f_291 1).toInt = x_290.toInt := by rw [ef_291]; rfl
                          have cl_294 : (f_291 2).toInt = (f_278 2).toInt := by rw [ef_291]; rfl
                          have cl_295 : (f_291 3).toInt = (f_278 3).toInt := by rw [ef_291]; rfl
                          have cl_296 : (f_291 4).toInt = (f_278 4).toInt := by rw [ef_291]; rfl
                          have cl_297 : (f_291 5).toInt = (f_278 5).toInt := by rw [ef_291]; rfl
                          obtain ⟨x_298, ex_298⟩ : ∃ y : Int32, y = x_274 + 1 := ⟨_, rfl⟩
                          refine lv_iinc (v := x_298) (lv' := [(2, .int x_298), (5, .int 1), (4, .int r_12), (0, .ref A_self), (1, .int a1), (3, .int 0)]) hx hb dX7_take_110 hl (k := 1) rfl (by rw [ex_298]; rfl) (by decide) rfl (fun ls hl => ?_)
                          refine lv_goto (tgt := 75) hx hb dX7_take_113 (by decide) ?_
                          refine lv_iload hx hb dX7_take_75 (lv_at hl 1 rfl) ?_
                          refine lv_iload_n hx hb dX7_take_77 rfl (lv_at hl 5 rfl) ?_
                          refine iicmp_leF (a := 1) (b := 0) (tgt := 116) hx hb (by decide) (by decide) dX7_take_78 (by decide) (by decide) ?_
                          refine lv_aload_n hx hb dX7_take_81 rfl (lv_at hl 3 rfl) ?_
                          refine va_get (D := D) (ci := 7) (v := .ref (q 55)) (C := RX7) (T := TX7) (N := 56) hx hb hts (fun _ h => List.mem_cons_of_mem _ (List.mem_append_right _ h)) hown hK hP 0 rfl rfl 55 (by decide) (hts (.fieldLink RX7 118 "CrownTableModel" "cloth" "[I") (mem_i 2 rfl)) (fun _ h9 => h9) rfl dX7_take_82 ?_
                          refine lv_iload hx hb dX7_take_85 (lv_at hl 1 rfl) ?_
                          refine lv_dup2_11 hx hb dX7_take_87 rfl rfl ?_
                          refine va_iald hx hb hK hP 1 1 rfl rfl (vin (a := 1) (by decide) (by decide) (by decide)) dX7_take_88 ?_
                          refine lv_topi (fun x_299 ex_299 => ?_)
                          have lf_300 : (f_291 1).toInt = x_299.toInt := by rw [ex_299]; rfl
                          refine lv_iconst (v := 1) hx hb dX7_take_89 (by decide) ?_
                          refine lv_isub hx hb dX7_take_90 ?_
                          refine lv_topi (fun x_301 ex_301 => ?_)
                          have tx_301 : x_301.toInt = (x_299.toInt - 1) := by rw [ex_301]; exact sub_ti (a := x_299.toInt) (b := 1) rfl (by decide) (by omega) (by omega)
                          refine va_iast hx hb hK hP hD hS 1 1 rfl rfl (vin (a := 1) (by decide) (by decide) (by decide)) dX7_take_91 (fun H locs hP hD hS => ?_)
                          obtain ⟨f_302, ef_302, hP, hD⟩ : ∃ f_302 : Nat → Int32, f_302 = upd f_291 (1 : Int32).toNatClampNeg x_301 ∧ va_P D vwCl [(A_self, .inr (7, o7 q v w)), (q 55, .inl (c 1, 6, .inl f_302))] H ∧ va_D A [(A_self, .inr (7, o7 q v w)), (q 55, .inl (c 1, 6, .inl f_302))] := ⟨_, rfl, hP, hD⟩
                          have cl_303 : (f_302 0).toInt = (f_291 0).toInt := by rw [ef_302]; rfl
                          have cl_304 : (f_302 1).toInt = x_301.toInt := by rw [ef_302]; rfl
                          have cl_305 : (f_302 2).toInt = (f_291 2).toInt := by rw [ef_302]; rfl
                          have cl_306 : (f_302 3).toInt = (f_291 3).toInt := by rw [ef_302]; rfl
                          have cl_307 : (f_302 4).toInt = (f_291 4).toInt := by rw [ef_302]; rfl
                          have cl_308 : (f_302 5).toInt = (f_291 5).toInt := by rw [ef_302]; rfl
                          refine lv_iinc (v := 0) (lv' := [(5, .int 0), (2, .int x_298), (4, .int r_12), (0, .ref A_self), (1, .int a1), (3, .int 0)]) hx hb dX7_take_92 hl (k := 1) rfl (by decide) (by decide) rfl (fun ls hl => ?_)
                          refine lv_aload_n hx hb dX7_take_95 rfl (lv_at hl 3 rfl) ?_
                          refine va_get (D := D) (ci := 7) (v := .ref (q 55)) (C := RX7) (T := TX7) (N := 56) hx hb hts (fun _ h => List.mem_cons_of_mem _ (List.mem_append_right _ h)) hown hK hP 0 rfl rfl 55 (by decide) (hts (.fieldLink RX7 118 "CrownTableModel" "cloth" "[I") (mem_i 2 rfl)) (fun _ h9 => h9) rfl dX7_take_96 ?_
                          refine lv_iload hx hb dX7_take_99 (lv_at hl 0 rfl) ?_
                          refine lv_dup2_11 hx hb dX7_take_101 rfl rfl ?_
                          refine va_iald hx hb hK hP 1 1 rfl rfl (vin (a := 0) (by decide) (by decide) (by decide)) dX7_take_102 ?_
                          refine lv_topi (fun x_309 ex_309 => ?_)
                          have lf_310 : (f_302 0).toInt = x_309.toInt := by rw [ex_309]; rfl
                          refine lv_iload hx hb dX7_take_103 (lv_at hl 0 rfl) ?_
                          have hPc := hP.sub (ws' := []) [] rfl
                          have hDc := hD.sub (ws' := []) [] (by decide) rfl
                          have hFc := va_free (wc := []) hD hS hA [] rfl
                          have kzz_311 : (0 : Int32).toInt = 0 := by decide
                          refine va_csi (va_runS (As := [.int 0]) (rest := [.int x_309, .int 0, .ref (q 55)]) ⟨hx, hb, hml, hown, hts⟩ (k_X7_next l D c ts H.size 0 0 (by decide) (by omega)) (cwS 1 hts gX7_take_X7_next rfl rfl rfl ⟨rfl, hdX7_next⟩ ⟨(show 1 + 1 ≤ 2 by decide), (show 8 + (1 + 11) + 20 ≤ 43 by decide)⟩) ⟨Pre0.blind, Pre0.at hPc hDc hAm hSt hS hFc⟩ rfl rfl hl.1 rfl (lv_room (Nat.le_of_ble_eq_true rfl)) dX7_take_105 ⟨(show 0 + 0 ≤ 0 by decide), (show 0 + 0 ≤ 0 by decide)⟩) (fun r_313 hw_312 => ?_)
                          rcases hw_312 with ⟨hw_312, rfl⟩ | ⟨hw_312, rfl⟩ | ⟨hw_312, rfl⟩ | ⟨hw_312, rfl⟩
                          · skip
                            refine lv_iadd hx hb dX7_take_108 ?_
                            refine lv_topi (fun x_314 ex_314 => ?_)
                            have tx_314 : x_314.toInt = (x_309.toInt + 12) := by rw [ex_314]; exact add_ti (a := x_309.toInt) (b := 12) rfl (by decide) (by omega) (by omega)
                            refine va_iast hx hb hK hP hD hS 1 1 rfl rfl (vin (a := 0) (by decide) (by decide) (by decide)) dX7_take_109 (fun H locs hP hD hS => ?_)
                            obtain ⟨f_315, ef_315, hP, hD⟩ : ∃ f_315 : Nat → Int32, f_315 = upd f_302 (0 : Int32).toNatClampNeg x_314 ∧ va_P D vwCl [(A_self, .inr (7, o7 q v w)), (q 55, .inl (c 1, 6, .inl f_315))] H ∧ va_D A [(A_self, .inr (7, o7 q v w)), (q 55, .inl (c 1, 6, .inl f_315))] := ⟨_, rfl, hP, hD⟩
                            have cl_316 : (f_315 0).toInt = x_314.toInt := by rw [ef_315]; rfl
                            have cl_317 : (f_315 1).toInt = (f_302 1).toInt := by rw [ef_315]; rfl
                            have cl_318 : (f_315 2).toInt = (f_302 2).toInt := by rw [ef_315]; rfl
                            have cl_319 : (f_315 3).toInt = (f_302 3).toInt := by rw [ef_315]; rfl
                            have cl_320 : (f_315 4).toInt = (f_302 4).toInt := by rw [ef_315]; rfl
                            have cl_321 : (f_315 5).toInt = (f_302 5).toInt := by rw [ef_315]; rfl
                            obtain ⟨x_322, ex_322⟩ : ∃ y : Int32, y = x_298 + 1 := ⟨_, rfl⟩
                            refine lv_iinc (v := x_322) (lv' := [(2, .int x_322), (5, .int 0), (4, .int r_12), (0, .ref A_self), (1, .int a1), (3, .int 0)]) hx hb dX7_take_110 hl (k := 1) rfl (by rw [ex_322]; rfl) (by decide) rfl (fun ls hl => ?_)
                            refine lv_goto (tgt := 75) hx hb dX7_take_113 (by decide) ?_
                            refine lv_iload hx hb dX7_take_75 (lv_at hl 1 rfl) ?_
                            refine lv_iload_n hx hb dX7_take_77 rfl (lv_at hl 5 rfl) ?_
                            refine iicmp_leT (a := 0) (b := 0) (tgt := 116) hx hb (by decide) (by decide) dX7_take_78 (by decide) (by decide) ?_
                            refine lv_goto (tgt := 43) hx hb dX7_take_116 (by decide) ?_
                            refine lv_aload_n hx hb dX7_take_43 rfl (lv_at hl 3 rfl) ?_
                            refine va_get (D := D) (ci := 7) (v := .ref (q 55)) (C := RX7) (T := TX7) (N := 56) hx hb hts (fun _ h => List.mem_cons_of_mem _ (List.mem_append_right _ h)) hown hK hP 0 rfl rfl 55 (by decide) (hts (.fieldLink RX7 118 "CrownTableModel" "cloth" "[I") (mem_i 2 rfl)) (fun _ h9 => h9) rfl dX7_take_44 ?_
                            refine lv_iload_n hx hb dX7_take_47 rfl (lv_at hl 5 rfl) ?_
                            refine va_iald hx hb hK hP 1 1 rfl rfl (vin (a := 0) (by decide) (by decide) (by decide)) dX7_take_48 ?_
                            refine lv_topi (fun x_323 ex_323 => ?_)
                            have lf_324 : (f_315 0).toInt = x_323.toInt := by rw [ex_323]; rfl
                            refine lv_iload hx hb dX7_take_49 (lv_at hl 2 rfl) ?_
                            refine iicmp_ge (a := x_323.toInt) (b := r_12.toInt) (tgt := 119) hx hb rfl rfl dX7_take_51 (by decide) (fun k_325 => ?_) (fun k_325 => ?_)
                            · skip
                              refine lv_aload_n hx hb dX7_take_119 rfl (lv_at hl 3 rfl) ?_
                              refine va_get (D := D) (ci := 7) (v := .ref (q 55)) (C := RX7) (T := TX7) (N := 56) hx hb hts (fun _ h => List.mem_cons_of_mem _ (List.mem_append_right _ h)) hown hK hP 0 rfl rfl 55 (by decide) (hts (.fieldLink RX7 118 "CrownTableModel" "cloth" "[I") (mem_i 2 rfl)) (fun _ h9 => h9) rfl dX7_take_120 ?_
                              refine lv_iload_n hx hb dX7_take_123 rfl (lv_at hl 5 rfl) ?_
                              refine lv_dup2_11 hx hb dX7_take_124 rfl rfl ?_
                              refine va_iald hx hb hK hP 1 1 rfl rfl (vin (a := 0) (by decide) (by decide) (by decide)) dX7_take_125 ?_
                              refine lv_topi (fun x_326 ex_326 => ?_)
                              have lf_327 : (f_315 0).toInt = x_326.toInt := by rw [ex_326]; rfl
                              refine lv_iload hx hb dX7_take_126 (lv_at hl 2 rfl) ?_
                              refine lv_isub hx hb dX7_take_128 ?_
                              refine lv_topi (fun x_328 ex_328 => ?_)
                              have tx_328 : x_328.toInt = (x_326.toInt - r_12.toInt) := by rw [ex_328]; exact sub_ti (a := x_326.toInt) (b := r_12.toInt) rfl rfl (by omega) (by omega)
                              refine va_iast hx hb hK hP hD hS 1 1 rfl rfl (vin (a := 0) (by decide) (by decide) (by decide)) dX7_take_129 (fun H locs hP hD hS => ?_)
                              obtain ⟨f_329, ef_329, hP, hD⟩ : ∃ f_329 : Nat → Int32, f_329 = upd f_315 (0 : Int32).toNatClampNeg x_328 ∧ va_P D vwCl [(A_self, .inr (7, o7 q v w)), (q 55, .inl (c 1, 6, .inl f_329))] H ∧ va_D A [(A_self, .inr (7, o7 q v w)), (q 55, .inl (c 1, 6, .inl f_329))] := ⟨_, rfl, hP, hD⟩
                              have cl_330 : (f_329 0).toInt = x_328.toInt := by rw [ef_329]; rfl
                              have cl_331 : (f_329 1).toInt = (f_315 1).toInt := by rw [ef_329]; rfl
                              have cl_332 : (f_329 2).toInt = (f_315 2).toInt := by rw [ef_329]; rfl
                              have cl_333 : (f_329 3).toInt = (f_315 3).toInt := by rw [ef_329]; rfl
                              have cl_334 : (f_329 4).toInt = (f_315 4).toInt := by rw [ef_329]; rfl
                              have cl_335 : (f_329 5).toInt = (f_315 5).toInt := by rw [ef_329]; rfl
                              refine lv_iinc (v := 1) (lv' := [(3, .int 1), (2, .int x_322), (5, .int 0), (4, .int r_12), (0, .ref A_self), (1, .int a1)]) hx hb dX7_take_130 hl (k := 5) rfl (by decide) (by decide) rfl (fun ls hl => ?_)
                              refine lv_goto (tgt := 30) hx hb dX7_take_133 (by decide) ?_
                              have kzz_336 : (1 : Int32).toInt = 1 := by decide
                              have hl := lv_sub hl [4, 5, 1, 0] rfl
                              exact (ih30 ((6 - (1 : Int32).toInt).toNat) (by omega) x_322 1 f_329 (by omega) (by omega) (by omega) (by omega) (by omega) (by omega) (by omega) (by omega) (by omega) (by omega) (by omega) (by omega) (by omega) (by omega) rfl _ _ _ hP hD hS hl)
                            · skip
                              exfalso; omega
                          · exfalso; omega
                          · exfalso; omega
                          · exfalso; omega
                        · exfalso; omega
                        · exfalso; omega
                      · exfalso; omega
                      · exfalso; omega
                    · exfalso; omega
                  · skip
                    refine lv_iinc (v := 5) (lv' := [(5, .int 5), (4, .int r_12), (0, .ref A_self), (1, .int a1), (2, .int L2), (3, .int 0)]) hx hb dX7_take_69 hl (k := 0) rfl (by decide) (by decide) rfl (fun ls hl => ?_)
                    refine lv_goto (tgt := 59) hx hb dX7_take_72 (by decide) ?_
                    refine lv_aload_n hx hb dX7_take_59 rfl (lv_at hl 2 rfl) ?_
                    refine va_get (D := D) (ci := 7) (v := .ref (q 55)) (C := RX7) (T := TX7) (N := 56) hx hb hts (fun _ h => List.mem_cons_of_mem _ (List.mem_append_right _ h)) hown hK hP 0 rfl rfl 55 (by decide) (hts (.fieldLink RX7 118 "CrownTableModel" "cloth" "[I") (mem_i 2 rfl)) (fun _ h9 => h9) rfl dX7_take_60 ?_
                    refine lv_iload hx hb dX7_take_63 (lv_at hl 0 rfl) ?_
                    refine va_iald hx hb hK hP 1 1 rfl rfl (vin (a := 5) (by decide) (by decide) (by decide)) dX7_take_65 ?_
                    refine lv_topi (fun x_337 ex_337 => ?_)
                    have lf_338 : (M_cloth 5).toInt = x_337.toInt := by rw [ex_337]; rfl
                    refine iif_ne (a := x_337.toInt) (tgt := 75) hx hb rfl dX7_take_66 (by decide) (fun k_339 => ?_) (fun k_339 => ?_)
                    · skip
                      refine lv_iload hx hb dX7_take_75 (lv_at hl 0 rfl) ?_
                      refine lv_iload_n hx hb dX7_take_77 rfl (lv_at hl 5 rfl) ?_
                      refine iicmp_leF (a := 5) (b := 0) (tgt := 116) hx hb (by decide) (by decide) dX7_take_78 (by decide) (by decide) ?_
                      refine lv_aload_n hx hb dX7_take_81 rfl (lv_at hl 2 rfl) ?_
                      refine va_get (D := D) (ci := 7) (v := .ref (q 55)) (C := RX7) (T := TX7) (N := 56) hx hb hts (fun _ h => List.mem_cons_of_mem _ (List.mem_append_right _ h)) hown hK hP 0 rfl rfl 55 (by decide) (hts (.fieldLink RX7 118 "CrownTableModel" "cloth" "[I") (mem_i 2 rfl)) (fun _ h9 => h9) rfl dX7_take_82 ?_
                      refine lv_iload hx hb dX7_take_85 (lv_at hl 0 rfl) ?_
                      refine lv_dup2_11 hx hb dX7_take_87 rfl rfl ?_
                      refine va_iald hx hb hK hP 1 1 rfl rfl (vin (a := 5) (by decide) (by decide) (by decide)) dX7_take_88 ?_
                      refine lv_topi (fun x_340 ex_340 => ?_)
                      have lf_341 : (M_cloth 5).toInt = x_340.toInt := by rw [ex_340]; rfl
                      refine lv_iconst (v := 1) hx hb dX7_take_89 (by decide) ?_
                      refine lv_isub hx hb dX7_take_90 ?_
                      refine lv_topi (fun x_342 ex_342 => ?_)
                      have tx_342 : x_342.toInt = (x_340.toInt - 1) := by rw [ex_342]; exact sub_ti (a := x_340.toInt) (b := 1) rfl (by decide) (by omega) (by omega)
                      refine va_iast hx hb hK hP hD hS 1 1 rfl rfl (vin (a := 5) (by decide) (by decide) (by decide)) dX7_take_91 (fun H locs hP hD hS => ?_)
                      obtain ⟨f_343, ef_343, hP, hD⟩ : ∃ f_343 : Nat → Int32, f_343 = upd M_cloth (5 : Int32).toNatClampNeg x_342 ∧ va_P D vwCl [(A_self, .inr (7, o7 q v w)), (q 55, .inl (c 1, 6, .inl f_343))] H ∧ va_D A [(A_self, .inr (7, o7 q v w)), (q 55, .inl (c 1, 6, .inl f_343))] := ⟨_, rfl, hP, hD⟩
                      have cl_344 : (f_343 0).toInt = (M_cloth 0).toInt := by rw [ef_343]; rfl
                      have cl_345 : (f_343 1).toInt = (M_cloth 1).toInt := by rw [ef_343]; rfl
                      have cl_346 : (f_343 2).toInt = (M_cloth 2).toInt := by rw [ef_343]; rfl
                      have cl_347 : (f_343 3).toInt = (M_cloth 3).toInt := by rw [ef_343]; rfl
                      have cl_348 : (f_343 4).toInt = (M_cloth 4).toInt := by rw [ef_343]; rfl
                      have cl_349 : (f_343 5).toInt = x_342.toInt := by rw [ef_343]; rfl
                      refine lv_iinc (v := 4) (lv' := [(5, .int 4), (4, .int r_12), (0, .ref A_self), (1, .int a1), (2, .int L2), (3, .int 0)]) hx hb dX7_take_92 hl (k := 0) rfl (by decide) (by decide) rfl (fun ls hl => ?_)
                      refine lv_aload_n hx hb dX7_take_95 rfl (lv_at hl 2 rfl) ?_
                      refine va_get (D := D) (ci := 7) (v := .ref (q 55)) (C := RX7) (T := TX7) (N := 56) hx hb hts (fun _ h => List.mem_cons_of_mem _ (List.mem_append_right _ h)) hown hK hP 0 rfl rfl 55 (by decide) (hts (.fieldLink RX7 118 "CrownTableModel" "cloth" "[I") (mem_i 2 rfl)) (fun _ h9 => h9) rfl dX7_take_96 ?_
                      refine lv_iload hx hb dX7_take_99 (lv_at hl 0 rfl) ?_
                      refine lv_dup2_11 hx hb dX7_take_101 rfl rfl ?_
                      refine va_iald hx hb hK hP 1 1 rfl rfl (vin (a := 4) (by decide) (by decide) (by decide)) dX7_take_102 ?_
                      refine lv_topi (fun x_350 ex_350 => ?_)
                      have lf_351 : (f_343 4).toInt = x_350.toInt := by rw [ex_350]; rfl
                      refine lv_iload hx hb dX7_take_103 (lv_at hl 0 rfl) ?_
                      have hPc := hP.sub (ws' := []) [] rfl
                      have hDc := hD.sub (ws' := []) [] (by decide) rfl
                      have hFc := va_free (wc := []) hD hS hA [] rfl
                      have kzz_352 : (4 : Int32).toInt = 4 := by decide
                      refine va_csi (va_runS (As := [.int 4]) (rest := [.int x_350, .int 4, .ref (q 55)]) ⟨hx, hb, hml, hown, hts⟩ (k_X7_next l D c ts H.size 4 4 (by decide) (by omega)) (cwS 1 hts gX7_take_X7_next rfl rfl rfl ⟨rfl, hdX7_next⟩ ⟨(show 1 + 1 ≤ 2 by decide), (show 8 + (1 + 11) + 20 ≤ 43 by decide)⟩) ⟨Pre0.blind, Pre0.at hPc hDc hAm hSt hS hFc⟩ rfl rfl hl.1 rfl (lv_room (Nat.le_of_ble_eq_true rfl)) dX7_take_105 ⟨(show 0 + 0 ≤ 0 by decide), (show 0 + 0 ≤ 0 by decide)⟩) (fun r_354 hw_353 => ?_)
                      rcases hw_353 with ⟨hw_353, rfl⟩ | ⟨hw_353, rfl⟩ | ⟨hw_353, rfl⟩ | ⟨hw_353, rfl⟩
                      · exfalso; omega
                      · exfalso; omega
                      · exfalso; omega
                      · skip
                        refine lv_iadd hx hb dX7_take_108 ?_
                        refine lv_topi (fun x_355 ex_355 => ?_)
                        have tx_355 : x_355.toInt = (x_350.toInt + 10) := by rw [ex_355]; exact add_ti (a := x_350.toInt) (b := 10) rfl (by decide) (by omega) (by omega)
                        refine va_iast hx hb hK hP hD hS 1 1 rfl rfl (vin (a := 4) (by decide) (by decide) (by decide)) dX7_take_109 (fun H locs hP hD hS => ?_)
                        obtain ⟨f_356, ef_356, hP, hD⟩ : ∃ f_356 : Nat → Int32, f_356 = upd f_343 (4 : Int32).toNatClampNeg x_355 ∧ va_P D vwCl [(A_self, .inr (7, o7 q v w)), (q 55, .inl (c 1, 6, .inl f_356))] H ∧ va_D A [(A_self, .inr (7, o7 q v w)), (q 55, .inl (c 1, 6, .inl f_356))] := ⟨_, rfl, hP, hD⟩
                        have cl_357 : (f_356 0).toInt = (f_343 0).toInt := by rw [ef_356]; rfl
                        have cl_358 : (f_356 1).toInt = (f_343 1).toInt := by rw [ef_356]; rfl
                        have cl_359 : (f_356 2).toInt = (f_343 2).toInt := by rw [ef_356]; rfl
                        have cl_360 : (f_356 3).toInt = (f_343 3).toInt := by rw [ef_356]; rfl
                        have cl_361 : (f_356 4).toInt = x_355.toInt := by rw [ef_356]; rfl
                        have cl_362 : (f_356 5).toInt = (f_343 5).toInt := by rw [ef_356]; rfl
                        obtain ⟨x_363, ex_363⟩ : ∃ y : Int32, y = L2 + 1 := ⟨_, rfl⟩
                        refine lv_iinc (v := x_363) (lv' := [(2, .int x_363), (5, .int 4), (4, .int r_12), (0, .ref A_self), (1, .int a1), (3, .int 0)]) hx hb dX7_take_110 hl (k := 4) rfl (by rw [ex_363]; rfl) (by decide) rfl (fun ls hl => ?_)
                        refine lv_goto (tgt := 75) hx hb dX7_take_113 (by decide) ?_
                        refine lv_iload hx hb dX7_take_75 (lv_at hl 1 rfl) ?_
                        refine lv_iload_n hx hb dX7_take_77 rfl (lv_at hl 5 rfl) ?_
                        refine iicmp_leF (a := 4) (b := 0) (tgt := 116) hx hb (by decide) (by decide) dX7_take_78 (by decide) (by decide) ?_
                        refine lv_aload_n hx hb dX7_take_81 rfl (lv_at hl 3 rfl) ?_
                        refine va_get (D := D) (ci := 7) (v := .ref (q 55)) (C := RX7) (T := TX7) (N := 56) hx hb hts (fun _ h => List.mem_cons_of_mem _ (List.mem_append_right _ h)) hown hK hP 0 rfl rfl 55 (by decide) (hts (.fieldLink RX7 118 "CrownTableModel" "cloth" "[I") (mem_i 2 rfl)) (fun _ h9 => h9) rfl dX7_take_82 ?_
                        refine lv_iload hx hb dX7_take_85 (lv_at hl 1 rfl) ?_
                        refine lv_dup2_11 hx hb dX7_take_87 rfl rfl ?_
                        refine va_iald hx hb hK hP 1 1 rfl rfl (vin (a := 4) (by decide) (by decide) (by decide)) dX7_take_88 ?_
                        refine lv_topi (fun x_364 ex_364 => ?_)
                        have lf_365 : (f_356 4).toInt = x_364.toInt := by rw [ex_364]; rfl
                        refine lv_iconst (v := 1) hx hb dX7_take_89 (by decide) ?_
                        refine lv_isub hx hb dX7_take_90 ?_
                        refine lv_topi (fun x_366 ex_366 => ?_)
                        have tx_366 : x_366.toInt = (x_364.toInt - 1) := by rw [ex_366]; exact sub_ti (a := x_364.toInt) (b := 1) rfl (by decide) (by omega) (by omega)
                        refine va_iast hx hb hK hP hD hS 1 1 rfl rfl (vin (a := 4) (by decide) (by decide) (by decide)) dX7_take_91 (fun H locs hP hD hS => ?_)
                        obtain ⟨f_367, ef_367, hP, hD⟩ : ∃ f_367 : Nat → Int32, f_367 = upd f_356 (4 : Int32).toNatClampNeg x_366 ∧ va_P D vwCl [(A_self, .inr (7, o7 q v w)), (q 55, .inl (c 1, 6, .inl f_367))] H ∧ va_D A [(A_self, .inr (7, o7 q v w)), (q 55, .inl (c 1, 6, .inl f_367))] := ⟨_, rfl, hP, hD⟩
                        have cl_368 : (f_367 0).toInt = (f_356 0).toInt := by rw [ef_367]; rfl
                        have cl_369 : (f_367 1).toInt = (f_356 1).toInt := by rw [ef_367]; rfl
                        have cl_370 : (f_367 2).toInt = (f_356 2).toInt := by rw [ef_367]; rfl
                        have cl_371 : (f_367 3).toInt = (f_356 3).toInt := by rw [ef_367]; rfl
                        have cl_372 : (f_367 4).toInt = x_366.toInt := by rw [ef_367]; rfl
                        have cl_373 : (f_367 5).toInt = (f_356 5).toInt := by rw [ef_367]; rfl
                        refine lv_iinc (v := 3) (lv' := [(5, .int 3), (2, .int x_363), (4, .int r_12), (0, .ref A_self), (1, .int a1), (3, .int 0)]) hx hb dX7_take_92 hl (k := 1) rfl (by decide) (by decide) rfl (fun ls hl => ?_)
                        refine lv_aload_n hx hb dX7_take_95 rfl (lv_at hl 3 rfl) ?_
                        refine va_get (D := D) (ci := 7) (v := .ref (q 55)) (C := RX7) (T := TX7) (N := 56) hx hb hts (fun _ h => List.mem_cons_of_mem _ (List.mem_append_right _ h)) hown hK hP 0 rfl rfl 55 (by decide) (hts (.fieldLink RX7 118 "CrownTableModel" "cloth" "[I") (mem_i 2 rfl)) (fun _ h9 => h9) rfl dX7_take_96 ?_
                        refine lv_iload hx hb dX7_take_99 (lv_at hl 0 rfl) ?_
                        refine lv_dup2_11 hx hb dX7_take_101 rfl rfl ?_
                        refine va_iald hx hb hK hP 1 1 rfl rfl (vin (a := 3) (by decide) (by decide) (by decide)) dX7_take_102 ?_
                        refine lv_topi (fun x_374 ex_374 => ?_)
                        have lf_375 : (f_367 3).toInt = x_374.toInt := by rw [ex_374]; rfl
                        refine lv_iload hx hb dX7_take_103 (lv_at hl 0 rfl) ?_
                        have hPc := hP.sub (ws' := []) [] rfl
                        have hDc := hD.sub (ws' := []) [] (by decide) rfl
                        have hFc := va_free (wc := []) hD hS hA [] rfl
                        have kzz_376 : (3 : Int32).toInt = 3 := by decide
                        refine va_csi (va_runS (As := [.int 3]) (rest := [.int x_374, .int 3, .ref (q 55)]) ⟨hx, hb, hml, hown, hts⟩ (k_X7_next l D c ts H.size 3 3 (by decide) (by omega)) (cwS 1 hts gX7_take_X7_next rfl rfl rfl ⟨rfl, hdX7_next⟩ ⟨(show 1 + 1 ≤ 2 by decide), (show 8 + (1 + 11) + 20 ≤ 43 by decide)⟩) ⟨Pre0.blind, Pre0.at hPc hDc hAm hSt hS hFc⟩ rfl rfl hl.1 rfl (lv_room (Nat.le_of_ble_eq_true rfl)) dX7_take_105 ⟨(show 0 + 0 ≤ 0 by decide), (show 0 + 0 ≤ 0 by decide)⟩) (fun r_378 hw_377 => ?_)
                        rcases hw_377 with ⟨hw_377, rfl⟩ | ⟨hw_377, rfl⟩ | ⟨hw_377, rfl⟩ | ⟨hw_377, rfl⟩
                        · exfalso; omega
                        · exfalso; omega
                        · skip
                          refine lv_iadd hx hb dX7_take_108 ?_
                          refine lv_topi (fun x_379 ex_379 => ?_)
                          have tx_379 : x_379.toInt = (x_374.toInt + 5) := by rw [ex_379]; exact add_ti (a := x_374.toInt) (b := 5) rfl (by decide) (by omega) (by omega)
                          refine va_iast hx hb hK hP hD hS 1 1 rfl rfl (vin (a := 3) (by decide) (by decide) (by decide)) dX7_take_109 (fun H locs hP hD hS => ?_)
                          obtain ⟨f_380, ef_380, hP, hD⟩ : ∃ f_380 : Nat → Int32, f_380 = upd f_367 (3 : Int32).toNatClampNeg x_379 ∧ va_P D vwCl [(A_self, .inr (7, o7 q v w)), (q 55, .inl (c 1, 6, .inl f_380))] H ∧ va_D A [(A_self, .inr (7, o7 q v w)), (q 55, .inl (c 1, 6, .inl f_380))] := ⟨_, rfl, hP, hD⟩
                          have cl_381 : (f_380 0).toInt = (f_367 0).toInt := by rw [ef_380]; rfl
                          have cl_382 : (f_380 1).toInt = (f_367 1).toInt := by rw [ef_380]; rfl
                          have cl_383 : (f_380 2).toInt = (f_367 2).toInt := by rw [ef_380]; rfl
                          have cl_384 : (f_380 3).toInt = x_379.toInt := by rw [ef_380]; rfl
                          have cl_385 : (f_380 4).toInt = (f_367 4).toInt := by rw [ef_380]; rfl
                          have cl_386 : (f_380 5).toInt = (f_367 5).toInt := by rw [ef_380]; rfl
                          obtain ⟨x_387, ex_387⟩ : ∃ y : Int32, y = x_363 + 1 := ⟨_, rfl⟩
                          refine lv_iinc (v := x_387) (lv' := [(2, .int x_387), (5, .int 3), (4, .int r_12), (0, .ref A_self), (1, .int a1), (3, .int 0)]) hx hb dX7_take_110 hl (k := 1) rfl (by rw [ex_387]; rfl) (by decide) rfl (fun ls hl => ?_)
                          refine lv_goto (tgt := 75) hx hb dX7_take_113 (by decide) ?_
                          refine lv_iload hx hb dX7_take_75 (lv_at hl 1 rfl) ?_
                          refine lv_iload_n hx hb dX7_take_77 rfl (lv_at hl 5 rfl) ?_
                          refine iicmp_leF (a := 3) (b := 0) (tgt := 116) hx hb (by decide) (by decide) dX7_take_78 (by decide) (by decide) ?_
                          refine lv_aload_n hx hb dX7_take_81 rfl (lv_at hl 3 rfl) ?_
                          refine va_get (D := D) (ci := 7) (v := .ref (q 55)) (C := RX7) (T := TX7) (N := 56) hx hb hts (fun _ h => List.mem_cons_of_mem _ (List.mem_append_right _ h)) hown hK hP 0 rfl rfl 55 (by decide) (hts (.fieldLink RX7 118 "CrownTableModel" "cloth" "[I") (mem_i 2 rfl)) (fun _ h9 => h9) rfl dX7_take_82 ?_
                          refine lv_iload hx hb dX7_take_85 (lv_at hl 1 rfl) ?_
                          refine lv_dup2_11 hx hb dX7_take_87 rfl rfl ?_
                          refine va_iald hx hb hK hP 1 1 rfl rfl (vin (a := 3) (by decide) (by decide) (by decide)) dX7_take_88 ?_
                          refine lv_topi (fun x_388 ex_388 => ?_)
                          have lf_389 : (f_380 3).toInt = x_388.toInt := by rw [ex_388]; rfl
                          refine lv_iconst (v := 1) hx hb dX7_take_89 (by decide) ?_
                          refine lv_isub hx hb dX7_take_90 ?_
                          refine lv_topi (fun x_390 ex_390 => ?_)
                          have tx_390 : x_390.toInt = (x_388.toInt - 1) := by rw [ex_390]; exact sub_ti (a := x_388.toInt) (b := 1) rfl (by decide) (by omega) (by omega)
                          refine va_iast hx hb hK hP hD hS 1 1 rfl rfl (vin (a := 3) (by decide) (by decide) (by decide)) dX7_take_91 (fun H locs hP hD hS => ?_)
                          obtain ⟨f_391, ef_391, hP, hD⟩ : ∃ f_391 : Nat → Int32, f_391 = upd f_380 (3 : Int32).toNatClampNeg x_390 ∧ va_P D vwCl [(A_self, .inr (7, o7 q v w)), (q 55, .inl (c 1, 6, .inl f_391))] H ∧ va_D A [(A_self, .inr (7, o7 q v w)), (q 55, .inl (c 1, 6, .inl f_391))] := ⟨_, rfl, hP, hD⟩
                          have cl_392 : (f_391 0).toInt = (f_380 0).toInt := by rw [ef_391]; rfl
                          have cl_393 : (f_391 1).toInt = (f_380 1).toInt := by rw [ef_391]; rfl
                          have cl_394 : (f_391 2).toInt = (f_380 2).toInt := by rw [ef_391]; rfl
                          have cl_395 : (f_391 3).toInt = x_390.toInt := by rw [ef_391]; rfl
                          have cl_396 : (f_391 4).toInt = (f_380 4).toInt := by rw [ef_391]; rfl
                          have cl_397 : (f_391 5).toInt = (f_380 5).toInt := by rw [ef_391]; rfl
                          refine lv_iinc (v := 2) (lv' := [(5, .int 2), (2, .int x_387), (4, .int r_12), (0, .ref A_self), (1, .int a1), (3, .int 0)]) hx hb dX7_take_92 hl (k := 1) rfl (by decide) (by decide) rfl (fun ls hl => ?_)
                          refine lv_aload_n hx hb dX7_take_95 rfl (lv_at hl 3 rfl) ?_
                          refine va_get (D := D) (ci := 7) (v := .ref (q 55)) (C := RX7) (T := TX7) (N := 56) hx hb hts (fun _ h => List.mem_cons_of_mem _ (List.mem_append_right _ h)) hown hK hP 0 rfl rfl 55 (by decide) (hts (.fieldLink RX7 118 "CrownTableModel" "cloth" "[I") (mem_i 2 rfl)) (fun _ h9 => h9) rfl dX7_take_96 ?_
                          refine lv_iload hx hb dX7_take_99 (lv_at hl 0 rfl) ?_
                          refine lv_dup2_11 hx hb dX7_take_101 rfl rfl ?_
                          refine va_iald hx hb hK hP 1 1 rfl rfl (vin (a := 2) (by decide) (by decide) (by decide)) dX7_take_102 ?_
                          refine lv_topi (fun x_398 ex_398 => ?_)
                          have lf_399 : (f_391 2).toInt = x_398.toInt := by rw [ex_398]; rfl
                          refine lv_iload hx hb dX7_take_103 (lv_at hl 0 rfl) ?_
                          have hPc := hP.sub (ws' := []) [] rfl
                          have hDc := hD.sub (ws' := []) [] (by decide) rfl
                          have hFc := va_free (wc := []) hD hS hA [] rfl
                          have kzz_400 : (2 : Int32).toInt = 2 := by decide
                          refine va_csi (va_runS (As := [.int 2]) (rest := [.int x_398, .int 2, .ref (q 55)]) ⟨hx, hb, hml, hown, hts⟩ (k_X7_next l D c ts H.size 2 2 (by decide) (by omega)) (cwS 1 hts gX7_take_X7_next rfl rfl rfl ⟨rfl, hdX7_next⟩ ⟨(show 1 + 1 ≤ 2 by decide), (show 8 + (1 + 11) + 20 ≤ 43 by decide)⟩) ⟨Pre0.blind, Pre0.at hPc hDc hAm hSt hS hFc⟩ rfl rfl hl.1 rfl (lv_room (Nat.le_of_ble_eq_true rfl)) dX7_take_105 ⟨(show 0 + 0 ≤ 0 by decide), (show 0 + 0 ≤ 0 by decide)⟩) (fun r_402 hw_401 => ?_)
                          rcases hw_401 with ⟨hw_401, rfl⟩ | ⟨hw_401, rfl⟩ | ⟨hw_401, rfl⟩ | ⟨hw_401, rfl⟩
                          · exfalso; omega
                          · skip
                            refine lv_iadd hx hb dX7_take_108 ?_
                            refine lv_topi (fun x_403 ex_403 => ?_)
                            have tx_403 : x_403.toInt = (x_398.toInt + 20) := by rw [ex_403]; exact add_ti (a := x_398.toInt) (b := 20) rfl (by decide) (by omega) (by omega)
                            refine va_iast hx hb hK hP hD hS 1 1 rfl rfl (vin (a := 2) (by decide) (by decide) (by decide)) dX7_take_109 (fun H locs hP hD hS => ?_)
                            obtain ⟨f_404, ef_404, hP, hD⟩ : ∃ f_404 : Nat → Int32, f_404 = upd f_391 (2 : Int32).toNatClampNeg x_403 ∧ va_P D vwCl [(A_self, .inr (7, o7 q v w)), (q 55, .inl (c 1, 6, .inl f_404))] H ∧ va_D A [(A_self, .inr (7, o7 q v w)), (q 55, .inl (c 1, 6, .inl f_404))] := ⟨_, rfl, hP, hD⟩
                            have cl_405 : (f_404 0).toInt = (f_391 0).toInt := by rw [ef_404]; rfl
                            have cl_406 : (f_404 1).toInt = (f_391 1).toInt := by rw [ef_404]; rfl
                            have cl_407 : (f_404 2).toInt = x_403.toInt := by rw [ef_404]; rfl
                            have cl_408 : (f_404 3).toInt = (f_391 3).toInt := by rw [ef_404]; rfl
                            have cl_409 : (f_404 4).toInt = (f_391 4).toInt := by rw [ef_404]; rfl
                            have cl_410 : (f_404 5).toInt = (f_391 5).toInt := by rw [ef_404]; rfl
                            obtain ⟨x_411, ex_411⟩ : ∃ y : Int32, y = x_387 + 1 := ⟨_, rfl⟩
                            refine lv_iinc (v := x_411) (lv' := [(2, .int x_411), (5, .int 2), (4, .int r_12), (0, .ref A_self), (1, .int a1), (3, .int 0)]) hx hb dX7_take_110 hl (k := 1) rfl (by rw [ex_411]; rfl) (by decide) rfl (fun ls hl => ?_)
                            refine lv_goto (tgt := 75) hx hb dX7_take_113 (by decide) ?_
                            refine lv_iload hx hb dX7_take_75 (lv_at hl 1 rfl) ?_
                            refine lv_iload_n hx hb dX7_take_77 rfl (lv_at hl 5 rfl) ?_
                            refine iicmp_leF (a := 2) (b := 0) (tgt := 116) hx hb (by decide) (by decide) dX7_take_78 (by decide) (by decide) ?_
                            refine lv_aload_n hx hb dX7_take_81 rfl (lv_at hl 3 rfl) ?_
                            refine va_get (D := D) (ci := 7) (v := .ref (q 55)) (C := RX7) (T := TX7) (N := 56) hx hb hts (fun _ h => List.mem_cons_of_mem _ (List.mem_append_right _ h)) hown hK hP 0 rfl rfl 55 (by decide) (hts (.fieldLink RX7 118 "CrownTableModel" "cloth" "[I") (mem_i 2 rfl)) (fun _ h9 => h9) rfl dX7_take_82 ?_
                            refine lv_iload hx hb dX7_take_85 (lv_at hl 1 rfl) ?_
                            refine lv_dup2_11 hx hb dX7_take_87 rfl rfl ?_
                            refine va_iald hx hb hK hP 1 1 rfl rfl (vin (a := 2) (by decide) (by decide) (by decide)) dX7_take_88 ?_
                            refine lv_topi (fun x_412 ex_412 => ?_)
                            have lf_413 : (f_404 2).toInt = x_412.toInt := by rw [ex_412]; rfl
                            refine lv_iconst (v := 1) hx hb dX7_take_89 (by decide) ?_
                            refine lv_isub hx hb dX7_take_90 ?_
                            refine lv_topi (fun x_414 ex_414 => ?_)
                            have tx_414 : x_414.toInt = (x_412.toInt - 1) := by rw [ex_414]; exact sub_ti (a := x_412.toInt) (b := 1) rfl (by decide) (by omega) (by omega)
                            refine va_iast hx hb hK hP hD hS 1 1 rfl rfl (vin (a := 2) (by decide) (by decide) (by decide)) dX7_take_91 (fun H locs hP hD hS => ?_)
                            obtain ⟨f_415, ef_415, hP, hD⟩ : ∃ f_415 : Nat → Int32, f_415 = upd f_404 (2 : Int32).toNatClampNeg x_414 ∧ va_P D vwCl [(A_self, .inr (7, o7 q v w)), (q 55, .inl (c 1, 6, .inl f_415))] H ∧ va_D A [(A_self, .inr (7, o7 q v w)), (q 55, .inl (c 1, 6, .inl f_415))] := ⟨_, rfl, hP, hD⟩
                            have cl_416 : (f_415 0).toInt = (f_404 0).toInt := by rw [ef_415]; rfl
                            have cl_417 : (f_415 1).toInt = (f_404 1).toInt := by rw [ef_415]; rfl
                            have cl_418 : (f_415 2).toInt = x_414.toInt := by rw [ef_415]; rfl
                            have cl_419 : (f_415 3).toInt = (f_404 3).toInt := by rw [ef_415]; rfl
                            have cl_420 : (f_415 4).toInt = (f_404 4).toInt := by rw [ef_415]; rfl
                            have cl_421 : (f_415 5).toInt = (f_404 5).toInt := by rw [ef_415]; rfl
                            refine lv_iinc (v := 1) (lv' := [(5, .int 1), (2, .int x_411), (4, .int r_12), (0, .ref A_self), (1, .int a1), (3, .int 0)]) hx hb dX7_take_92 hl (k := 1) rfl (by decide) (by decide) rfl (fun ls hl => ?_)
                            refine lv_aload_n hx hb dX7_take_95 rfl (lv_at hl 3 rfl) ?_
                            refine va_get (D := D) (ci := 7) (v := .ref (q 55)) (C := RX7) (T := TX7) (N := 56) hx hb hts (fun _ h => List.mem_cons_of_mem _ (List.mem_append_right _ h)) hown hK hP 0 rfl rfl 55 (by decide) (hts (.fieldLink RX7 118 "CrownTableModel" "cloth" "[I") (mem_i 2 rfl)) (fun _ h9 => h9) rfl dX7_take_96 ?_
                            refine lv_iload hx hb dX7_take_99 (lv_at hl 0 rfl) ?_
                            refine lv_dup2_11 hx hb dX7_take_101 rfl rfl ?_
                            refine va_iald hx hb hK hP 1 1 rfl rfl (vin (a := 1) (by decide) (by decide) (by decide)) dX7_take_102 ?_
                            refine lv_topi (fun x_422 ex_422 => ?_)
                            have lf_423 : (f_415 1).toInt = x_422.toInt := by rw [ex_422]; rfl
                            refine lv_iload hx hb dX7_take_103 (lv_at hl 0 rfl) ?_
                            have hPc := hP.sub (ws' := []) [] rfl
                            have hDc := hD.sub (ws' := []) [] (by decide) rfl
                            have hFc := va_free (wc := []) hD hS hA [] rfl
                            have kzz_424 : (1 : Int32).toInt = 1 := by decide
                            refine va_csi (va_runS (As := [.int 1]) (rest := [.int x_422, .int 1, .ref (q 55)]) ⟨hx, hb, hml, hown, hts⟩ (k_X7_next l D c ts H.size 1 1 (by decide) (by omega)) (cwS 1 hts gX7_take_X7_next rfl rfl rfl ⟨rfl, hdX7_next⟩ ⟨(show 1 + 1 ≤ 2 by decide), (show 8 + (1 + 11) + 20 ≤ 43 by decide)⟩) ⟨Pre0.blind, Pre0.at hPc hDc hAm hSt hS hFc⟩ rfl rfl hl.1 rfl (lv_room (Nat.le_of_ble_eq_true rfl)) dX7_take_105 ⟨(show 0 + 0 ≤ 0 by decide), (show 0 + 0 ≤ 0 by decide)⟩) (fun r_426 hw_425 => ?_)
                            rcases hw_425 with ⟨hw_425, rfl⟩ | ⟨hw_425, rfl⟩ | ⟨hw_425, rfl⟩ | ⟨hw_425, rfl⟩
                            · exfalso; omega
                            · skip
                              refine lv_iadd hx hb dX7_take_108 ?_
                              refine lv_topi (fun x_427 ex_427 => ?_)
                              have tx_427 : x_427.toInt = (x_422.toInt + 20) := by rw [ex_427]; exact add_ti (a := x_422.toInt) (b := 20) rfl (by decide) (by omega) (by omega)
                              refine va_iast hx hb hK hP hD hS 1 1 rfl rfl (vin (a := 1) (by decide) (by decide) (by decide)) dX7_take_109 (fun H locs hP hD hS => ?_)
                              obtain ⟨f_428, ef_428, hP, hD⟩ : ∃ f_428 : Nat → Int32, f_428 = upd f_415 (1 : Int32).toNatClampNeg x_427 ∧ va_P D vwCl [(A_self, .inr (7, o7 q v w)), (q 55, .inl (c 1, 6, .inl f_428))] H ∧ va_D A [(A_self, .inr (7, o7 q v w)), (q 55, .inl (c 1, 6, .inl f_428))] := ⟨_, rfl, hP, hD⟩
                              have cl_429 : (f_428 0).toInt = (f_415 0).toInt := by rw [ef_428]; rfl
                              have cl_430 : (f_428 1).toInt = x_427.toInt := by rw [ef_428]; rfl
                              have cl_431 : (f_428 2).toInt = (f_415 2).toInt := by rw [ef_428]; rfl
                              have cl_432 : (f_428 3).toInt = (f_415 3).toInt := by rw [ef_428]; rfl
                              have cl_433 : (f_428 4).toInt = (f_415 4).toInt := by rw [ef_428]; rfl
                              have cl_434 : (f_428 5).toInt = (f_415 5).toInt := by rw [ef_428]; rfl
                              obtain ⟨x_435, ex_435⟩ : ∃ y : Int32, y = x_411 + 1 := ⟨_, rfl⟩
                              refine lv_iinc (v := x_435) (lv' := [(2, .int x_435), (5, .int 1), (4, .int r_12), (0, .ref A_self), (1, .int a1), (3, .int 0)]) hx hb dX7_take_110 hl (k := 1) rfl (by rw [ex_435]; rfl) (by decide) rfl (fun ls hl => ?_)
                              refine lv_goto (tgt := 75) hx hb dX7_take_113 (by decide) ?_
                              refine lv_iload hx hb dX7_take_75 (lv_at hl 1 rfl) ?_
                              refine lv_iload_n hx hb dX7_take_77 rfl (lv_at hl 5 rfl) ?_
                              refine iicmp_leF (a := 1) (b := 0) (tgt := 116) hx hb (by decide) (by decide) dX7_take_78 (by decide) (by decide) ?_
                              refine lv_aload_n hx hb dX7_take_81 rfl (lv_at hl 3 rfl) ?_
                              refine va_get (D := D) (ci := 7) (v := .ref (q 55)) (C := RX7) (T := TX7) (N := 56) hx hb hts (fun _ h => List.mem_cons_of_mem _ (List.mem_append_right _ h)) hown hK hP 0 rfl rfl 55 (by decide) (hts (.fieldLink RX7 118 "CrownTableModel" "cloth" "[I") (mem_i 2 rfl)) (fun _ h9 => h9) rfl dX7_take_82 ?_
                              refine lv_iload hx hb dX7_take_85 (lv_at hl 1 rfl) ?_
                              refine lv_dup2_11 hx hb dX7_take_87 rfl rfl ?_
                              refine va_iald hx hb hK hP 1 1 rfl rfl (vin (a := 1) (by decide) (by decide) (by decide)) dX7_take_88 ?_
                              refine lv_topi (fun x_436 ex_436 => ?_)
                              have lf_437 : (f_428 1).toInt = x_436.toInt := by rw [ex_436]; rfl
                              refine lv_iconst (v := 1) hx hb dX7_take_89 (by decide) ?_
                              refine lv_isub hx hb dX7_take_90 ?_
                              refine lv_topi (fun x_438 ex_438 => ?_)
                              have tx_438 : x_438.toInt = (x_436.toInt - 1) := by rw [ex_438]; exact sub_ti (a := x_436.toInt) (b := 1) rfl (by decide) (by omega) (by omega)
                              refine va_iast hx hb hK hP hD hS 1 1 rfl rfl (vin (a := 1) (by decide) (by decide) (by decide)) dX7_take_91 (fun H locs hP hD hS => ?_)
                              obtain ⟨f_439, ef_439, hP, hD⟩ : ∃ f_439 : Nat → Int32, f_439 = upd f_428 (1 : Int32).toNatClampNeg x_438 ∧ va_P D vwCl [(A_self, .inr (7, o7 q v w)), (q 55, .inl (c 1, 6, .inl f_439))] H ∧ va_D A [(A_self, .inr (7, o7 q v w)), (q 55, .inl (c 1, 6, .inl f_439))] := ⟨_, rfl, hP, hD⟩
                              have cl_440 : (f_439 0).toInt = (f_428 0).toInt := by rw [ef_439]; rfl
                              have cl_441 : (f_439 1).toInt = x_438.toInt := by rw [ef_439]; rfl
                              have cl_442 : (f_439 2).toInt = (f_428 2).toInt := by rw [ef_439]; rfl
                              have cl_443 : (f_439 3).toInt = (f_428 3).toInt := by rw [ef_439]; rfl
                              have cl_444 : (f_439 4).toInt = (f_428 4).toInt := by rw [ef_439]; rfl
                              have cl_445 : (f_439 5).toInt = (f_428 5).toInt := by rw [ef_439]; rfl
                              refine lv_iinc (v := 0) (lv' := [(5, .int 0), (2, .int x_435), (4, .int r_12), (0, .ref A_self), (1, .int a1), (3, .int 0)]) hx hb dX7_take_92 hl (k := 1) rfl (by decide) (by decide) rfl (fun ls hl => ?_)
                              refine lv_aload_n hx hb dX7_take_95 rfl (lv_at hl 3 rfl) ?_
                              refine va_get (D := D) (ci := 7) (v := .ref (q 55)) (C := RX7) (T := TX7) (N := 56) hx hb hts (fun _ h => List.mem_cons_of_mem _ (List.mem_append_right _ h)) hown hK hP 0 rfl rfl 55 (by decide) (hts (.fieldLink RX7 118 "CrownTableModel" "cloth" "[I") (mem_i 2 rfl)) (fun _ h9 => h9) rfl dX7_take_96 ?_
                              refine lv_iload hx hb dX7_take_99 (lv_at hl 0 rfl) ?_
                              refine lv_dup2_11 hx hb dX7_take_101 rfl rfl ?_
                              refine va_iald hx hb hK hP 1 1 rfl rfl (vin (a := 0) (by decide) (by decide) (by decide)) dX7_take_102 ?_
                              refine lv_topi (fun x_446 ex_446 => ?_)
                              have lf_447 : (f_439 0).toInt = x_446.toInt := by rw [ex_446]; rfl
                              refine lv_iload hx hb dX7_take_103 (lv_at hl 0 rfl) ?_
                              have hPc := hP.sub (ws' := []) [] rfl
                              have hDc := hD.sub (ws' := []) [] (by decide) rfl
                              have hFc := va_free (wc := []) hD hS hA [] rfl
                              have kzz_448 : (0 : Int32).toInt = 0 := by decide
                              refine va_csi (va_runS (As := [.int 0]) (rest := [.int x_446, .int 0, .ref (q 55)]) ⟨hx, hb, hml, hown, hts⟩ (k_X7_next l D c ts H.size 0 0 (by decide) (by omega)) (cwS 1 hts gX7_take_X7_next rfl rfl rfl ⟨rfl, hdX7_next⟩ ⟨(show 1 + 1 ≤ 2 by decide), (show 8 + (1 + 11) + 20 ≤ 43 by decide)⟩) ⟨Pre0.blind, Pre0.at hPc hDc hAm hSt hS hFc⟩ rfl rfl hl.1 rfl (lv_room (Nat.le_of_ble_eq_true rfl)) dX7_take_105 ⟨(show 0 + 0 ≤ 0 by decide), (show 0 + 0 ≤ 0 by decide)⟩) (fun r_450 hw_449 => ?_)
                              rcases hw_449 with ⟨hw_449, rfl⟩ | ⟨hw_449, rfl⟩ | ⟨hw_449, rfl⟩ | ⟨hw_449, rfl⟩
                              · skip
                                refine lv_iadd hx hb dX7_take_108 ?_
                                refine lv_topi (fun x_451 ex_451 => ?_)
                                have tx_451 : x_451.toInt = (x_446.toInt + 12) := by rw [ex_451]; exact add_ti (a := x_446.toInt) (b := 12) rfl (by decide) (by omega) (by omega)
                                refine va_iast hx hb hK hP hD hS 1 1 rfl rfl (vin (a := 0) (by decide) (by decide) (by decide)) dX7_take_109 (fun H locs hP hD hS => ?_)
                                obtain ⟨f_452, ef_452, hP, hD⟩ : ∃ f_452 : Nat → Int32, f_452 = upd f_439 (0 : Int32).toNatClampNeg x_451 ∧ va_P D vwCl [(A_self, .inr (7, o7 q v w)), (q 55, .inl (c 1, 6, .inl f_452))] H ∧ va_D A [(A_self, .inr (7, o7 q v w)), (q 55, .inl (c 1, 6, .inl f_452))] := ⟨_, rfl, hP, hD⟩
                                have cl_453 : (f_452 0).toInt = x_451.toInt := by rw [ef_452]; rfl
                                have cl_454 : (f_452 1).toInt = (f_439 1).toInt := by rw [ef_452]; rfl
                                have cl_455 : (f_452 2).toInt = (f_439 2).toInt := by rw [ef_452]; rfl
                                have cl_456 : (f_452 3).toInt = (f_439 3).toInt := by rw [ef_452]; rfl
                                have cl_457 : (f_452 4).toInt = (f_439 4).toInt := by rw [ef_452]; rfl
                                have cl_458 : (f_452 5).toInt = (f_439 5).toInt := by rw [ef_452]; rfl
                                obtain ⟨x_459, ex_459⟩ : ∃ y : Int32, y = x_435 + 1 := ⟨_, rfl⟩
                                refine lv_iinc (v := x_459) (lv' := [(2, .int x_459), (5, .int 0), (4, .int r_12), (0, .ref A_self), (1, .int a1), (3, .int 0)]) hx hb dX7_take_110 hl (k := 1) rfl (by rw [ex_459]; rfl) (by decide) rfl (fun ls hl => ?_)
                                refine lv_goto (tgt := 75) hx hb dX7_take_113 (by decide) ?_
                                refine lv_iload hx hb dX7_take_75 (lv_at hl 1 rfl) ?_
                                refine lv_iload_n hx hb dX7_take_77 rfl (lv_at hl 5 rfl) ?_
                                refine iicmp_leT (a := 0) (b := 0) (tgt := 116) hx hb (by decide) (by decide) dX7_take_78 (by decide) (by decide) ?_
                                refine lv_goto (tgt := 43) hx hb dX7_take_116 (by decide) ?_
                                refine lv_aload_n hx hb dX7_take_43 rfl (lv_at hl 3 rfl) ?_
                                refine va_get (D := D) (ci := 7) (v := .ref (q 55)) (C := RX7) (T := TX7) (N := 56) hx hb hts (fun _ h => List.mem_cons_of_mem _ (List.mem_append_right _ h)) hown hK hP 0 rfl rfl 55 (by decide) (hts (.fieldLink RX7 118 "CrownTableModel" "cloth" "[I") (mem_i 2 rfl)) (fun _ h9 => h9) rfl dX7_take_44 ?_
                                refine lv_iload_n hx hb dX7_take_47 rfl (lv_at hl 5 rfl) ?_
                                refine va_iald hx hb hK hP 1 1 rfl rfl (vin (a := 0) (by decide) (by decide) (by decide)) dX7_take_48 ?_
                                refine lv_topi (fun x_460 ex_460 => ?_)
                                have lf_461 : (f_452 0).toInt = x_460.toInt := by rw [ex_460]; rfl
                                refine lv_iload hx hb dX7_take_49 (lv_at hl 2 rfl) ?_
                                refine iicmp_ge (a := x_460.toInt) (b := r_12.toInt) (tgt := 119) hx hb rfl rfl dX7_take_51 (by decide) (fun k_462 => ?_) (fun k_462 => ?_)
                                · skip
                                  refine lv_aload_n hx hb dX7_take_119 rfl (lv_at hl 3 rfl) ?_
                                  refine va_get (D := D) (ci := 7) (v := .ref (q 55)) (C := RX7) (T := TX7) (N := 56) hx hb hts (fun _ h => List.mem_cons_of_mem _ (List.mem_append_right _ h)) hown hK hP 0 rfl rfl 55 (by decide) (hts (.fieldLink RX7 118 "CrownTableModel" "cloth" "[I") (mem_i 2 rfl)) (fun _ h9 => h9) rfl dX7_take_120 ?_
                                  refine lv_iload_n hx hb dX7_take_123 rfl (lv_at hl 5 rfl) ?_
                                  refine lv_dup2_11 hx hb dX7_take_124 rfl rfl ?_
                                  refine va_iald hx hb hK hP 1 1 rfl rfl (vin (a := 0) (by decide) (by decide) (by decide)) dX7_take_125 ?_
                                  refine lv_topi (fun x_463 ex_463 => ?_)
                                  have lf_464 : (f_452 0).toInt = x_463.toInt := by rw [ex_463]; rfl
                                  refine lv_iload hx hb dX7_take_126 (lv_at hl 2 rfl) ?_
                                  refine lv_isub hx hb dX7_take_128 ?_
                                  refine lv_topi (fun x_465 ex_465 => ?_)
                                  have tx_465 : x_465.toInt = (x_463.toInt - r_12.toInt) := by rw [ex_465]; exact sub_ti (a := x_463.toInt) (b := r_12.toInt) rfl rfl (by omega) (by omega)
                                  refine va_iast hx hb hK hP hD hS 1 1 rfl rfl (vin (a := 0) (by decide) (by decide) (by decide)) dX7_take_129 (fun H locs hP hD hS => ?_)
                                  obtain ⟨f_466, ef_466, hP, hD⟩ : ∃ f_466 : Nat → Int32, f_466 = upd f_452 (0 : Int32).toNatClampNeg x_465 ∧ va_P D vwCl [(A_self, .inr (7, o7 q v w)), (q 55, .inl (c 1, 6, .inl f_466))] H ∧ va_D A [(A_self, .inr (7, o7 q v w)), (q 55, .inl (c 1, 6, .inl f_466))] := ⟨_, rfl, hP, hD⟩
                                  have cl_467 : (f_466 0).toInt = x_465.toInt := by rw [ef_466]; rfl
                                  have cl_468 : (f_466 1).toInt = (f_452 1).toInt := by rw [ef_466]; rfl
                                  have cl_469 : (f_466 2).toInt = (f_452 2).toInt := by rw [ef_466]; rfl
                                  have cl_470 : (f_466 3).toInt = (f_452 3).toInt := by rw [ef_466]; rfl
                                  have cl_471 : (f_466 4).toInt = (f_452 4).toInt := by rw [ef_466]; rfl
                                  have cl_472 : (f_466 5).toInt = (f_452 5).toInt := by rw [ef_466]; rfl
                                  refine lv_iinc (v := 1) (lv' := [(3, .int 1), (2, .int x_459), (5, .int 0), (4, .int r_12), (0, .ref A_self), (1, .int a1)]) hx hb dX7_take_130 hl (k := 5) rfl (by decide) (by decide) rfl (fun ls hl => ?_)
                                  refine lv_goto (tgt := 30) hx hb dX7_take_133 (by decide) ?_
                                  have kzz_473 : (1 : Int32).toInt = 1 := by decide
                                  have hl := lv_sub hl [4, 5, 1, 0] rfl
                                  exact (ih30 ((6 - (1 : Int32).toInt).toNat) (by omega) x_459 1 f_466 (by omega) (by omega) (by omega) (by omega) (by omega) (by omega) (by omega) (by omega) (by omega) (by omega) (by omega) (by omega) (by omega) (by omega) rfl _ _ _ hP hD hS hl)
                                · skip
                                  exfalso; omega
                              · exfalso; omega
                              · exfalso; omega
                              · exfalso; omega
                            · exfalso; omega
                            · exfalso; omega
                          · exfalso; omega
                          · exfalso; omega
                        · exfalso; omega
                    · skip
                      exfalso; omega
        · skip
          obtain rfl : L3 = 1 := Int32.toInt_inj.mp (by rw [hsp]; rfl)
          have hl : lv_has ls 6 [(0, .ref A_self), (1, .int a1), (2, .int L2), (3, .int 1)] := hl
          have kzz_474 : (1 : Int32).toInt = 1 := by decide
          refine lv_iload_n hx hb dX7_take_30 rfl (lv_at hl 3 rfl) ?_
          refine lv_bipush (v := 6) hx hb dX7_take_31 (by decide) ?_
          refine iicmp_geF (a := 1) (b := 6) (tgt := 136) hx hb (by decide) (by decide) dX7_take_33 (by decide) (by decide) ?_
          refine lv_iload_n hx hb dX7_take_36 rfl (lv_at hl 1 rfl) ?_
          refine lv_iload_n hx hb dX7_take_37 rfl (lv_at hl 3 rfl) ?_
          have hPc := hP.sub (ws' := []) [] rfl
          have hDc := hD.sub (ws' := []) [] (by decide) rfl
          have hFc := va_free (wc := []) hD hS hA [] rfl
          have kzz_475 : (1 : Int32).toInt = 1 := by decide
          refine va_csi (va_runS (As := [.int a1, .int 1]) (rest := []) ⟨hx, hb, hml, hown, hts⟩ (k_X7_notch_P l D c ts H.size a1 i_a1 hi_a1 1 1 (by decide) (by omega) (by omega)) (cwS 2 hts gX7_take_X7_notch rfl rfl rfl ⟨rfl, hdX7_notch⟩ ⟨(show 1 + 1 ≤ 2 by decide), (show 8 + (2 + 11) + 20 ≤ 43 by decide)⟩) ⟨Pre0.blind, Pre0.at hPc hDc hAm hSt hS hFc⟩ rfl rfl hl.1 rfl (lv_room (Nat.le_of_ble_eq_true rfl)) dX7_take_38 ⟨(show 0 + 0 ≤ 0 by decide), (show 0 + 0 ≤ 0 by decide)⟩) (fun r_477 hw_476 => ?_)
          have nf_478 := hw_476.2.2.1 rfl
          have nf_479 := hw_476.1
          clear hw_476
          have rg_r_477 := i32r r_477
          refine lv_istore (lv' := [(4, .int r_477), (0, .ref A_self), (1, .int a1), (2, .int L2), (3, .int 1)]) hx hb dX7_take_41 hl (by decide) rfl (fun ls hl => ?_)
          refine lv_aload_n hx hb dX7_take_43 rfl (lv_at hl 1 rfl) ?_
          refine va_get (D := D) (ci := 7) (v := .ref (q 55)) (C := RX7) (T := TX7) (N := 56) hx hb hts (fun _ h => List.mem_cons_of_mem _ (List.mem_append_right _ h)) hown hK hP 0 rfl rfl 55 (by decide) (hts (.fieldLink RX7 118 "CrownTableModel" "cloth" "[I") (mem_i 2 rfl)) (fun _ h9 => h9) rfl dX7_take_44 ?_
          refine lv_iload_n hx hb dX7_take_47 rfl (lv_at hl 4 rfl) ?_
          refine va_iald hx hb hK hP 1 1 rfl rfl (vin (a := 1) (by decide) (by decide) (by decide)) dX7_take_48 ?_
          refine lv_topi (fun x_480 ex_480 => ?_)
          have lf_481 : (M_cloth 1).toInt = x_480.toInt := by rw [ex_480]; rfl
          refine lv_iload hx hb dX7_take_49 (lv_at hl 0 rfl) ?_
          refine iicmp_ge (a := x_480.toInt) (b := r_477.toInt) (tgt := 119) hx hb rfl rfl dX7_take_51 (by decide) (fun k_482 => ?_) (fun k_482 => ?_)
          · skip
            refine lv_aload_n hx hb dX7_take_119 rfl (lv_at hl 1 rfl) ?_
            refine va_get (D := D) (ci := 7) (v := .ref (q 55)) (C := RX7) (T := TX7) (N := 56) hx hb hts (fun _ h => List.mem_cons_of_mem _ (List.mem_append_right _ h)) hown hK hP 0 rfl rfl 55 (by decide) (hts (.fieldLink RX7 118 "CrownTableModel" "cloth" "[I") (mem_i 2 rfl)) (fun _ h9 => h9) rfl dX7_take_120 ?_
            refine lv_iload_n hx hb dX7_take_123 rfl (lv_at hl 4 rfl) ?_
            refine lv_dup2_11 hx hb dX7_take_124 rfl rfl ?_
            refine va_iald hx hb hK hP 1 1 rfl rfl (vin (a := 1) (by decide) (by decide) (by decide)) dX7_take_125 ?_
            refine lv_topi (fun x_483 ex_483 => ?_)
            have lf_484 : (M_cloth 1).toInt = x_483.toInt := by rw [ex_483]; rfl
            refine lv_iload hx hb dX7_take_126 (lv_at hl 0 rfl) ?_
            refine lv_isub hx hb dX7_take_128 ?_
            refine lv_topi (fun x_485 ex_485 => ?_)
            have tx_485 : x_485.toInt = (x_483.toInt - r_477.toInt) := by rw [ex_485]; exact sub_ti (a := x_483.toInt) (b := r_477.toInt) rfl rfl (by omega) (by omega)
            refine va_iast hx hb hK hP hD hS 1 1 rfl rfl (vin (a := 1) (by decide) (by decide) (by decide)) dX7_take_129 (fun H locs hP hD hS => ?_)
            obtain ⟨f_486, ef_486, hP, hD⟩ : ∃ f_486 : Nat → Int32, f_486 = upd M_cloth (1 : Int32).toNatClampNeg x_485 ∧ va_P D vwCl [(A_self, .inr (7, o7 q v w)), (q 55, .inl (c 1, 6, .inl f_486))] H ∧ va_D A [(A_self, .inr (7, o7 q v w)), (q 55, .inl (c 1, 6, .inl f_486))] := ⟨_, rfl, hP, hD⟩
            have cl_487 : (f_486 0).toInt = (M_cloth 0).toInt := by rw [ef_486]; rfl
            have cl_488 : (f_486 1).toInt = x_485.toInt := by rw [ef_486]; rfl
            have cl_489 : (f_486 2).toInt = (M_cloth 2).toInt := by rw [ef_486]; rfl
            have cl_490 : (f_486 3).toInt = (M_cloth 3).toInt := by rw [ef_486]; rfl
            have cl_491 : (f_486 4).toInt = (M_cloth 4).toInt := by rw [ef_486]; rfl
            have cl_492 : (f_486 5).toInt = (M_cloth 5).toInt := by rw [ef_486]; rfl
            refine lv_iinc (v := 2) (lv' := [(3, .int 2), (4, .int r_477), (0, .ref A_self), (1, .int a1), (2, .int L2)]) hx hb dX7_take_130 hl (k := 4) rfl (by decide) (by decide) rfl (fun ls hl => ?_)
            refine lv_goto (tgt := 30) hx hb dX7_take_133 (by decide) ?_
            have kzz_493 : (2 : Int32).toInt = 2 := by decide
            have hl := lv_sub hl [2, 3, 4, 0] rfl
            exact (ih30 ((6 - (2 : Int32).toInt).toNat) (by omega) L2 2 f_486 (by omega) (by omega) (by omega) (by omega) (by omega) (by omega) (by omega) (by omega) (by omega) (by omega) (by omega) (by omega) (by omega) (by omega) rfl _ _ _ hP hD hS hl)
          · skip
            refine lv_iload_n hx hb dX7_take_54 rfl (lv_at hl 4 rfl) ?_
            refine lv_iconst (v := 1) hx hb dX7_take_55 (by decide) ?_
            refine lv_iadd hx hb dX7_take_56 ?_
            refine lk_i (y := 2) (by decide) ?_
            refine lv_istore (lv' := [(5, .int 2), (4, .int r_477), (0, .ref A_self), (1, .int a1), (2, .int L2), (3, .int 1)]) hx hb dX7_take_57 hl (by decide) rfl (fun ls hl => ?_)
            refine lv_aload_n hx hb dX7_take_59 rfl (lv_at hl 2 rfl) ?_
            refine va_get (D := D) (ci := 7) (v := .ref (q 55)) (C := RX7) (T := TX7) (N := 56) hx hb hts (fun _ h => List.mem_cons_of_mem _ (List.mem_append_right _ h)) hown hK hP 0 rfl rfl 55 (by decide) (hts (.fieldLink RX7 118 "CrownTableModel" "cloth" "[I") (mem_i 2 rfl)) (fun _ h9 => h9) rfl dX7_take_60 ?_
            refine lv_iload hx hb dX7_take_63 (lv_at hl 0 rfl) ?_
            refine va_iald hx hb hK hP 1 1 rfl rfl (vin (a := 2) (by decide) (by decide) (by decide)) dX7_take_65 ?_
            refine lv_topi (fun x_494 ex_494 => ?_)
            have lf_495 : (M_cloth 2).toInt = x_494.toInt := by rw [ex_494]; rfl
            refine iif_ne (a := x_494.toInt) (tgt := 75) hx hb rfl dX7_take_66 (by decide) (fun k_496 => ?_) (fun k_496 => ?_)
            · skip
              refine lv_iload hx hb dX7_take_75 (lv_at hl 0 rfl) ?_
              refine lv_iload_n hx hb dX7_take_77 rfl (lv_at hl 5 rfl) ?_
              refine iicmp_leF (a := 2) (b := 1) (tgt := 116) hx hb (by decide) (by decide) dX7_take_78 (by decide) (by decide) ?_
              refine lv_aload_n hx hb dX7_take_81 rfl (lv_at hl 2 rfl) ?_
              refine va_get (D := D) (ci := 7) (v := .ref (q 55)) (C := RX7) (T := TX7) (N := 56) hx hb hts (fun _ h => List.mem_cons_of_mem _ (List.mem_append_right _ h)) hown hK hP 0 rfl rfl 55 (by decide) (hts (.fieldLink RX7 118 "CrownTableModel" "cloth" "[I") (mem_i 2 rfl)) (fun _ h9 => h9) rfl dX7_take_82 ?_
              refine lv_iload hx hb dX7_take_85 (lv_at hl 0 rfl) ?_
              refine lv_dup2_11 hx hb dX7_take_87 rfl rfl ?_
              refine va_iald hx hb hK hP 1 1 rfl rfl (vin (a := 2) (by decide) (by decide) (by decide)) dX7_take_88 ?_
              refine lv_topi (fun x_497 ex_497 => ?_)
              have lf_498 : (M_cloth 2).toInt = x_497.toInt := by rw [ex_497]; rfl
              refine lv_iconst (v := 1) hx hb dX7_take_89 (by decide) ?_
              refine lv_isub hx hb dX7_take_90 ?_
              refine lv_topi (fun x_499 ex_499 => ?_)
              have tx_499 : x_499.toInt = (x_497.toInt - 1) := by rw [ex_499]; exact sub_ti (a := x_497.toInt) (b := 1) rfl (by decide) (by omega) (by omega)
              refine va_iast hx hb hK hP hD hS 1 1 rfl rfl (vin (a := 2) (by decide) (by decide) (by decide)) dX7_take_91 (fun H locs hP hD hS => ?_)
              obtain ⟨f_500, ef_500, hP, hD⟩ : ∃ f_500 : Nat → Int32, f_500 = upd M_cloth (2 : Int32).toNatClampNeg x_499 ∧ va_P D vwCl [(A_self, .inr (7, o7 q v w)), (q 55, .inl (c 1, 6, .inl f_500))] H ∧ va_D A [(A_self, .inr (7, o7 q v w)), (q 55, .inl (c 1, 6, .inl f_500))] := ⟨_, rfl, hP, hD⟩
              have cl_501 : (f_500 0).toInt = (M_cloth 0).toInt := by rw [ef_500]; rfl
              have cl_502 : (f_500 1).toInt = (M_cloth 1).toInt := by rw [ef_500]; rfl
              have cl_503 : (f_500 2).toInt = x_499.toInt := by rw [ef_500]; rfl
              have cl_504 : (f_500 3).toInt = (M_cloth 3).toInt := by rw [ef_500]; rfl
              have cl_505 : (f_500 4).toInt = (M_cloth 4).toInt := by rw [ef_500]; rfl
              have cl_506 : (f_500 5).toInt = (M_cloth 5).toInt := by rw [ef_500]; rfl
              refine lv_iinc (v := 1) (lv' := [(5, .int 1), (4, .int r_477), (0, .ref A_self), (1, .int a1), (2, .int L2), (3, .int 1)]) hx hb dX7_take_92 hl (k := 0) rfl (by decide) (by decide) rfl (fun ls hl => ?_)
              refine lv_aload_n hx hb dX7_take_95 rfl (lv_at hl 2 rfl) ?_
              refine va_get (D := D) (ci := 7) (v := .ref (q 55)) (C := RX7) (T := TX7) (N := 56) hx hb hts (fun _ h => List.mem_cons_of_mem _ (List.mem_append_right _ h)) hown hK hP 0 rfl rfl 55 (by decide) (hts (.fieldLink RX7 118 "CrownTableModel" "cloth" "[I") (mem_i 2 rfl)) (fun _ h9 => h9) rfl dX7_take_96 ?_
              refine lv_iload hx hb dX7_take_99 (lv_at hl 0 rfl) ?_
              refine lv_dup2_11 hx hb dX7_take_101 rfl rfl ?_
              refine va_iald hx hb hK hP 1 1 rfl rfl (vin (a := 1) (by decide) (by decide) (by decide)) dX7_take_102 ?_
              refine lv_topi (fun x_507 ex_507 => ?_)
              have lf_508 : (f_500 1).toInt = x_507.toInt := by rw [ex_507]; rfl
              refine lv_iload hx hb dX7_take_103 (lv_at hl 0 rfl) ?_
              have hPc := hP.sub (ws' := []) [] rfl
              have hDc := hD.sub (ws' := []) [] (by decide) rfl
              have hFc := va_free (wc := []) hD hS hA [] rfl
              have kzz_509 : (1 : Int32).toInt = 1 := by decide
              refine va_csi (va_runS (As := [.int 1]) (rest := [.int x_507, .int 1, .ref (q 55)]) ⟨hx, hb, hml, hown, hts⟩ (k_X7_next l D c ts H.size 1 1 (by decide) (by omega)) (cwS 1 hts gX7_take_X7_next rfl rfl rfl ⟨rfl, hdX7_next⟩ ⟨(show 1 + 1 ≤ 2 by decide), (show 8 + (1 + 11) + 20 ≤ 43 by decide)⟩) ⟨Pre0.blind, Pre0.at hPc hDc hAm hSt hS hFc⟩ rfl rfl hl.1 rfl (lv_room (Nat.le_of_ble_eq_true rfl)) dX7_take_105 ⟨(show 0 + 0 ≤ 0 by decide), (show 0 + 0 ≤ 0 by decide)⟩) (fun r_511 hw_510 => ?_)
              rcases hw_510 with ⟨hw_510, rfl⟩ | ⟨hw_510, rfl⟩ | ⟨hw_510, rfl⟩ | ⟨hw_510, rfl⟩
              · exfalso; omega
              · skip
                refine lv_iadd hx hb dX7_take_108 ?_
                refine lv_topi (fun x_512 ex_512 => ?_)
                have tx_512 : x_512.toInt = (x_507.toInt + 20) := by rw [ex_512]; exact add_ti (a := x_507.toInt) (b := 20) rfl (by decide) (by omega) (by omega)
                refine va_iast hx hb hK hP hD hS 1 1 rfl rfl (vin (a := 1) (by decide) (by decide) (by decide)) dX7_take_109 (fun H locs hP hD hS => ?_)
                obtain ⟨f_513, ef_513, hP, hD⟩ : ∃ f_513 : Nat → Int32, f_513 = upd f_500 (1 : Int32).toNatClampNeg x_512 ∧ va_P D vwCl [(A_self, .inr (7, o7 q v w)), (q 55, .inl (c 1, 6, .inl f_513))] H ∧ va_D A [(A_self, .inr (7, o7 q v w)), (q 55, .inl (c 1, 6, .inl f_513))] := ⟨_, rfl, hP, hD⟩
                have cl_514 : (f_513 0).toInt = (f_500 0).toInt := by rw [ef_513]; rfl
                have cl_515 : (f_513 1).toInt = x_512.toInt := by rw [ef_513]; rfl
                have cl_516 : (f_513 2).toInt = (f_500 2).toInt := by rw [ef_513]; rfl
                have cl_517 : (f_513 3).toInt = (f_500 3).toInt := by rw [ef_513]; rfl
                have cl_518 : (f_513 4).toInt = (f_500 4).toInt := by rw [ef_513]; rfl
                have cl_519 : (f_513 5).toInt = (f_500 5).toInt := by rw [ef_513]; rfl
                obtain ⟨x_520, ex_520⟩ : ∃ y : Int32, y = L2 + 1 := ⟨_, rfl⟩
                refine lv_iinc (v := x_520) (lv' := [(2, .int x_520), (5, .int 1), (4, .int r_477), (0, .ref A_self), (1, .int a1), (3, .int 1)]) hx hb dX7_take_110 hl (k := 4) rfl (by rw [ex_520]; rfl) (by decide) rfl (fun ls hl => ?_)
                refine lv_goto (tgt := 75) hx hb dX7_take_113 (by decide) ?_
                refine lv_iload hx hb dX7_take_75 (lv_at hl 1 rfl) ?_
                refine lv_iload_n hx hb dX7_take_77 rfl (lv_at hl 5 rfl) ?_
                refine iicmp_leT (a := 1) (b := 1) (tgt := 116) hx hb (by decide) (by decide) dX7_take_78 (by decide) (by decide) ?_
                refine lv_goto (tgt := 43) hx hb dX7_take_116 (by decide) ?_
                refine lv_aload_n hx hb dX7_take_43 rfl (lv_at hl 3 rfl) ?_
                refine va_get (D := D) (ci := 7) (v := .ref (q 55)) (C := RX7) (T := TX7) (N := 56) hx hb hts (fun _ h => List.mem_cons_of_mem _ (List.mem_append_right _ h)) hown hK hP 0 rfl rfl 55 (by decide) (hts (.fieldLink RX7 118 "CrownTableModel" "cloth" "[I") (mem_i 2 rfl)) (fun _ h9 => h9) rfl dX7_take_44 ?_
                refine lv_iload_n hx hb dX7_take_47 rfl (lv_at hl 5 rfl) ?_
                refine va_iald hx hb hK hP 1 1 rfl rfl (vin (a := 1) (by decide) (by decide) (by decide)) dX7_take_48 ?_
                refine lv_topi (fun x_521 ex_521 => ?_)
                have lf_522 : (f_513 1).toInt = x_521.toInt := by rw [ex_521]; rfl
                refine lv_iload hx hb dX7_take_49 (lv_at hl 2 rfl) ?_
                refine iicmp_ge (a := x_521.toInt) (b := r_477.toInt) (tgt := 119) hx hb rfl rfl dX7_take_51 (by decide) (fun k_523 => ?_) (fun k_523 => ?_)
                · skip
                  refine lv_aload_n hx hb dX7_take_119 rfl (lv_at hl 3 rfl) ?_
                  refine va_get (D := D) (ci := 7) (v := .ref (q 55)) (C := RX7) (T := TX7) (N := 56) hx hb hts (fun _ h => List.mem_cons_of_mem _ (List.mem_append_right _ h)) hown hK hP 0 rfl rfl 55 (by decide) (hts (.fieldLink RX7 118 "CrownTableModel" "cloth" "[I") (mem_i 2 rfl)) (fun _ h9 => h9) rfl dX7_take_120 ?_
                  refine lv_iload_n hx hb dX7_take_123 rfl (lv_at hl 5 rfl) ?_
                  refine lv_dup2_11 hx hb dX7_take_124 rfl rfl ?_
                  refine va_iald hx hb hK hP 1 1 rfl rfl (vin (a := 1) (by decide) (by decide) (by decide)) dX7_take_125 ?_
                  refine lv_topi (fun x_524 ex_524 => ?_)
                  have lf_525 : (f_513 1).toInt = x_524.toInt := by rw [ex_524]; rfl
                  refine lv_iload hx hb dX7_take_126 (lv_at hl 2 rfl) ?_
                  refine lv_isub hx hb dX7_take_128 ?_
                  refine lv_topi (fun x_526 ex_526 => ?_)
                  have tx_526 : x_526.toInt = (x_524.toInt - r_477.toInt) := by rw [ex_526]; exact sub_ti (a := x_524.toInt) (b := r_477.toInt) rfl rfl (by omega) (by omega)
                  refine va_iast hx hb hK hP hD hS 1 1 rfl rfl (vin (a := 1) (by decide) (by decide) (by decide)) dX7_take_129 (fun H locs hP hD hS => ?_)
                  obtain ⟨f_527, ef_527, hP, hD⟩ : ∃ f_527 : Nat → Int32, f_527 = upd f_513 (1 : Int32).toNatClampNeg x_526 ∧ va_P D vwCl [(A_self, .inr (7, o7 q v w)), (q 55, .inl (c 1, 6, .inl f_527))] H ∧ va_D A [(A_self, .inr (7, o7 q v w)), (q 55, .inl (c 1, 6, .inl f_527))] := ⟨_, rfl, hP, hD⟩
                  have cl_528 : (f_527 0).toInt = (f_513 0).toInt := by rw [ef_527]; rfl
                  have cl_529 : (f_527 1).toInt = x_526.toInt := by rw [ef_527]; rfl
                  have cl_530 : (f_527 2).toInt = (f_513 2).toInt := by rw [ef_527]; rfl
                  have cl_531 : (f_527 3).toInt = (f_513 3).toInt := by rw [ef_527]; rfl
                  have cl_532 : (f_527 4).toInt = (f_513 4).toInt := by rw [ef_527]; rfl
                  have cl_533 : (f_527 5).toInt = (f_513 5).toInt := by rw [ef_527]; rfl
                  refine lv_iinc (v := 2) (lv' := [(3, .int 2), (2, .int x_520), (5, .int 1), (4, .int r_477), (0, .ref A_self), (1, .int a1)]) hx hb dX7_take_130 hl (k := 5) rfl (by decide) (by decide) rfl (fun ls hl => ?_)
                  refine lv_goto (tgt := 30) hx hb dX7_take_133 (by decide) ?_
                  have kzz_534 : (2 : Int32).toInt = 2 := by decide
                  have hl := lv_sub hl [4, 5, 1, 0] rfl
                  exact (ih30 ((6 - (2 : Int32).toInt).toNat) (by omega) x_520 2 f_527 (by omega) (by omega) (by omega) (by omega) (by omega) (by omega) (by omega) (by omega) (by omega) (by omega) (by omega) (by omega) (by omega) (by omega) rfl _ _ _ hP hD hS hl)
                · skip
                  exfalso; omega
              · exfalso; omega
              · exfalso; omega
            · skip
              refine lv_iinc (v := 3) (lv' := [(5, .int 3), (4, .int r_477), (0, .ref A_self), (1, .int a1), (2, .int L2), (3, .int 1)]) hx hb dX7_take_69 hl (k := 0) rfl (by decide) (by decide) rfl (fun ls hl => ?_)
              refine lv_goto (tgt := 59) hx hb dX7_take_72 (by decide) ?_
              refine lv_aload_n hx hb dX7_take_59 rfl (lv_at hl 2 rfl) ?_
              refine va_get (D := D) (ci := 7) (v := .ref (q 55)) (C := RX7) (T := TX7) (N := 56) hx hb hts (fun _ h => List.mem_cons_of_mem _ (List.mem_append_right _ h)) hown hK hP 0 rfl rfl 55 (by decide) (hts (.fieldLink RX7 118 "CrownTableModel" "cloth" "[I") (mem_i 2 rfl)) (fun _ h9 => h9) rfl dX7_take_60 ?_
              refine lv_iload hx hb dX7_take_63 (lv_at hl 0 rfl) ?_
              refine va_iald hx hb hK hP 1 1 rfl rfl (vin (a := 3) (by decide) (by decide) (by decide)) dX7_take_65 ?_
              refine lv_topi (fun x_535 ex_535 => ?_)
              have lf_536 : (M_cloth 3).toInt = x_535.toInt := by rw [ex_535]; rfl
              refine iif_ne (a := x_535.toInt) (tgt := 75) hx hb rfl dX7_take_66 (by decide) (fun k_537 => ?_) (fun k_537 => ?_)
              · skip
                refine lv_iload hx hb dX7_take_75 (lv_at hl 0 rfl) ?_
                refine lv_iload_n hx hb dX7_take_77 rfl (lv_at hl 5 rfl) ?_
                refine iicmp_leF (a := 3) (b := 1) (tgt := 116) hx hb (by decide) (by decide) dX7_take_78 (by decide) (by decide) ?_
                refine lv_aload_n hx hb dX7_take_81 rfl (lv_at hl 2 rfl) ?_
                refine va_get (D := D) (ci := 7) (v := .ref (q 55)) (C := RX7) (T := TX7) (N := 56) hx hb hts (fun _ h => List.mem_cons_of_mem _ (List.mem_append_right _ h)) hown hK hP 0 rfl rfl 55 (by decide) (hts (.fieldLink RX7 118 "CrownTableModel" "cloth" "[I") (mem_i 2 rfl)) (fun _ h9 => h9) rfl dX7_take_82 ?_
                refine lv_iload hx hb dX7_take_85 (lv_at hl 0 rfl) ?_
                refine lv_dup2_11 hx hb dX7_take_87 rfl rfl ?_
                refine va_iald hx hb hK hP 1 1 rfl rfl (vin (a := 3) (by decide) (by decide) (by decide)) dX7_take_88 ?_
                refine lv_topi (fun x_538 ex_538 => ?_)
                have lf_539 : (M_cloth 3).toInt = x_538.toInt := by rw [ex_538]; rfl
                refine lv_iconst (v := 1) hx hb dX7_take_89 (by decide) ?_
                refine lv_isub hx hb dX7_take_90 ?_
                refine lv_topi (fun x_540 ex_540 => ?_)
                have tx_540 : x_540.toInt = (x_538.toInt - 1) := by rw [ex_540]; exact sub_ti (a := x_538.toInt) (b := 1) rfl (by decide) (by omega) (by omega)
                refine va_iast hx hb hK hP hD hS 1 1 rfl rfl (vin (a := 3) (by decide) (by decide) (by decide)) dX7_take_91 (fun H locs hP hD hS => ?_)
                obtain ⟨f_541, ef_541, hP, hD⟩ : ∃ f_541 : Nat → Int32, f_541 = upd M_cloth (3 : Int32).toNatClampNeg x_540 ∧ va_P D vwCl [(A_self, .inr (7, o7 q v w)), (q 55, .inl (c 1, 6, .inl f_541))] H ∧ va_D A [(A_self, .inr (7, o7 q v w)), (q 55, .inl (c 1, 6, .inl f_541))] := ⟨_, rfl, hP, hD⟩
                have cl_542 : (f_541 0).toInt = (M_cloth 0).toInt := by rw [ef_541]; rfl
                have cl_543 : (f_541 1).toInt = (M_cloth 1).toInt := by rw [ef_541]; rfl
                have cl_544 : (f_541 2).toInt = (M_cloth 2).toInt := by rw [ef_541]; rfl
                have cl_545 : (f_541 3).toInt = x_540.toInt := by rw [ef_541]; rfl
                have cl_546 : (f_541 4).toInt = (M_cloth 4).toInt := by rw [ef_541]; rfl
                have cl_547 : (f_541 5).toInt = (M_cloth 5).toInt := by rw [ef_541]; rfl
                refine lv_iinc (v := 2) (lv' := [(5, .int 2), (4, .int r_477), (0, .ref A_self), (1, .int a1), (2, .int L2), (3, .int 1)]) hx hb dX7_take_92 hl (k := 0) rfl (by decide) (by decide) rfl (fun ls hl => ?_)
                refine lv_aload_n hx hb dX7_take_95 rfl (lv_at hl 2 rfl) ?_
                refine va_get (D := D) (ci := 7) (v := .ref (q 55)) (C := RX7) (T := TX7) (N := 56) hx hb hts (fun _ h => List.mem_cons_of_mem _ (List.mem_append_right _ h)) hown hK hP 0 rfl rfl 55 (by decide) (hts (.fieldLink RX7 118 "CrownTableModel" "cloth" "[I") (mem_i 2 rfl)) (fun _ h9 => h9) rfl dX7_take_96 ?_
                refine lv_iload hx hb dX7_take_99 (lv_at hl 0 rfl) ?_
                refine lv_dup2_11 hx hb dX7_take_101 rfl rfl ?_
                refine va_iald hx hb hK hP 1 1 rfl rfl (vin (a := 2) (by decide) (by decide) (by decide)) dX7_take_102 ?_
                refine lv_topi (fun x_548 ex_548 => ?_)
                have lf_549 : (f_541 2).toInt = x_548.toInt := by rw [ex_548]; rfl
                refine lv_iload hx hb dX7_take_103 (lv_at hl 0 rfl) ?_
                have hPc := hP.sub (ws' := []) [] rfl
                have hDc := hD.sub (ws' := []) [] (by decide) rfl
                have hFc := va_free (wc := []) hD hS hA [] rfl
                have kzz_550 : (2 : Int32).toInt = 2 := by decide
                refine va_csi (va_runS (As := [.int 2]) (rest := [.int x_548, .int 2, .ref (q 55)]) ⟨hx, hb, hml, hown, hts⟩ (k_X7_next l D c ts H.size 2 2 (by decide) (by omega)) (cwS 1 hts gX7_take_X7_next rfl rfl rfl ⟨rfl, hdX7_next⟩ ⟨(show 1 + 1 ≤ 2 by decide), (show 8 + (1 + 11) + 20 ≤ 43 by decide)⟩) ⟨Pre0.blind, Pre0.at hPc hDc hAm hSt hS hFc⟩ rfl rfl hl.1 rfl (lv_room (Nat.le_of_ble_eq_true rfl)) dX7_take_105 ⟨(show 0 + 0 ≤ 0 by decide), (show 0 + 0 ≤ 0 by decide)⟩) (fun r_552 hw_551 => ?_)
                rcases hw_551 with ⟨hw_551, rfl⟩ | ⟨hw_551, rfl⟩ | ⟨hw_551, rfl⟩ | ⟨hw_551, rfl⟩
                · exfalso; omega
                · skip
                  refine lv_iadd hx hb dX7_take_108 ?_
                  refine lv_topi (fun x_553 ex_553 => ?_)
                  have tx_553 : x_553.toInt = (x_548.toInt + 20) := by rw [ex_553]; exact add_ti (a := x_548.toInt) (b := 20) rfl (by decide) (by omega) (by omega)
                  refine va_iast hx hb hK hP hD hS 1 1 rfl rfl (vin (a := 2) (by decide) (by decide) (by decide)) dX7_take_109 (fun H locs hP hD hS => ?_)
                  obtain ⟨f_554, ef_554, hP, hD⟩ : ∃ f_554 : Nat → Int32, f_554 = upd f_541 (2 : Int32).toNatClampNeg x_553 ∧ va_P D vwCl [(A_self, .inr (7, o7 q v w)), (q 55, .inl (c 1, 6, .inl f_554))] H ∧ va_D A [(A_self, .inr (7, o7 q v w)), (q 55, .inl (c 1, 6, .inl f_554))] := ⟨_, rfl, hP, hD⟩
                  have cl_555 : (f_554 0).toInt = (f_541 0).toInt := by rw [ef_554]; rfl
                  have cl_556 : (f_554 1).toInt = (f_541 1).toInt := by rw [ef_554]; rfl
                  have cl_557 : (f_554 2).toInt = x_553.toInt := by rw [ef_554]; rfl
                  have cl_558 : (f_554 3).toInt = (f_541 3).toInt := by rw [ef_554]; rfl
                  have cl_559 : (f_554 4).toInt = (f_541 4).toInt := by rw [ef_554]; rfl
                  have cl_560 : (f_554 5).toInt = (f_541 5).toInt := by rw [ef_554]; rfl
                  obtain ⟨x_561, ex_561⟩ : ∃ y : Int32, y = L2 + 1 := ⟨_, rfl⟩
                  refine lv_iinc (v := x_561) (lv' := [(2, .int x_561), (5, .int 2), (4, .int r_477), (0, .ref A_self), (1, .int a1), (3, .int 1)]) hx hb dX7_take_110 hl (k := 4) rfl (by rw [ex_561]; rfl) (by decide) rfl (fun ls hl => ?_)
                  refine lv_goto (tgt := 75) hx hb dX7_take_113 (by decide) ?_
                  refine lv_iload hx hb dX7_take_75 (lv_at hl 1 rfl) ?_
                  refine lv_iload_n hx hb dX7_take_77 rfl (lv_at hl 5 rfl) ?_
                  refine iicmp_leF (a := 2) (b := 1) (tgt := 116) hx hb (by decide) (by decide) dX7_take_78 (by decide) (by decide) ?_
                  refine lv_aload_n hx hb dX7_take_81 rfl (lv_at hl 3 rfl) ?_
                  refine va_get (D := D) (ci := 7) (v := .ref (q 55)) (C := RX7) (T := TX7) (N := 56) hx hb hts (fun _ h => List.mem_cons_of_mem _ (List.mem_append_right _ h)) hown hK hP 0 rfl rfl 55 (by decide) (hts (.fieldLink RX7 118 "CrownTableModel" "cloth" "[I") (mem_i 2 rfl)) (fun _ h9 => h9) rfl dX7_take_82 ?_
                  refine lv_iload hx hb dX7_take_85 (lv_at hl 1 rfl) ?_
                  refine lv_dup2_11 hx hb dX7_take_87 rfl rfl ?_
                  refine va_iald hx hb hK hP 1 1 rfl rfl (vin (a := 2) (by decide) (by decide) (by decide)) dX7_take_88 ?_
                  refine lv_topi (fun x_562 ex_562 => ?_)
                  have lf_563 : (f_554 2).toInt = x_562.toInt := by rw [ex_562]; rfl
                  refine lv_iconst (v := 1) hx hb dX7_take_89 (by decide) ?_
                  refine lv_isub hx hb dX7_take_90 ?_
                  refine lv_topi (fun x_564 ex_564 => ?_)
                  have tx_564 : x_564.toInt = (x_562.toInt - 1) := by rw [ex_564]; exact sub_ti (a := x_562.toInt) (b := 1) rfl (by decide) (by omega) (by omega)
                  refine va_iast hx hb hK hP hD hS 1 1 rfl rfl (vin (a := 2) (by decide) (by decide) (by decide)) dX7_take_91 (fun H locs hP hD hS => ?_)
                  obtain ⟨f_565, ef_565, hP, hD⟩ : ∃ f_565 : Nat → Int32, f_565 = upd f_554 (2 : Int32).toNatClampNeg x_564 ∧ va_P D vwCl [(A_self, .inr (7, o7 q v w)), (q 55, .inl (c 1, 6, .inl f_565))] H ∧ va_D A [(A_self, .inr (7, o7 q v w)), (q 55, .inl (c 1, 6, .inl f_565))] := ⟨_, rfl, hP, hD⟩
                  have cl_566 : (f_565 0).toInt = (f_554 0).toInt := by rw [ef_565]; rfl
                  have cl_567 : (f_565 1).toInt = (f_554 1).toInt := by rw [ef_565]; rfl
                  have cl_568 : (f_565 2).toInt = x_564.toInt := by rw [ef_565]; rfl
                  have cl_569 : (f_565 3).toInt = (f_554 3).toInt := by rw [ef_565]; rfl
                  have cl_570 : (f_565 4).toInt = (f_554 4).toInt := by rw [ef_565]; rfl
                  have cl_571 : (f_565 5).toInt = (f_554 5).toInt := by rw [ef_565]; rfl
                  refine lv_iinc (v := 1) (lv' := [(5, .int 1), (2, .int x_561), (4, .int r_477), (0, .ref A_self), (1, .int a1), (3, .int 1)]) hx hb dX7_take_92 hl (k := 1) rfl (by decide) (by decide) rfl (fun ls hl => ?_)
                  refine lv_aload_n hx hb dX7_take_95 rfl (lv_at hl 3 rfl) ?_
                  refine va_get (D := D) (ci := 7) (v := .ref (q 55)) (C := RX7) (T := TX7) (N := 56) hx hb hts (fun _ h => List.mem_cons_of_mem _ (List.mem_append_right _ h)) hown hK hP 0 rfl rfl 55 (by decide) (hts (.fieldLink RX7 118 "CrownTableModel" "cloth" "[I") (mem_i 2 rfl)) (fun _ h9 => h9) rfl dX7_take_96 ?_
                  refine lv_iload hx hb dX7_take_99 (lv_at hl 0 rfl) ?_
                  refine lv_dup2_11 hx hb dX7_take_101 rfl rfl ?_
                  refine va_iald hx hb hK hP 1 1 rfl rfl (vin (a := 1) (by decide) (by decide) (by decide)) dX7_take_102 ?_
                  refine lv_topi (fun x_572 ex_572 => ?_)
                  have lf_573 : (f_565 1).toInt = x_572.toInt := by rw [ex_572]; rfl
                  refine lv_iload hx hb dX7_take_103 (lv_at hl 0 rfl) ?_
                  have hPc := hP.sub (ws' := []) [] rfl
                  have hDc := hD.sub (ws' := []) [] (by decide) rfl
                  have hFc := va_free (wc := []) hD hS hA [] rfl
                  have kzz_574 : (1 : Int32).toInt = 1 := by decide
                  refine va_csi (va_runS (As := [.int 1]) (rest := [.int x_572, .int 1, .ref (q 55)]) ⟨hx, hb, hml, hown, hts⟩ (k_X7_next l D c ts H.size 1 1 (by decide) (by omega)) (cwS 1 hts gX7_take_X7_next rfl rfl rfl ⟨rfl, hdX7_next⟩ ⟨(show 1 + 1 ≤ 2 by decide), (show 8 + (1 + 11) + 20 ≤ 43 by decide)⟩) ⟨Pre0.blind, Pre0.at hPc hDc hAm hSt hS hFc⟩ rfl rfl hl.1 rfl (lv_room (Nat.le_of_ble_eq_true rfl)) dX7_take_105 ⟨(show 0 + 0 ≤ 0 by decide), (show 0 + 0 ≤ 0 by decide)⟩) (fun r_576 hw_575 => ?_)
                  rcases hw_575 with ⟨hw_575, rfl⟩ | ⟨hw_575, rfl⟩ | ⟨hw_575, rfl⟩ | ⟨hw_575, rfl⟩
                  · exfalso; omega
                  · skip
                    refine lv_iadd hx hb dX7_take_108 ?_
                    refine lv_topi (fun x_577 ex_577 => ?_)
                    have tx_577 : x_577.toInt = (x_572.toInt + 20) := by rw [ex_577]; exact add_ti (a := x_572.toInt) (b := 20) rfl (by decide) (by omega) (by omega)
                    refine va_iast hx hb hK hP hD hS 1 1 rfl rfl (vin (a := 1) (by decide) (by decide) (by decide)) dX7_take_109 (fun H locs hP hD hS => ?_)
                    obtain ⟨f_578, ef_578, hP, hD⟩ : ∃ f_578 : Nat → Int32, f_578 = upd f_565 (1 : Int32).toNatClampNeg x_577 ∧ va_P D vwCl [(A_self, .inr (7, o7 q v w)), (q 55, .inl (c 1, 6, .inl f_578))] H ∧ va_D A [(A_self, .inr (7, o7 q v w)), (q 55, .inl (c 1, 6, .inl f_578))] := ⟨_, rfl, hP, hD⟩
                    have cl_579 : (f_578 0).toInt = (f_565 0).toInt := by rw [ef_578]; rfl
                    have cl_580 : (f_578 1).toInt = x_577.toInt := by rw [ef_578]; rfl
                    have cl_581 : (f_578 2).toInt = (f_565 2).toInt := by rw [ef_578]; rfl
                    have cl_582 : (f_578 3).toInt = (f_565 3).toInt := by rw [ef_578]; rfl
                    have cl_583 : (f_578 4).toInt = (f_565 4).toInt := by rw [ef_578]; rfl
                    have cl_584 : (f_578 5).toInt = (f_565 5).toInt := by rw [ef_578]; rfl
                    obtain ⟨x_585, ex_585⟩ : ∃ y : Int32, y = x_561 + 1 := ⟨_, rfl⟩
                    refine lv_iinc (v := x_585) (lv' := [(2, .int x_585), (5, .int 1), (4, .int r_477), (0, .ref A_self), (1, .int a1), (3, .int 1)]) hx hb dX7_take_110 hl (k := 1) rfl (by rw [ex_585]; rfl) (by decide) rfl (fun ls hl => ?_)
                    refine lv_goto (tgt := 75) hx hb dX7_take_113 (by decide) ?_
                    refine lv_iload hx hb dX7_take_75 (lv_at hl 1 rfl) ?_
                    refine lv_iload_n hx hb dX7_take_77 rfl (lv_at hl 5 rfl) ?_
                    refine iicmp_leT (a := 1) (b := 1) (tgt := 116) hx hb (by decide) (by decide) dX7_take_78 (by decide) (by decide) ?_
                    refine lv_goto (tgt := 43) hx hb dX7_take_116 (by decide) ?_
                    refine lv_aload_n hx hb dX7_take_43 rfl (lv_at hl 3 rfl) ?_
                    refine va_get (D := D) (ci := 7) (v := .ref (q 55)) (C := RX7) (T := TX7) (N := 56) hx hb hts (fun _ h => List.mem_cons_of_mem _ (List.mem_append_right _ h)) hown hK hP 0 rfl rfl 55 (by decide) (hts (.fieldLink RX7 118 "CrownTableModel" "cloth" "[I") (mem_i 2 rfl)) (fun _ h9 => h9) rfl dX7_take_44 ?_
                    refine lv_iload_n hx hb dX7_take_47 rfl (lv_at hl 5 rfl) ?_
                    refine va_iald hx hb hK hP 1 1 rfl rfl (vin (a := 1) (by decide) (by decide) (by decide)) dX7_take_48 ?_
                    refine lv_topi (fun x_586 ex_586 => ?_)
                    have lf_587 : (f_578 1).toInt = x_586.toInt := by rw [ex_586]; rfl
                    refine lv_iload hx hb dX7_take_49 (lv_at hl 2 rfl) ?_
                    refine iicmp_ge (a := x_586.toInt) (b := r_477.toInt) (tgt := 119) hx hb rfl rfl dX7_take_51 (by decide) (fun k_588 => ?_) (fun k_588 => ?_)
                    · skip
                      refine lv_aload_n hx hb dX7_take_119 rfl (lv_at hl 3 rfl) ?_
                      refine va_get (D := D) (ci := 7) (v := .ref (q 55)) (C := RX7) (T := TX7) (N := 56) hx hb hts (fun _ h => List.mem_cons_of_mem _ (List.mem_append_right _ h)) hown hK hP 0 rfl rfl 55 (by decide) (hts (.fieldLink RX7 118 "CrownTableModel" "cloth" "[I") (mem_i 2 rfl)) (fun _ h9 => h9) rfl dX7_take_120 ?_
                      refine lv_iload_n hx hb dX7_take_123 rfl (lv_at hl 5 rfl) ?_
                      refine lv_dup2_11 hx hb dX7_take_124 rfl rfl ?_
                      refine va_iald hx hb hK hP 1 1 rfl rfl (vin (a := 1) (by decide) (by decide) (by decide)) dX7_take_125 ?_
                      refine lv_topi (fun x_589 ex_589 => ?_)
                      have lf_590 : (f_578 1).toInt = x_589.toInt := by rw [ex_589]; rfl
                      refine lv_iload hx hb dX7_take_126 (lv_at hl 2 rfl) ?_
                      refine lv_isub hx hb dX7_take_128 ?_
                      refine lv_topi (fun x_591 ex_591 => ?_)
                      have tx_591 : x_591.toInt = (x_589.toInt - r_477.toInt) := by rw [ex_591]; exact sub_ti (a := x_589.toInt) (b := r_477.toInt) rfl rfl (by omega) (by omega)
                      refine va_iast hx hb hK hP hD hS 1 1 rfl rfl (vin (a := 1) (by decide) (by decide) (by decide)) dX7_take_129 (fun H locs hP hD hS => ?_)
                      obtain ⟨f_592, ef_592, hP, hD⟩ : ∃ f_592 : Nat → Int32, f_592 = upd f_578 (1 : Int32).toNatClampNeg x_591 ∧ va_P D vwCl [(A_self, .inr (7, o7 q v w)), (q 55, .inl (c 1, 6, .inl f_592))] H ∧ va_D A [(A_self, .inr (7, o7 q v w)), (q 55, .inl (c 1, 6, .inl f_592))] := ⟨_, rfl, hP, hD⟩
                      have cl_593 : (f_592 0).toInt = (f_578 0).toInt := by rw [ef_592]; rfl
                      have cl_594 : (f_592 1).toInt = x_591.toInt := by rw [ef_592]; rfl
                      have cl_595 : (f_592 2).toInt = (f_578 2).toInt := by rw [ef_592]; rfl
                      have cl_596 : (f_592 3).toInt = (f_578 3).toInt := by rw [ef_592]; rfl
                      have cl_597 : (f_592 4).toInt = (f_578 4).toInt := by rw [ef_592]; rfl
                      have cl_598 : (f_592 5).toInt = (f_578 5).toInt := by rw [ef_592]; rfl
                      refine lv_iinc (v := 2) (lv' := [(3, .int 2), (2, .int x_585), (5, .int 1), (4, .int r_477), (0, .ref A_self), (1, .int a1)]) hx hb dX7_take_130 hl (k := 5) rfl (by decide) (by decide) rfl (fun ls hl => ?_)
                      refine lv_goto (tgt := 30) hx hb dX7_take_133 (by decide) ?_
                      have kzz_599 : (2 : Int32).toInt = 2 := by decide
                      have hl := lv_sub hl [4, 5, 1, 0] rfl
                      exact (ih30 ((6 - (2 : Int32).toInt).toNat) (by omega) x_585 2 f_592 (by omega) (by omega) (by omega) (by omega) (by omega) (by omega) (by omega) (by omega) (by omega) (by omega) (by omega) (by omega) (by omega) (by omega) rfl _ _ _ hP hD hS hl)
                    · skip
                      exfalso; omega
                  · exfalso; omega
                  · exfalso; omega
                · exfalso; omega
                · exfalso; omega
              · skip
                refine lv_iinc (v := 4) (lv' := [(5, .int 4), (4, .int r_477), (0, .ref A_self), (1, .int a1), (2, .int L2), (3, .int 1)]) hx hb dX7_take_69 hl (k := 0) rfl (by decide) (by decide) rfl (fun ls hl => ?_)
                refine lv_goto (tgt := 59) hx hb dX7_take_72 (by decide) ?_
                refine lv_aload_n hx hb dX7_take_59 rfl (lv_at hl 2 rfl) ?_
                refine va_get (D := D) (ci := 7) (v := .ref (q 55)) (C := RX7) (T := TX7) (N := 56) hx hb hts (fun _ h => List.mem_cons_of_mem _ (List.mem_append_right _ h)) hown hK hP 0 rfl rfl 55 (by decide) (hts (.fieldLink RX7 118 "CrownTableModel" "cloth" "[I") (mem_i 2 rfl)) (fun _ h9 => h9) rfl dX7_take_60 ?_
                refine lv_iload hx hb dX7_take_63 (lv_at hl 0 rfl) ?_
                refine va_iald hx hb hK hP 1 1 rfl rfl (vin (a := 4) (by decide) (by decide) (by decide)) dX7_take_65 ?_
                refine lv_topi (fun x_600 ex_600 => ?_)
                have lf_601 : (M_cloth 4).toInt = x_600.toInt := by rw [ex_600]; rfl
                refine iif_ne (a := x_600.toInt) (tgt := 75) hx hb rfl dX7_take_66 (by decide) (fun k_602 => ?_) (fun k_602 => ?_)
                · skip
                  refine lv_iload hx hb dX7_take_75 (lv_at hl 0 rfl) ?_
                  refine lv_iload_n hx hb dX7_take_77 rfl (lv_at hl 5 rfl) ?_
                  refine iicmp_leF (a := 4) (b := 1) (tgt := 116) hx hb (by decide) (by decide) dX7_take_78 (by decide) (by decide) ?_
                  refine lv_aload_n hx hb dX7_take_81 rfl (lv_at hl 2 rfl) ?_
                  refine va_get (D := D) (ci := 7) (v := .ref (q 55)) (C := RX7) (T := TX7) (N := 56) hx hb hts (fun _ h => List.mem_cons_of_mem _ (List.mem_append_right _ h)) hown hK hP 0 rfl rfl 55 (by decide) (hts (.fieldLink RX7 118 "CrownTableModel" "cloth" "[I") (mem_i 2 rfl)) (fun _ h9 => h9) rfl dX7_take_82 ?_
                  refine lv_iload hx hb dX7_take_85 (lv_at hl 0 rfl) ?_
                  refine lv_dup2_11 hx hb dX7_take_87 rfl rfl ?_
                  refine va_iald hx hb hK hP 1 1 rfl rfl (vin (a := 4) (by decide) (by decide) (by decide)) dX7_take_88 ?_
                  refine lv_topi (fun x_603 ex_603 => ?_)
                  have lf_604 : (M_cloth 4).toInt = x_603.toInt := by rw [ex_603]; rfl
                  refine lv_iconst (v := 1) hx hb dX7_take_89 (by decide) ?_
                  refine lv_isub hx hb dX7_take_90 ?_
                  refine lv_topi (fun x_605 ex_605 => ?_)
                  have tx_605 : x_605.toInt = (x_603.toInt - 1) := by rw [ex_605]; exact sub_ti (a := x_603.toInt) (b := 1) rfl (by decide) (by omega) (by omega)
                  refine va_iast hx hb hK hP hD hS 1 1 rfl rfl (vin (a := 4) (by decide) (by decide) (by decide)) dX7_take_91 (fun H locs hP hD hS => ?_)
                  obtain ⟨f_606, ef_606, hP, hD⟩ : ∃ f_606 : Nat → Int32, f_606 = upd M_cloth (4 : Int32).toNatClampNeg x_605 ∧ va_P D vwCl [(A_self, .inr (7, o7 q v w)), (q 55, .inl (c 1, 6, .inl f_606))] H ∧ va_D A [(A_self, .inr (7, o7 q v w)), (q 55, .inl (c 1, 6, .inl f_606))] := ⟨_, rfl, hP, hD⟩
                  have cl_607 : (f_606 0).toInt = (M_cloth 0).toInt := by rw [ef_606]; rfl
                  have cl_608 : (f_606 1).toInt = (M_cloth 1).toInt := by rw [ef_606]; rfl
                  have cl_609 : (f_606 2).toInt = (M_cloth 2).toInt := by rw [ef_606]; rfl
                  have cl_610 : (f_606 3).toInt = (M_cloth 3).toInt := by rw [ef_606]; rfl
                  have cl_611 : (f_606 4).toInt = x_605.toInt := by rw [ef_606]; rfl
                  have cl_612 : (f_606 5).toInt = (M_cloth 5).toInt := by rw [ef_606]; rfl
                  refine lv_iinc (v := 3) (lv' := [(5, .int 3), (4, .int r_477), (0, .ref A_self), (1, .int a1), (2, .int L2), (3, .int 1)]) hx hb dX7_take_92 hl (k := 0) rfl (by decide) (by decide) rfl (fun ls hl => ?_)
                  refine lv_aload_n hx hb dX7_take_95 rfl (lv_at hl 2 rfl) ?_
                  refine va_get (D := D) (ci := 7) (v := .ref (q 55)) (C := RX7) (T := TX7) (N := 56) hx hb hts (fun _ h => List.mem_cons_of_mem _ (List.mem_append_right _ h)) hown hK hP 0 rfl rfl 55 (by decide) (hts (.fieldLink RX7 118 "CrownTableModel" "cloth" "[I") (mem_i 2 rfl)) (fun _ h9 => h9) rfl dX7_take_96 ?_
                  refine lv_iload hx hb dX7_take_99 (lv_at hl 0 rfl) ?_
                  refine lv_dup2_11 hx hb dX7_take_101 rfl rfl ?_
                  refine va_iald hx hb hK hP 1 1 rfl rfl (vin (a := 3) (by decide) (by decide) (by decide)) dX7_take_102 ?_
                  refine lv_topi (fun x_613 ex_613 => ?_)
                  have lf_614 : (f_606 3).toInt = x_613.toInt := by rw [ex_613]; rfl
                  refine lv_iload hx hb dX7_take_103 (lv_at hl 0 rfl) ?_
                  have hPc := hP.sub (ws' := []) [] rfl
                  have hDc := hD.sub (ws' := []) [] (by decide) rfl
                  have hFc := va_free (wc := []) hD hS hA [] rfl
                  have kzz_615 : (3 : Int32).toInt = 3 := by decide
                  refine va_csi (va_runS (As := [.int 3]) (rest := [.int x_613, .int 3, .ref (q 55)]) ⟨hx, hb, hml, hown, hts⟩ (k_X7_next l D c ts H.size 3 3 (by decide) (by omega)) (cwS 1 hts gX7_take_X7_next rfl rfl rfl ⟨rfl, hdX7_next⟩ ⟨(show 1 + 1 ≤ 2 by decide), (show 8 + (1 + 11) + 20 ≤ 43 by decide)⟩) ⟨Pre0.blind, Pre0.at hPc hDc hAm hSt hS hFc⟩ rfl rfl hl.1 rfl (lv_room (Nat.le_of_ble_eq_true rfl)) dX7_take_105 ⟨(show 0 + 0 ≤ 0 by decide), (show 0 + 0 ≤ 0 by decide)⟩) (fun r_617 hw_616 => ?_)
                  rcases hw_616 with ⟨hw_616, rfl⟩ | ⟨hw_616, rfl⟩ | ⟨hw_616, rfl⟩ | ⟨hw_616, rfl⟩
                  · exfalso; omega
                  · exfalso; omega
                  · skip
                    refine lv_iadd hx hb dX7_take_108 ?_
                    refine lv_topi (fun x_618 ex_618 => ?_)
                    have tx_618 : x_618.toInt = (x_613.toInt + 5) := by rw [ex_618]; exact add_ti (a := x_613.toInt) (b := 5) rfl (by decide) (by omega) (by omega)
                    refine va_iast hx hb hK hP hD hS 1 1 rfl rfl (vin (a := 3) (by decide) (by decide) (by decide)) dX7_take_109 (fun H locs hP hD hS => ?_)
                    obtain ⟨f_619, ef_619, hP, hD⟩ : ∃ f_619 : Nat → Int32, f_619 = upd f_606 (3 : Int32).toNatClampNeg x_618 ∧ va_P D vwCl [(A_self, .inr (7, o7 q v w)), (q 55, .inl (c 1, 6, .inl f_619))] H ∧ va_D A [(A_self, .inr (7, o7 q v w)), (q 55, .inl (c 1, 6, .inl f_619))] := ⟨_, rfl, hP, hD⟩
                    have cl_620 : (f_619 0).toInt = (f_606 0).toInt := by rw [ef_619]; rfl
                    have cl_621 : (f_619 1).toInt = (f_606 1).toInt := by rw [ef_619]; rfl
                    have cl_622 : (f_619 2).toInt = (f_606 2).toInt := by rw [ef_619]; rfl
                    have cl_623 : (f_619 3).toInt = x_618.toInt := by rw [ef_619]; rfl
                    have cl_624 : (f_619 4).toInt = (f_606 4).toInt := by rw [ef_619]; rfl
                    have cl_625 : (f_619 5).toInt = (f_606 5).toInt := by rw [ef_619]; rfl
                    obtain ⟨x_626, ex_626⟩ : ∃ y : Int32, y = L2 + 1 := ⟨_, rfl⟩
                    refine lv_iinc (v := x_626) (lv' := [(2, .int x_626), (5, .int 3), (4, .int r_477), (0, .ref A_self), (1, .int a1), (3, .int 1)]) hx hb dX7_take_110 hl (k := 4) rfl (by rw [ex_626]; rfl) (by decide) rfl (fun ls hl => ?_)
                    refine lv_goto (tgt := 75) hx hb dX7_take_113 (by decide) ?_
                    refine lv_iload hx hb dX7_take_75 (lv_at hl 1 rfl) ?_
                    refine lv_iload_n hx hb dX7_take_77 rfl (lv_at hl 5 rfl) ?_
                    refine iicmp_leF (a := 3) (b := 1) (tgt := 116) hx hb (by decide) (by decide) dX7_take_78 (by decide) (by decide) ?_
                    refine lv_aload_n hx hb dX7_take_81 rfl (lv_at hl 3 rfl) ?_
                    refine va_get (D := D) (ci := 7) (v := .ref (q 55)) (C := RX7) (T := TX7) (N := 56) hx hb hts (fun _ h => List.mem_cons_of_mem _ (List.mem_append_right _ h)) hown hK hP 0 rfl rfl 55 (by decide) (hts (.fieldLink RX7 118 "CrownTableModel" "cloth" "[I") (mem_i 2 rfl)) (fun _ h9 => h9) rfl dX7_take_82 ?_
                    refine lv_iload hx hb dX7_take_85 (lv_at hl 1 rfl) ?_
                    refine lv_dup2_11 hx hb dX7_take_87 rfl rfl ?_
                    refine va_iald hx hb hK hP 1 1 rfl rfl (vin (a := 3) (by decide) (by decide) (by decide)) dX7_take_88 ?_
                    refine lv_topi (fun x_627 ex_627 => ?_)
                    have lf_628 : (f_619 3).toInt = x_627.toInt := by rw [ex_627]; rfl
                    refine lv_iconst (v := 1) hx hb dX7_take_89 (by decide) ?_
                    refine lv_isub hx hb dX7_take_90 ?_
                    refine lv_topi (fun x_629 ex_629 => ?_)
                    have tx_629 : x_629.toInt = (x_627.toInt - 1) := by rw [ex_629]; exact sub_ti (a := x_627.toInt) (b := 1) rfl (by decide) (by omega) (by omega)
                    refine va_iast hx hb hK hP hD hS 1 1 rfl rfl (vin (a := 3) (by decide) (by decide) (by decide)) dX7_take_91 (fun H locs hP hD hS => ?_)
                    obtain ⟨f_630, ef_630, hP, hD⟩ : ∃ f_630 : Nat → Int32, f_630 = upd f_619 (3 : Int32).toNatClampNeg x_629 ∧ va_P D vwCl [(A_self, .inr (7, o7 q v w)), (q 55, .inl (c 1, 6, .inl f_630))] H ∧ va_D A [(A_self, .inr (7, o7 q v w)), (q 55, .inl (c 1, 6, .inl f_630))] := ⟨_, rfl, hP, hD⟩
                    have cl_631 : (f_630 0).toInt = (f_619 0).toInt := by rw [ef_630]; rfl
                    have cl_632 : (f_630 1).toInt = (f_619 1).toInt := by rw [ef_630]; rfl
                    have cl_633 : (f_630 2).toInt = (f_619 2).toInt := by rw [ef_630]; rfl
                    have cl_634 : (f_630 3).toInt = x_629.toInt := by rw [ef_630]; rfl
                    have cl_635 : (f_630 4).toInt = (f_619 4).toInt := by rw [ef_630]; rfl
                    have cl_636 : (f_630 5).toInt = (f_619 5).toInt := by rw [ef_630]; rfl
                    refine lv_iinc (v := 2) (lv' := [(5, .int 2), (2, .int x_626), (4, .int r_477), (0, .ref A_self), (1, .int a1), (3, .int 1)]) hx hb dX7_take_92 hl (k := 1) rfl (by decide) (by decide) rfl (fun ls hl => ?_)
                    refine lv_aload_n hx hb dX7_take_95 rfl (lv_at hl 3 rfl) ?_
                    refine va_get (D := D) (ci := 7) (v := .ref (q 55)) (C := RX7) (T := TX7) (N := 56) hx hb hts (fun _ h => List.mem_cons_of_mem _ (List.mem_append_right _ h)) hown hK hP 0 rfl rfl 55 (by decide) (hts (.fieldLink RX7 118 "CrownTableModel" "cloth" "[I") (mem_i 2 rfl)) (fun _ h9 => h9) rfl dX7_take_96 ?_
                    refine lv_iload hx hb dX7_take_99 (lv_at hl 0 rfl) ?_
                    refine lv_dup2_11 hx hb dX7_take_101 rfl rfl ?_
                    refine va_iald hx hb hK hP 1 1 rfl rfl (vin (a := 2) (by decide) (by decide) (by decide)) dX7_take_102 ?_
                    refine lv_topi (fun x_637 ex_637 => ?_)
                    have lf_638 : (f_630 2).toInt = x_637.toInt := by rw [ex_637]; rfl
                    refine lv_iload hx hb dX7_take_103 (lv_at hl 0 rfl) ?_
                    have hPc := hP.sub (ws' := []) [] rfl
                    have hDc := hD.sub (ws' := []) [] (by decide) rfl
                    have hFc := va_free (wc := []) hD hS hA [] rfl
                    have kzz_639 : (2 : Int32).toInt = 2 := by decide
                    refine va_csi (va_runS (As := [.int 2]) (rest := [.int x_637, .int 2, .ref (q 55)]) ⟨hx, hb, hml, hown, hts⟩ (k_X7_next l D c ts H.size 2 2 (by decide) (by omega)) (cwS 1 hts gX7_take_X7_next rfl rfl rfl ⟨rfl, hdX7_next⟩ ⟨(show 1 + 1 ≤ 2 by decide), (show 8 + (1 + 11) + 20 ≤ 43 by decide)⟩) ⟨Pre0.blind, Pre0.at hPc hDc hAm hSt hS hFc⟩ rfl rfl hl.1 rfl (lv_room (Nat.le_of_ble_eq_true rfl)) dX7_take_105 ⟨(show 0 + 0 ≤ 0 by decide), (show 0 + 0 ≤ 0 by decide)⟩) (fun r_641 hw_640 => ?_)
                    rcases hw_640 with ⟨hw_640, rfl⟩ | ⟨hw_640, rfl⟩ | ⟨hw_640, rfl⟩ | ⟨hw_640, rfl⟩
                    · exfalso; omega
                    · skip
                      refine lv_iadd hx hb dX7_take_108 ?_
                      refine lv_topi (fun x_642 ex_642 => ?_)
                      have tx_642 : x_642.toInt = (x_637.toInt + 20) := by rw [ex_642]; exact add_ti (a := x_637.toInt) (b := 20) rfl (by decide) (by omega) (by omega)
                      refine va_iast hx hb hK hP hD hS 1 1 rfl rfl (vin (a := 2) (by decide) (by decide) (by decide)) dX7_take_109 (fun H locs hP hD hS => ?_)
                      obtain ⟨f_643, ef_643, hP, hD⟩ : ∃ f_643 : Nat → Int32, f_643 = upd f_630 (2 : Int32).toNatClampNeg x_642 ∧ va_P D vwCl [(A_self, .inr (7, o7 q v w)), (q 55, .inl (c 1, 6, .inl f_643))] H ∧ va_D A [(A_self, .inr (7, o7 q v w)), (q 55, .inl (c 1, 6, .inl f_643))] := ⟨_, rfl, hP, hD⟩
                      have cl_644 : (f_643 0).toInt = (f_630 0).toInt := by rw [ef_643]; rfl
                      have cl_645 : (f_643 1).toInt = (f_630 1).toInt := by rw [ef_643]; rfl
                      have cl_646 : (f_643 2).toInt = x_642.toInt := by rw [ef_643]; rfl
                      have cl_647 : (f_643 3).toInt = (f_630 3).toInt := by rw [ef_643]; rfl
                      have cl_648 : (f_643 4).toInt = (f_630 4).toInt := by rw [ef_643]; rfl
                      have cl_649 : (f_643 5).toInt = (f_630 5).toInt := by rw [ef_643]; rfl
                      obtain ⟨x_650, ex_650⟩ : ∃ y : Int32, y = x_626 + 1 := ⟨_, rfl⟩
                      refine lv_iinc (v := x_650) (lv' := [(2, .int x_650), (5, .int 2), (4, .int r_477), (0, .ref A_self), (1, .int a1), (3, .int 1)]) hx hb dX7_take_110 hl (k := 1) rfl (by rw [ex_650]; rfl) (by decide) rfl (fun ls hl => ?_)
                      refine lv_goto (tgt := 75) hx hb dX7_take_113 (by decide) ?_
                      refine lv_iload hx hb dX7_take_75 (lv_at hl 1 rfl) ?_
                      refine lv_iload_n hx hb dX7_take_77 rfl (lv_at hl 5 rfl) ?_
                      refine iicmp_leF (a := 2) (b := 1) (tgt := 116) hx hb (by decide) (by decide) dX7_take_78 (by decide) (by decide) ?_
                      refine lv_aload_n hx hb dX7_take_81 rfl (lv_at hl 3 rfl) ?_
                      refine va_get (D := D) (ci := 7) (v := .ref (q 55)) (C := RX7) (T := TX7) (N := 56) hx hb hts (fun _ h => List.mem_cons_of_mem _ (List.mem_append_right _ h)) hown hK hP 0 rfl rfl 55 (by decide) (hts (.fieldLink RX7 118 "CrownTableModel" "cloth" "[I") (mem_i 2 rfl)) (fun _ h9 => h9) rfl dX7_take_82 ?_
                      refine lv_iload hx hb dX7_take_85 (lv_at hl 1 rfl) ?_
                      refine lv_dup2_11 hx hb dX7_take_87 rfl rfl ?_
                      refine va_iald hx hb hK hP 1 1 rfl rfl (vin (a := 2) (by decide) (by decide) (by decide)) dX7_take_88 ?_
                      refine lv_topi (fun x_651 ex_651 => ?_)
                      have lf_652 : (f_643 2).toInt = x_651.toInt := by rw [ex_651]; rfl
                      refine lv_iconst (v := 1) hx hb dX7_take_89 (by decide) ?_
                      refine lv_isub hx hb dX7_take_90 ?_
                      refine lv_topi (fun x_653 ex_653 => ?_)
                      have tx_653 : x_653.toInt = (x_651.toInt - 1) := by rw [ex_653]; exact sub_ti (a := x_651.toInt) (b := 1) rfl (by decide) (by omega) (by omega)
                      refine va_iast hx hb hK hP hD hS 1 1 rfl rfl (vin (a := 2) (by decide) (by decide) (by decide)) dX7_take_91 (fun H locs hP hD hS => ?_)
                      obtain ⟨f_654, ef_654, hP, hD⟩ : ∃ f_654 : Nat → Int32, f_654 = upd f_643 (2 : Int32).toNatClampNeg x_653 ∧ va_P D vwCl [(A_self, .inr (7, o7 q v w)), (q 55, .inl (c 1, 6, .inl f_654))] H ∧ va_D A [(A_self, .inr (7, o7 q v w)), (q 55, .inl (c 1, 6, .inl f_654))] := ⟨_, rfl, hP, hD⟩
                      have cl_655 : (f_654 0).toInt = (f_643 0).toInt := by rw [ef_654]; rfl
                      have cl_656 : (f_654 1).toInt = (f_643 1).toInt := by rw [ef_654]; rfl
                      have cl_657 : (f_654 2).toInt = x_653.toInt := by rw [ef_654]; rfl
                      have cl_658 : (f_654 3).toInt = (f_643 3).toInt := by rw [ef_654]; rfl
                      have cl_659 : (f_654 4).toInt = (f_643 4).toInt := by rw [ef_654]; rfl
                      have cl_660 : (f_654 5).toInt = (f_643 5).toInt := by rw [ef_654]; rfl
                      refine lv_iinc (v := 1) (lv' := [(5, .int 1), (2, .int x_650), (4, .int r_477), (0, .ref A_self), (1, .int a1), (3, .int 1)]) hx hb dX7_take_92 hl (k := 1) rfl (by decide) (by decide) rfl (fun ls hl => ?_)
                      refine lv_aload_n hx hb dX7_take_95 rfl (lv_at hl 3 rfl) ?_
                      refine va_get (D := D) (ci := 7) (v := .ref (q 55)) (C := RX7) (T := TX7) (N := 56) hx hb hts (fun _ h => List.mem_cons_of_mem _ (List.mem_append_right _ h)) hown hK hP 0 rfl rfl 55 (by decide) (hts (.fieldLink RX7 118 "CrownTableModel" "cloth" "[I") (mem_i 2 rfl)) (fun _ h9 => h9) rfl dX7_take_96 ?_
                      refine lv_iload hx hb dX7_take_99 (lv_at hl 0 rfl) ?_
                      refine lv_dup2_11 hx hb dX7_take_101 rfl rfl ?_
                      refine va_iald hx hb hK hP 1 1 rfl rfl (vin (a := 1) (by decide) (by decide) (by decide)) dX7_take_102 ?_
                      refine lv_topi (fun x_661 ex_661 => ?_)
                      have lf_662 : (f_654 1).toInt = x_661.toInt := by rw [ex_661]; rfl
                      refine lv_iload hx hb dX7_take_103 (lv_at hl 0 rfl) ?_
                      have hPc := hP.sub (ws' := []) [] rfl
                      have hDc := hD.sub (ws' := []) [] (by decide) rfl
                      have hFc := va_free (wc := []) hD hS hA [] rfl
                      have kzz_663 : (1 : Int32).toInt = 1 := by decide
                      refine va_csi (va_runS (As := [.int 1]) (rest := [.int x_661, .int 1, .ref (q 55)]) ⟨hx, hb, hml, hown, hts⟩ (k_X7_next l D c ts H.size 1 1 (by decide) (by omega)) (cwS 1 hts gX7_take_X7_next rfl rfl rfl ⟨rfl, hdX7_next⟩ ⟨(show 1 + 1 ≤ 2 by decide), (show 8 + (1 + 11) + 20 ≤ 43 by decide)⟩) ⟨Pre0.blind, Pre0.at hPc hDc hAm hSt hS hFc⟩ rfl rfl hl.1 rfl (lv_room (Nat.le_of_ble_eq_true rfl)) dX7_take_105 ⟨(show 0 + 0 ≤ 0 by decide), (show 0 + 0 ≤ 0 by decide)⟩) (fun r_665 hw_664 => ?_)
                      rcases hw_664 with ⟨hw_664, rfl⟩ | ⟨hw_664, rfl⟩ | ⟨hw_664, rfl⟩ | ⟨hw_664, rfl⟩
                      · exfalso; omega
                      · skip
                        refine lv_iadd hx hb dX7_take_108 ?_
                        refine lv_topi (fun x_666 ex_666 => ?_)
                        have tx_666 : x_666.toInt = (x_661.toInt + 20) := by rw [ex_666]; exact add_ti (a := x_661.toInt) (b := 20) rfl (by decide) (by omega) (by omega)
                        refine va_iast hx hb hK hP hD hS 1 1 rfl rfl (vin (a := 1) (by decide) (by decide) (by decide)) dX7_take_109 (fun H locs hP hD hS => ?_)
                        obtain ⟨f_667, ef_667, hP, hD⟩ : ∃ f_667 : Nat → Int32, f_667 = upd f_654 (1 : Int32).toNatClampNeg x_666 ∧ va_P D vwCl [(A_self, .inr (7, o7 q v w)), (q 55, .inl (c 1, 6, .inl f_667))] H ∧ va_D A [(A_self, .inr (7, o7 q v w)), (q 55, .inl (c 1, 6, .inl f_667))] := ⟨_, rfl, hP, hD⟩
                        have cl_668 : (f_667 0).toInt = (f_654 0).toInt := by rw [ef_667]; rfl
                        have cl_669 : (f_667 1).toInt = x_666.toInt := by rw [ef_667]; rfl
                        have cl_670 : (f_667 2).toInt = (f_654 2).toInt := by rw [ef_667]; rfl
                        have cl_671 : (f_667 3).toInt = (f_654 3).toInt := by rw [ef_667]; rfl
                        have cl_672 : (f_667 4).toInt = (f_654 4).toInt := by rw [ef_667]; rfl
                        have cl_673 : (f_667 5).toInt = (f_654 5).toInt := by rw [ef_667]; rfl
                        obtain ⟨x_674, ex_674⟩ : ∃ y : Int32, y = x_650 + 1 := ⟨_, rfl⟩
                        refine lv_iinc (v := x_674) (lv' := [(2, .int x_674), (5, .int 1), (4, .int r_477), (0, .ref A_self), (1, .int a1), (3, .int 1)]) hx hb dX7_take_110 hl (k := 1) rfl (by rw [ex_674]; rfl) (by decide) rfl (fun ls hl => ?_)
                        refine lv_goto (tgt := 75) hx hb dX7_take_113 (by decide) ?_
                        refine lv_iload hx hb dX7_take_75 (lv_at hl 1 rfl) ?_
                        refine lv_iload_n hx hb dX7_take_77 rfl (lv_at hl 5 rfl) ?_
                        refine iicmp_leT (a := 1) (b := 1) (tgt := 116) hx hb (by decide) (by decide) dX7_take_78 (by decide) (by decide) ?_
                        refine lv_goto (tgt := 43) hx hb dX7_take_116 (by decide) ?_
                        refine lv_aload_n hx hb dX7_take_43 rfl (lv_at hl 3 rfl) ?_
                        refine va_get (D := D) (ci := 7) (v := .ref (q 55)) (C := RX7) (T := TX7) (N := 56) hx hb hts (fun _ h => List.mem_cons_of_mem _ (List.mem_append_right _ h)) hown hK hP 0 rfl rfl 55 (by decide) (hts (.fieldLink RX7 118 "CrownTableModel" "cloth" "[I") (mem_i 2 rfl)) (fun _ h9 => h9) rfl dX7_take_44 ?_
                        refine lv_iload_n hx hb dX7_take_47 rfl (lv_at hl 5 rfl) ?_
                        refine va_iald hx hb hK hP 1 1 rfl rfl (vin (a := 1) (by decide) (by decide) (by decide)) dX7_take_48 ?_
                        refine lv_topi (fun x_675 ex_675 => ?_)
                        have lf_676 : (f_667 1).toInt = x_675.toInt := by rw [ex_675]; rfl
                        refine lv_iload hx hb dX7_take_49 (lv_at hl 2 rfl) ?_
                        refine iicmp_ge (a := x_675.toInt) (b := r_477.toInt) (tgt := 119) hx hb rfl rfl dX7_take_51 (by decide) (fun k_677 => ?_) (fun k_677 => ?_)
                        · skip
                          refine lv_aload_n hx hb dX7_take_119 rfl (lv_at hl 3 rfl) ?_
                          refine va_get (D := D) (ci := 7) (v := .ref (q 55)) (C := RX7) (T := TX7) (N := 56) hx hb hts (fun _ h => List.mem_cons_of_mem _ (List.mem_append_right _ h)) hown hK hP 0 rfl rfl 55 (by decide) (hts (.fieldLink RX7 118 "CrownTableModel" "cloth" "[I") (mem_i 2 rfl)) (fun _ h9 => h9) rfl dX7_take_120 ?_
                          refine lv_iload_n hx hb dX7_take_123 rfl (lv_at hl 5 rfl) ?_
                          refine lv_dup2_11 hx hb dX7_take_124 rfl rfl ?_
                          refine va_iald hx hb hK hP 1 1 rfl rfl (vin (a := 1) (by decide) (by decide) (by decide)) dX7_take_125 ?_
                          refine lv_topi (fun x_678 ex_678 => ?_)
                          have lf_679 : (f_667 1).toInt = x_678.toInt := by rw [ex_678]; rfl
                          refine lv_iload hx hb dX7_take_126 (lv_at hl 2 rfl) ?_
                          refine lv_isub hx hb dX7_take_128 ?_
                          refine lv_topi (fun x_680 ex_680 => ?_)
                          have tx_680 : x_680.toInt = (x_678.toInt - r_477.toInt) := by rw [ex_680]; exact sub_ti (a := x_678.toInt) (b := r_477.toInt) rfl rfl (by omega) (by omega)
                          refine va_iast hx hb hK hP hD hS 1 1 rfl rfl (vin (a := 1) (by decide) (by decide) (by decide)) dX7_take_129 (fun H locs hP hD hS => ?_)
                          obtain ⟨f_681, ef_681, hP, hD⟩ : ∃ f_681 : Nat → Int32, f_681 = upd f_667 (1 : Int32).toNatClampNeg x_680 ∧ va_P D vwCl [(A_self, .inr (7, o7 q v w)), (q 55, .inl (c 1, 6, .inl f_681))] H ∧ va_D A [(A_self, .inr (7, o7 q v w)), (q 55, .inl (c 1, 6, .inl f_681))] := ⟨_, rfl, hP, hD⟩
                          have cl_682 : (f_681 0).toInt = (f_667 0).toInt := by rw [ef_681]; rfl
                          have cl_683 : (f_681 1).toInt = x_680.toInt := by rw [ef_681]; rfl
                          have cl_684 : (f_681 2).toInt = (f_667 2).toInt := by rw [ef_681]; rfl
                          have cl_685 : (f_681 3).toInt = (f_667 3).toInt := by rw [ef_681]; rfl
                          have cl_686 : (f_681 4).toInt = (f_667 4).toInt := by rw [ef_681]; rfl
                          have cl_687 : (f_681 5).toInt = (f_667 5).toInt := by rw [ef_681]; rfl
                          refine lv_iinc (v := 2) (lv' := [(3, .int 2), (2, .int x_674), (5, .int 1), (4, .int r_477), (0, .ref A_self), (1, .int a1)]) hx hb dX7_take_130 hl (k := 5) rfl (by decide) (by decide) rfl (fun ls hl => ?_)
                          refine lv_goto (tgt := 30) hx hb dX7_take_133 (by decide) ?_
                          have kzz_688 : (2 : Int32).toInt = 2 := by decide
                          have hl := lv_sub hl [4, 5, 1, 0] rfl
                          exact (ih30 ((6 - (2 : Int32).toInt).toNat) (by omega) x_674 2 f_681 (by omega) (by omega) (by omega) (by omega) (by omega) (by omega) (by omega) (by omega) (by omega) (by omega) (by omega) (by omega) (by omega) (by omega) rfl _ _ _ hP hD hS hl)
                        · skip
                          exfalso; omega
                      · exfalso; omega
                      · exfalso; omega
                    · exfalso; omega
                    · exfalso; omega
                  · exfalso; omega
                · skip
                  refine lv_iinc (v := 5) (lv' := [(5, .int 5), (4, .int r_477), (0, .ref A_self), (1, .int a1), (2, .int L2), (3, .int 1)]) hx hb dX7_take_69 hl (k := 0) rfl (by decide) (by decide) rfl (fun ls hl => ?_)
                  refine lv_goto (tgt := 59) hx hb dX7_take_72 (by decide) ?_
                  refine lv_aload_n hx hb dX7_take_59 rfl (lv_at hl 2 rfl) ?_
                  refine va_get (D := D) (ci := 7) (v := .ref (q 55)) (C := RX7) (T := TX7) (N := 56) hx hb hts (fun _ h => List.mem_cons_of_mem _ (List.mem_append_right _ h)) hown hK hP 0 rfl rfl 55 (by decide) (hts (.fieldLink RX7 118 "CrownTableModel" "cloth" "[I") (mem_i 2 rfl)) (fun _ h9 => h9) rfl dX7_take_60 ?_
                  refine lv_iload hx hb dX7_take_63 (lv_at hl 0 rfl) ?_
                  refine va_iald hx hb hK hP 1 1 rfl rfl (vin (a := 5) (by decide) (by decide) (by decide)) dX7_take_65 ?_
                  refine lv_topi (fun x_689 ex_689 => ?_)
                  have lf_690 : (M_cloth 5).toInt = x_689.toInt := by rw [ex_689]; rfl
                  refine iif_ne (a := x_689.toInt) (tgt := 75) hx hb rfl dX7_take_66 (by decide) (fun k_691 => ?_) (fun k_691 => ?_)
                  · skip
                    refine lv_iload hx hb dX7_take_75 (lv_at hl 0 rfl) ?_
                    refine lv_iload_n hx hb dX7_take_77 rfl (lv_at hl 5 rfl) ?_
                    refine iicmp_leF (a := 5) (b := 1) (tgt := 116) hx hb (by decide) (by decide) dX7_take_78 (by decide) (by decide) ?_
                    refine lv_aload_n hx hb dX7_take_81 rfl (lv_at hl 2 rfl) ?_
                    refine va_get (D := D) (ci := 7) (v := .ref (q 55)) (C := RX7) (T := TX7) (N := 56) hx hb hts (fun _ h => List.mem_cons_of_mem _ (List.mem_append_right _ h)) hown hK hP 0 rfl rfl 55 (by decide) (hts (.fieldLink RX7 118 "CrownTableModel" "cloth" "[I") (mem_i 2 rfl)) (fun _ h9 => h9) rfl dX7_take_82 ?_
                    refine lv_iload hx hb dX7_take_85 (lv_at hl 0 rfl) ?_
                    refine lv_dup2_11 hx hb dX7_take_87 rfl rfl ?_
                    refine va_iald hx hb hK hP 1 1 rfl rfl (vin (a := 5) (by decide) (by decide) (by decide)) dX7_take_88 ?_
                    refine lv_topi (fun x_692 ex_692 => ?_)
                    have lf_693 : (M_cloth 5).toInt = x_692.toInt := by rw [ex_692]; rfl
                    refine lv_iconst (v := 1) hx hb dX7_take_89 (by decide) ?_
                    refine lv_isub hx hb dX7_take_90 ?_
                    refine lv_topi (fun x_694 ex_694 => ?_)
                    have tx_694 : x_694.toInt = (x_692.toInt - 1) := by rw [ex_694]; exact sub_ti (a := x_692.toInt) (b := 1) rfl (by decide) (by omega) (by omega)
                    refine va_iast hx hb hK hP hD hS 1 1 rfl rfl (vin (a := 5) (by decide) (by decide) (by decide)) dX7_take_91 (fun H locs hP hD hS => ?_)
                    obtain ⟨f_695, ef_695, hP, hD⟩ : ∃ f_695 : Nat → Int32, f_695 = upd M_cloth (5 : Int32).toNatClampNeg x_694 ∧ va_P D vwCl [(A_self, .inr (7, o7 q v w)), (q 55, .inl (c 1, 6, .inl f_695))] H ∧ va_D A [(A_self, .inr (7, o7 q v w)), (q 55, .inl (c 1, 6, .inl f_695))] := ⟨_, rfl, hP, hD⟩
                    have cl_696 : (f_695 0).toInt = (M_cloth 0).toInt := by rw [ef_695]; rfl
                    have cl_697 : (f_695 1).toInt = (M_cloth 1).toInt := by rw [ef_695]; rfl
                    have cl_698 : (f_695 2).toInt = (M_cloth 2).toInt := by rw [ef_695]; rfl
                    have cl_699 : (f_695 3).toInt = (M_cloth 3).toInt := by rw [ef_695]; rfl
                    have cl_700 : (f_695 4).toInt = (M_cloth 4).toInt := by rw [ef_695]; rfl
                    have cl_701 : (f_695 5).toInt = x_694.toInt := by rw [ef_695]; rfl
                    refine lv_iinc (v := 4) (lv' := [(5, .int 4), (4, .int r_477), (0, .ref A_self), (1, .int a1), (2, .int L2), (3, .int 1)]) hx hb dX7_take_92 hl (k := 0) rfl (by decide) (by decide) rfl (fun ls hl => ?_)
                    refine lv_aload_n hx hb dX7_take_95 rfl (lv_at hl 2 rfl) ?_
                    refine va_get (D := D) (ci := 7) (v := .ref (q 55)) (C := RX7) (T := TX7) (N := 56) hx hb hts (fun _ h => List.mem_cons_of_mem _ (List.mem_append_right _ h)) hown hK hP 0 rfl rfl 55 (by decide) (hts (.fieldLink RX7 118 "CrownTableModel" "cloth" "[I") (mem_i 2 rfl)) (fun _ h9 => h9) rfl dX7_take_96 ?_
                    refine lv_iload hx hb dX7_take_99 (lv_at hl 0 rfl) ?_
                    refine lv_dup2_11 hx hb dX7_take_101 rfl rfl ?_
                    refine va_iald hx hb hK hP 1 1 rfl rfl (vin (a := 4) (by decide) (by decide) (by decide)) dX7_take_102 ?_
                    refine lv_topi (fun x_702 ex_702 => ?_)
                    have lf_703 : (f_695 4).toInt = x_702.toInt := by rw [ex_702]; rfl
                    refine lv_iload hx hb dX7_take_103 (lv_at hl 0 rfl) ?_
                    have hPc := hP.sub (ws' := []) [] rfl
                    have hDc := hD.sub (ws' := []) [] (by decide) rfl
                    have hFc := va_free (wc := []) hD hS hA [] rfl
                    have kzz_704 : (4 : Int32).toInt = 4 := by decide
                    refine va_csi (va_runS (As := [.int 4]) (rest := [.int x_702, .int 4, .ref (q 55)]) ⟨hx, hb, hml, hown, hts⟩ (k_X7_next l D c ts H.size 4 4 (by decide) (by omega)) (cwS 1 hts gX7_take_X7_next rfl rfl rfl ⟨rfl, hdX7_next⟩ ⟨(show 1 + 1 ≤ 2 by decide), (show 8 + (1 + 11) + 20 ≤ 43 by decide)⟩) ⟨Pre0.blind, Pre0.at hPc hDc hAm hSt hS hFc⟩ rfl rfl hl.1 rfl (lv_room (Nat.le_of_ble_eq_true rfl)) dX7_take_105 ⟨(show 0 + 0 ≤ 0 by decide), (show 0 + 0 ≤ 0 by decide)⟩) (fun r_706 hw_705 => ?_)
                    rcases hw_705 with ⟨hw_705, rfl⟩ | ⟨hw_705, rfl⟩ | ⟨hw_705, rfl⟩ | ⟨hw_705, rfl⟩
                    · exfalso; omega
                    · exfalso; omega
                    · exfalso; omega
                    · skip
                      refine lv_iadd hx hb dX7_take_108 ?_
                      refine lv_topi (fun x_707 ex_707 => ?_)
                      have tx_707 : x_707.toInt = (x_702.toInt + 10) := by rw [ex_707]; exact add_ti (a := x_702.toInt) (b := 10) rfl (by decide) (by omega) (by omega)
                      refine va_iast hx hb hK hP hD hS 1 1 rfl rfl (vin (a := 4) (by decide) (by decide) (by decide)) dX7_take_109 (fun H locs hP hD hS => ?_)
                      obtain ⟨f_708, ef_708, hP, hD⟩ : ∃ f_708 : Nat → Int32, f_708 = upd f_695 (4 : Int32).toNatClampNeg x_707 ∧ va_P D vwCl [(A_self, .inr (7, o7 q v w)), (q 55, .inl (c 1, 6, .inl f_708))] H ∧ va_D A [(A_self, .inr (7, o7 q v w)), (q 55, .inl (c 1, 6, .inl f_708))] := ⟨_, rfl, hP, hD⟩
                      have cl_709 : (f_708 0).toInt = (f_695 0).toInt := by rw [ef_708]; rfl
                      have cl_710 : (f_708 1).toInt = (f_695 1).toInt := by rw [ef_708]; rfl
                      have cl_711 : (f_708 2).toInt = (f_695 2).toInt := by rw [ef_708]; rfl
                      have cl_712 : (f_708 3).toInt = (f_695 3).toInt := by rw [ef_708]; rfl
                      have cl_713 : (f_708 4).toInt = x_707.toInt := by rw [ef_708]; rfl
                      have cl_714 : (f_708 5).toInt = (f_695 5).toInt := by rw [ef_708]; rfl
                      obtain ⟨x_715, ex_715⟩ : ∃ y : Int32, y = L2 + 1 := ⟨_, rfl⟩
                      refine lv_iinc (v := x_715) (lv' := [(2, .int x_715), (5, .int 4), (4, .int r_477), (0, .ref A_self), (1, .int a1), (3, .int 1)]) hx hb dX7_take_110 hl (k := 4) rfl (by rw [ex_715]; rfl) (by decide) rfl (fun ls hl => ?_)
                      refine lv_goto (tgt := 75) hx hb dX7_take_113 (by decide) ?_
                      refine lv_iload hx hb dX7_take_75 (lv_at hl 1 rfl) ?_
                      refine lv_iload_n hx hb dX7_take_77 rfl (lv_at hl 5 rfl) ?_
                      refine iicmp_leF (a := 4) (b := 1) (tgt := 116) hx hb (by decide) (by decide) dX7_take_78 (by decide) (by decide) ?_
                      refine lv_aload_n hx hb dX7_take_81 rfl (lv_at hl 3 rfl) ?_
                      refine va_get (D := D) (ci := 7) (v := .ref (q 55)) (C := RX7) (T := TX7) (N := 56) hx hb hts (fun _ h => List.mem_cons_of_mem _ (List.mem_append_right _ h)) hown hK hP 0 rfl rfl 55 (by decide) (hts (.fieldLink RX7 118 "CrownTableModel" "cloth" "[I") (mem_i 2 rfl)) (fun _ h9 => h9) rfl dX7_take_82 ?_
                      refine lv_iload hx hb dX7_take_85 (lv_at hl 1 rfl) ?_
                      refine lv_dup2_11 hx hb dX7_take_87 rfl rfl ?_
                      refine va_iald hx hb hK hP 1 1 rfl rfl (vin (a := 4) (by decide) (by decide) (by decide)) dX7_take_88 ?_
                      refine lv_topi (fun x_716 ex_716 => ?_)
                      have lf_717 : (f_708 4).toInt = x_716.toInt := by rw [ex_716]; rfl
                      refine lv_iconst (v := 1) hx hb dX7_take_89 (by decide) ?_
                      refine lv_isub hx hb dX7_take_90 ?_
                      refine lv_topi (fun x_718 ex_718 => ?_)
                      have tx_718 : x_718.toInt = (x_716.toInt - 1) := by rw [ex_718]; exact sub_ti (a := x_716.toInt) (b := 1) rfl (by decide) (by omega) (by omega)
                      refine va_iast hx hb hK hP hD hS 1 1 rfl rfl (vin (a := 4) (by decide) (by decide) (by decide)) dX7_take_91 (fun H locs hP hD hS => ?_)
                      obtain ⟨f_719, ef_719, hP, hD⟩ : ∃ f_719 : Nat → Int32, f_719 = upd f_708 (4 : Int32).toNatClampNeg x_718 ∧ va_P D vwCl [(A_self, .inr (7, o7 q v w)), (q 55, .inl (c 1, 6, .inl f_719))] H ∧ va_D A [(A_self, .inr (7, o7 q v w)), (q 55, .inl (c 1, 6, .inl f_719))] := ⟨_, rfl, hP, hD⟩
                      have cl_720 : (f_719 0).toInt = (f_708 0).toInt := by rw [ef_719]; rfl
                      have cl_721 : (f_719 1).toInt = (f_708 1).toInt := by rw [ef_719]; rfl
                      have cl_722 : (f_719 2).toInt = (f_708 2).toInt := by rw [ef_719]; rfl
                      have cl_723 : (f_719 3).toInt = (f_708 3).toInt := by rw [ef_719]; rfl
                      have cl_724 : (f_719 4).toInt = x_718.toInt := by rw [ef_719]; rfl
                      have cl_725 : (f_719 5).toInt = (f_708 5).toInt := by rw [ef_719]; rfl
                      refine lv_iinc (v := 3) (lv' := [(5, .int 3), (2, .int x_715), (4, .int r_477), (0, .ref A_self), (1, .int a1), (3, .int 1)]) hx hb dX7_take_92 hl (k := 1) rfl (by decide) (by decide) rfl (fun ls hl => ?_)
                      refine lv_aload_n hx hb dX7_take_95 rfl (lv_at hl 3 rfl) ?_
                      refine va_get (D := D) (ci := 7) (v := .ref (q 55)) (C := RX7) (T := TX7) (N := 56) hx hb hts (fun _ h => List.mem_cons_of_mem _ (List.mem_append_right _ h)) hown hK hP 0 rfl rfl 55 (by decide) (hts (.fieldLink RX7 118 "CrownTableModel" "cloth" "[I") (mem_i 2 rfl)) (fun _ h9 => h9) rfl dX7_take_96 ?_
                      refine lv_iload hx hb dX7_take_99 (lv_at hl 0 rfl) ?_
                      refine lv_dup2_11 hx hb dX7_take_101 rfl rfl ?_
                      refine va_iald hx hb hK hP 1 1 rfl rfl (vin (a := 3) (by decide) (by decide) (by decide)) dX7_take_102 ?_
                      refine lv_topi (fun x_726 ex_726 => ?_)
                      have lf_727 : (f_719 3).toInt = x_726.toInt := by rw [ex_726]; rfl
                      refine lv_iload hx hb dX7_take_103 (lv_at hl 0 rfl) ?_
                      have hPc := hP.sub (ws' := []) [] rfl
                      have hDc := hD.sub (ws' := []) [] (by decide) rfl
                      have hFc := va_free (wc := []) hD hS hA [] rfl
                      have kzz_728 : (3 : Int32).toInt = 3 := by decide
                      refine va_csi (va_runS (As := [.int 3]) (rest := [.int x_726, .int 3, .ref (q 55)]) ⟨hx, hb, hml, hown, hts⟩ (k_X7_next l D c ts H.size 3 3 (by decide) (by omega)) (cwS 1 hts gX7_take_X7_next rfl rfl rfl ⟨rfl, hdX7_next⟩ ⟨(show 1 + 1 ≤ 2 by decide), (show 8 + (1 + 11) + 20 ≤ 43 by decide)⟩) ⟨Pre0.blind, Pre0.at hPc hDc hAm hSt hS hFc⟩ rfl rfl hl.1 rfl (lv_room (Nat.le_of_ble_eq_true rfl)) dX7_take_105 ⟨(show 0 + 0 ≤ 0 by decide), (show 0 + 0 ≤ 0 by decide)⟩) (fun r_730 hw_729 => ?_)
                      rcases hw_729 with ⟨hw_729, rfl⟩ | ⟨hw_729, rfl⟩ | ⟨hw_729, rfl⟩ | ⟨hw_729, rfl⟩
                      · exfalso; omega
                      · exfalso; omega
                      · skip
                        refine lv_iadd hx hb dX7_take_108 ?_
                        refine lv_topi (fun x_731 ex_731 => ?_)
                        have tx_731 : x_731.toInt = (x_726.toInt + 5) := by rw [ex_731]; exact add_ti (a := x_726.toInt) (b := 5) rfl (by decide) (by omega) (by omega)
                        refine va_iast hx hb hK hP hD hS 1 1 rfl rfl (vin (a := 3) (by decide) (by decide) (by decide)) dX7_take_109 (fun H locs hP hD hS => ?_)
                        obtain ⟨f_732, ef_732, hP, hD⟩ : ∃ f_732 : Nat → Int32, f_732 = upd f_719 (3 : Int32).toNatClampNeg x_731 ∧ va_P D vwCl [(A_self, .inr (7, o7 q v w)), (q 55, .inl (c 1, 6, .inl f_732))] H ∧ va_D A [(A_self, .inr (7, o7 q v w)), (q 55, .inl (c 1, 6, .inl f_732))] := ⟨_, rfl, hP, hD⟩
                        have cl_733 : (f_732 0).toInt = (f_719 0).toInt := by rw [ef_732]; rfl
                        have cl_734 : (f_732 1).toInt = (f_719 1).toInt := by rw [ef_732]; rfl
                        have cl_735 : (f_732 2).toInt = (f_719 2).toInt := by rw [ef_732]; rfl
                        have cl_736 : (f_732 3).toInt = x_731.toInt := by rw [ef_732]; rfl
                        have cl_737 : (f_732 4).toInt = (f_719 4).toInt := by rw [ef_732]; rfl
                        have cl_738 : (f_732 5).toInt = (f_719 5).toInt := by rw [ef_732]; rfl
                        obtain ⟨x_739, ex_739⟩ : ∃ y : Int32, y = x_715 + 1 := ⟨_, rfl⟩
                        refine lv_iinc (v := x_739) (lv' := [(2, .int x_739), (5, .int 3), (4, .int r_477), (0, .ref A_self), (1, .int a1), (3, .int 1)]) hx hb dX7_take_110 hl (k := 1) rfl (by rw [ex_739]; rfl) (by decide) rfl (fun ls hl => ?_)
                        refine lv_goto (tgt := 75) hx hb dX7_take_113 (by decide) ?_
                        refine lv_iload hx hb dX7_take_75 (lv_at hl 1 rfl) ?_
                        refine lv_iload_n hx hb dX7_take_77 rfl (lv_at hl 5 rfl) ?_
                        refine iicmp_leF (a := 3) (b := 1) (tgt := 116) hx hb (by decide) (by decide) dX7_take_78 (by decide) (by decide) ?_
                        refine lv_aload_n hx hb dX7_take_81 rfl (lv_at hl 3 rfl) ?_
                        refine va_get (D := D) (ci := 7) (v := .ref (q 55)) (C := RX7) (T := TX7) (N := 56) hx hb hts (fun _ h => List.mem_cons_of_mem _ (List.mem_append_right _ h)) hown hK hP 0 rfl rfl 55 (by decide) (hts (.fieldLink RX7 118 "CrownTableModel" "cloth" "[I") (mem_i 2 rfl)) (fun _ h9 => h9) rfl dX7_take_82 ?_
                        refine lv_iload hx hb dX7_take_85 (lv_at hl 1 rfl) ?_
                        refine lv_dup2_11 hx hb dX7_take_87 rfl rfl ?_
                        refine va_iald hx hb hK hP 1 1 rfl rfl (vin (a := 3) (by decide) (by decide) (by decide)) dX7_take_88 ?_
                        refine lv_topi (fun x_740 ex_740 => ?_)
                        have lf_741 : (f_732 3).toInt = x_740.toInt := by rw [ex_740]; rfl
                        refine lv_iconst (v := 1) hx hb dX7_take_89 (by decide) ?_
                        refine lv_isub hx hb dX7_take_90 ?_
                        refine lv_topi (fun x_742 ex_742 => ?_)
                        have tx_742 : x_742.toInt = (x_740.toInt - 1) := by rw [ex_742]; exact sub_ti (a := x_740.toInt) (b := 1) rfl (by decide) (by omega) (by omega)
                        refine va_iast hx hb hK hP hD hS 1 1 rfl rfl (vin (a := 3) (by decide) (by decide) (by decide)) dX7_take_91 (fun H locs hP hD hS => ?_)
                        obtain ⟨f_743, ef_743, hP, hD⟩ : ∃ f_743 : Nat → Int32, f_743 = upd f_732 (3 : Int32).toNatClampNeg x_742 ∧ va_P D vwCl [(A_self, .inr (7, o7 q v w)), (q 55, .inl (c 1, 6, .inl f_743))] H ∧ va_D A [(A_self, .inr (7, o7 q v w)), (q 55, .inl (c 1, 6, .inl f_743))] := ⟨_, rfl, hP, hD⟩
                        have cl_744 : (f_743 0).toInt = (f_732 0).toInt := by rw [ef_743]; rfl
                        have cl_745 : (f_743 1).toInt = (f_732 1).toInt := by rw [ef_743]; rfl
                        have cl_746 : (f_743 2).toInt = (f_732 2).toInt := by rw [ef_743]; rfl
                        have cl_747 : (f_743 3).toInt = x_742.toInt := by rw [ef_743]; rfl
                        have cl_748 : (f_743 4).toInt = (f_732 4).toInt := by rw [ef_743]; rfl
                        have cl_749 : (f_743 5).toInt = (f_732 5).toInt := by rw [ef_743]; rfl
                        refine lv_iinc (v := 2) (lv' := [(5, .int 2), (2, .int x_739), (4, .int r_477), (0, .ref A_self), (1, .int a1), (3, .int 1)]) hx hb dX7_take_92 hl (k := 1) rfl (by decide) (by decide) rfl (fun ls hl => ?_)
                        refine lv_aload_n hx hb dX7_take_95 rfl (lv_at hl 3 rfl) ?_
                        refine va_get (D := D) (ci := 7) (v := .ref (q 55)) (C := RX7) (T := TX7) (N := 56) hx hb hts (fun _ h => List.mem_cons_of_mem _ (List.mem_append_right _ h)) hown hK hP 0 rfl rfl 55 (by decide) (hts (.fieldLink RX7 118 "CrownTableModel" "cloth" "[I") (mem_i 2 rfl)) (fun _ h9 => h9) rfl dX7_take_96 ?_
                        refine lv_iload hx hb dX7_take_99 (lv_at hl 0 rfl) ?_
                        refine lv_dup2_11 hx hb dX7_take_101 rfl rfl ?_
                        refine va_iald hx hb hK hP 1 1 rfl rfl (vin (a := 2) (by decide) (by decide) (by decide)) dX7_take_102 ?_
                        refine lv_topi (fun x_750 ex_750 => ?_)
                        have lf_751 : (f_743 2).toInt = x_750.toInt := by rw [ex_750]; rfl
                        refine lv_iload hx hb dX7_take_103 (lv_at hl 0 rfl) ?_
                        have hPc := hP.sub (ws' := []) [] rfl
                        have hDc := hD.sub (ws' := []) [] (by decide) rfl
                        have hFc := va_free (wc := []) hD hS hA [] rfl
                        have kzz_752 : (2 : Int32).toInt = 2 := by decide
                        refine va_csi (va_runS (As := [.int 2]) (rest := [.int x_750, .int 2, .ref (q 55)]) ⟨hx, hb, hml, hown, hts⟩ (k_X7_next l D c ts H.size 2 2 (by decide) (by omega)) (cwS 1 hts gX7_take_X7_next rfl rfl rfl ⟨rfl, hdX7_next⟩ ⟨(show 1 + 1 ≤ 2 by decide), (show 8 + (1 + 11) + 20 ≤ 43 by decide)⟩) ⟨Pre0.blind, Pre0.at hPc hDc hAm hSt hS hFc⟩ rfl rfl hl.1 rfl (lv_room (Nat.le_of_ble_eq_true rfl)) dX7_take_105 ⟨(show 0 + 0 ≤ 0 by decide), (show 0 + 0 ≤ 0 by decide)⟩) (fun r_754 hw_753 => ?_)
                        rcases hw_753 with ⟨hw_753, rfl⟩ | ⟨hw_753, rfl⟩ | ⟨hw_753, rfl⟩ | ⟨hw_753, rfl⟩
                        · exfalso; omega
                        · skip
                          refine lv_iadd hx hb dX7_take_108 ?_
                          refine lv_topi (fun x_755 ex_755 => ?_)
                          have tx_755 : x_755.toInt = (x_750.toInt + 20) := by rw [ex_755]; exact add_ti (a := x_750.toInt) (b := 20) rfl (by decide) (by omega) (by omega)
                          refine va_iast hx hb hK hP hD hS 1 1 rfl rfl (vin (a := 2) (by decide) (by decide) (by decide)) dX7_take_109 (fun H locs hP hD hS => ?_)
                          obtain ⟨f_756, ef_756, hP, hD⟩ : ∃ f_756 : Nat → Int32, f_756 = upd f_743 (2 : Int32).toNatClampNeg x_755 ∧ va_P D vwCl [(A_self, .inr (7, o7 q v w)), (q 55, .inl (c 1, 6, .inl f_756))] H ∧ va_D A [(A_self, .inr (7, o7 q v w)), (q 55, .inl (c 1, 6, .inl f_756))] := ⟨_, rfl, hP, hD⟩
                          have cl_757 : (f_756 0).toInt = (f_743 0).toInt := by rw [ef_756]; rfl
                          have cl_758 : (f_756 1).toInt = (f_743 1).toInt := by rw [ef_756]; rfl
                          have cl_759 : (f_756 2).toInt = x_755.toInt := by rw [ef_756]; rfl
                          have cl_760 : (f_756 3).toInt = (f_743 3).toInt := by rw [ef_756]; rfl
                          have cl_761 : (f_756 4).toInt = (f_743 4).toInt := by rw [ef_756]; rfl
                          have cl_762 : (f_756 5).toInt = (f_743 5).toInt := by rw [ef_756]; rfl
                          obtain ⟨x_763, ex_763⟩ : ∃ y : Int32, y = x_739 + 1 := ⟨_, rfl⟩
                          refine lv_iinc (v := x_763) (lv' := [(2, .int x_763), (5, .int 2), (4, .int r_477), (0, .ref A_self), (1, .int a1), (3, .int 1)]) hx hb dX7_take_110 hl (k := 1) rfl (by rw [ex_763]; rfl) (by decide) rfl (fun ls hl => ?_)
                          refine lv_goto (tgt := 75) hx hb dX7_take_113 (by decide) ?_
                          refine lv_iload hx hb dX7_take_75 (lv_at hl 1 rfl) ?_
                          refine lv_iload_n hx hb dX7_take_77 rfl (lv_at hl 5 rfl) ?_
                          refine iicmp_leF (a := 2) (b := 1) (tgt := 116) hx hb (by decide) (by decide) dX7_take_78 (by decide) (by decide) ?_
                          refine lv_aload_n hx hb dX7_take_81 rfl (lv_at hl 3 rfl) ?_
                          refine va_get (D := D) (ci := 7) (v := .ref (q 55)) (C := RX7) (T := TX7) (N := 56) hx hb hts (fun _ h => List.mem_cons_of_mem _ (List.mem_append_right _ h)) hown hK hP 0 rfl rfl 55 (by decide) (hts (.fieldLink RX7 118 "CrownTableModel" "cloth" "[I") (mem_i 2 rfl)) (fun _ h9 => h9) rfl dX7_take_82 ?_
                          refine lv_iload hx hb dX7_take_85 (lv_at hl 1 rfl) ?_
                          refine lv_dup2_11 hx hb dX7_take_87 rfl rfl ?_
                          refine va_iald hx hb hK hP 1 1 rfl rfl (vin (a := 2) (by decide) (by decide) (by decide)) dX7_take_88 ?_
                          refine lv_topi (fun x_764 ex_764 => ?_)
                          have lf_765 : (f_756 2).toInt = x_764.toInt := by rw [ex_764]; rfl
                          refine lv_iconst (v := 1) hx hb dX7_take_89 (by decide) ?_
                          refine lv_isub hx hb dX7_take_90 ?_
                          refine lv_topi (fun x_766 ex_766 => ?_)
                          have tx_766 : x_766.toInt = (x_764.toInt - 1) := by rw [ex_766]; exact sub_ti (a := x_764.toInt) (b := 1) rfl (by decide) (by omega) (by omega)
                          refine va_iast hx hb hK hP hD hS 1 1 rfl rfl (vin (a := 2) (by decide) (by decide) (by decide)) dX7_take_91 (fun H locs hP hD hS => ?_)
                          obtain ⟨f_767, ef_767, hP, hD⟩ : ∃ f_767 : Nat → Int32, f_767 = upd f_756 (2 : Int32).toNatClampNeg x_766 ∧ va_P D vwCl [(A_self, .inr (7, o7 q v w)), (q 55, .inl (c 1, 6, .inl f_767))] H ∧ va_D A [(A_self, .inr (7, o7 q v w)), (q 55, .inl (c 1, 6, .inl f_767))] := ⟨_, rfl, hP, hD⟩
                          have cl_768 : (f_767 0).toInt = (f_756 0).toInt := by rw [ef_767]; rfl
                          have cl_769 : (f_767 1).toInt = (f_756 1).toInt := by rw [ef_767]; rfl
                          have cl_770 : (f_767 2).toInt = x_766.toInt := by rw [ef_767]; rfl
                          have cl_771 : (f_767 3).toInt = (f_756 3).toInt := by rw [ef_767]; rfl
                          have cl_772 : (f_767 4).toInt = (f_756 4).toInt := by rw [ef_767]; rfl
                          have cl_773 : (f_767 5).toInt = (f_756 5).toInt := by rw [ef_767]; rfl
                          refine lv_iinc (v := 1) (lv' := [(5, .int 1), (2, .int x_763), (4, .int r_477), (0, .ref A_self), (1, .int a1), (3, .int 1)]) hx hb dX7_take_92 hl (k := 1) rfl (by decide) (by decide) rfl (fun ls hl => ?_)
                          refine lv_aload_n hx hb dX7_take_95 rfl (lv_at hl 3 rfl) ?_
                          refine va_get (D := D) (ci := 7) (v := .ref (q 55)) (C := RX7) (T := TX7) (N := 56) hx hb hts (fun _ h => List.mem_cons_of_mem _ (List.mem_append_right _ h)) hown hK hP 0 rfl rfl 55 (by decide) (hts (.fieldLink RX7 118 "CrownTableModel" "cloth" "[I") (mem_i 2 rfl)) (fun _ h9 => h9) rfl dX7_take_96 ?_
                          refine lv_iload hx hb dX7_take_99 (lv_at hl 0 rfl) ?_
                          refine lv_dup2_11 hx hb dX7_take_101 rfl rfl ?_
                          refine va_iald hx hb hK hP 1 1 rfl rfl (vin (a := 1) (by decide) (by decide) (by decide)) dX7_take_102 ?_
                          refine lv_topi (fun x_774 ex_774 => ?_)
                          have lf_775 : (f_767 1).toInt = x_774.toInt := by rw [ex_774]; rfl
                          refine lv_iload hx hb dX7_take_103 (lv_at hl 0 rfl) ?_
                          have hPc := hP.sub (ws' := []) [] rfl
                          have hDc := hD.sub (ws' := []) [] (by decide) rfl
                          have hFc := va_free (wc := []) hD hS hA [] rfl
                          have kzz_776 : (1 : Int32).toInt = 1 := by decide
                          refine va_csi (va_runS (As := [.int 1]) (rest := [.int x_774, .int 1, .ref (q 55)]) ⟨hx, hb, hml, hown, hts⟩ (k_X7_next l D c ts H.size 1 1 (by decide) (by omega)) (cwS 1 hts gX7_take_X7_next rfl rfl rfl ⟨rfl, hdX7_next⟩ ⟨(show 1 + 1 ≤ 2 by decide), (show 8 + (1 + 11) + 20 ≤ 43 by decide)⟩) ⟨Pre0.blind, Pre0.at hPc hDc hAm hSt hS hFc⟩ rfl rfl hl.1 rfl (lv_room (Nat.le_of_ble_eq_true rfl)) dX7_take_105 ⟨(show 0 + 0 ≤ 0 by decide), (show 0 + 0 ≤ 0 by decide)⟩) (fun r_778 hw_777 => ?_)
                          rcases hw_777 with ⟨hw_777, rfl⟩ | ⟨hw_777, rfl⟩ | ⟨hw_777, rfl⟩ | ⟨hw_777, rfl⟩
                          · exfalso; omega
                          · skip
                            refine lv_iadd hx hb dX7_take_108 ?_
                            refine lv_topi (fun x_779 ex_779 => ?_)
                            have tx_779 : x_779.toInt = (x_774.toInt + 20) := by rw [ex_779]; exact add_ti (a := x_774.toInt) (b := 20) rfl (by decide) (by omega) (by omega)
                            refine va_iast hx hb hK hP hD hS 1 1 rfl rfl (vin (a := 1) (by decide) (by decide) (by decide)) dX7_take_109 (fun H locs hP hD hS => ?_)
                            obtain ⟨f_780, ef_780, hP, hD⟩ : ∃ f_780 : Nat → Int32, f_780 = upd f_767 (1 : Int32).toNatClampNeg x_779 ∧ va_P D vwCl [(A_self, .inr (7, o7 q v w)), (q 55, .inl (c 1, 6, .inl f_780))] H ∧ va_D A [(A_self, .inr (7, o7 q v w)), (q 55, .inl (c 1, 6, .inl f_780))] := ⟨_, rfl, hP, hD⟩
                            have cl_781 : (f_780 0).toInt = (f_767 0).toInt := by rw [ef_780]; rfl
                            have cl_782 : (f_780 1).toInt = x_779.toInt := by rw [ef_780]; rfl
                            have cl_783 : (f_780 2).toInt = (f_767 2).toInt := by rw [ef_780]; rfl
                            have cl_784 : (f_780 3).toInt = (f_767 3).toInt := by rw [ef_780]; rfl
                            have cl_785 : (f_780 4).toInt = (f_767 4).toInt := by rw [ef_780]; rfl
                            have cl_786 : (f_780 5).toInt = (f_767 5).toInt := by rw [ef_780]; rfl
                            obtain ⟨x_787, ex_787⟩ : ∃ y : Int32, y = x_763 + 1 := ⟨_, rfl⟩
                            refine lv_iinc (v := x_787) (lv' := [(2, .int x_787), (5, .int 1), (4, .int r_477), (0, .ref A_self), (1, .int a1), (3, .int 1)]) hx hb dX7_take_110 hl (k := 1) rfl (by rw [ex_787]; rfl) (by decide) rfl (fun ls hl => ?_)
                            refine lv_goto (tgt := 75) hx hb dX7_take_113 (by decide) ?_
                            refine lv_iload hx hb dX7_take_75 (lv_at hl 1 rfl) ?_
                            refine lv_iload_n hx hb dX7_take_77 rfl (lv_at hl 5 rfl) ?_
                            refine iicmp_leT (a := 1) (b := 1) (tgt := 116) hx hb (by decide) (by decide) dX7_take_78 (by decide) (by decide) ?_
                            refine lv_goto (tgt := 43) hx hb dX7_take_116 (by decide) ?_
                            refine lv_aload_n hx hb dX7_take_43 rfl (lv_at hl 3 rfl) ?_
                            refine va_get (D := D) (ci := 7) (v := .ref (q 55)) (C := RX7) (T := TX7) (N := 56) hx hb hts (fun _ h => List.mem_cons_of_mem _ (List.mem_append_right _ h)) hown hK hP 0 rfl rfl 55 (by decide) (hts (.fieldLink RX7 118 "CrownTableModel" "cloth" "[I") (mem_i 2 rfl)) (fun _ h9 => h9) rfl dX7_take_44 ?_
                            refine lv_iload_n hx hb dX7_take_47 rfl (lv_at hl 5 rfl) ?_
                            refine va_iald hx hb hK hP 1 1 rfl rfl (vin (a := 1) (by decide) (by decide) (by decide)) dX7_take_48 ?_
                            refine lv_topi (fun x_788 ex_788 => ?_)
                            have lf_789 : (f_780 1).toInt = x_788.toInt := by rw [ex_788]; rfl
                            refine lv_iload hx hb dX7_take_49 (lv_at hl 2 rfl) ?_
                            refine iicmp_ge (a := x_788.toInt) (b := r_477.toInt) (tgt := 119) hx hb rfl rfl dX7_take_51 (by decide) (fun k_790 => ?_) (fun k_790 => ?_)
                            · skip
                              refine lv_aload_n hx hb dX7_take_119 rfl (lv_at hl 3 rfl) ?_
                              refine va_get (D := D) (ci := 7) (v := .ref (q 55)) (C := RX7) (T := TX7) (N := 56) hx hb hts (fun _ h => List.mem_cons_of_mem _ (List.mem_append_right _ h)) hown hK hP 0 rfl rfl 55 (by decide) (hts (.fieldLink RX7 118 "CrownTableModel" "cloth" "[I") (mem_i 2 rfl)) (fun _ h9 => h9) rfl dX7_take_120 ?_
                              refine lv_iload_n hx hb dX7_take_123 rfl (lv_at hl 5 rfl) ?_
                              refine lv_dup2_11 hx hb dX7_take_124 rfl rfl ?_
                              refine va_iald hx hb hK hP 1 1 rfl rfl (vin (a := 1) (by decide) (by decide) (by decide)) dX7_take_125 ?_
                              refine lv_topi (fun x_791 ex_791 => ?_)
                              have lf_792 : (f_780 1).toInt = x_791.toInt := by rw [ex_791]; rfl
                              refine lv_iload hx hb dX7_take_126 (lv_at hl 2 rfl) ?_
                              refine lv_isub hx hb dX7_take_128 ?_
                              refine lv_topi (fun x_793 ex_793 => ?_)
                              have tx_793 : x_793.toInt = (x_791.toInt - r_477.toInt) := by rw [ex_793]; exact sub_ti (a := x_791.toInt) (b := r_477.toInt) rfl rfl (by omega) (by omega)
                              refine va_iast hx hb hK hP hD hS 1 1 rfl rfl (vin (a := 1) (by decide) (by decide) (by decide)) dX7_take_129 (fun H locs hP hD hS => ?_)
                              obtain ⟨f_794, ef_794, hP, hD⟩ : ∃ f_794 : Nat → Int32, f_794 = upd f_780 (1 : Int32).toNatClampNeg x_793 ∧ va_P D vwCl [(A_self, .inr (7, o7 q v w)), (q 55, .inl (c 1, 6, .inl f_794))] H ∧ va_D A [(A_self, .inr (7, o7 q v w)), (q 55, .inl (c 1, 6, .inl f_794))] := ⟨_, rfl, hP, hD⟩
                              have cl_795 : (f_794 0).toInt = (f_780 0).toInt := by rw [ef_794]; rfl
                              have cl_796 : (f_794 1).toInt = x_793.toInt := by rw [ef_794]; rfl
                              have cl_797 : (f_794 2).toInt = (f_780 2).toInt := by rw [ef_794]; rfl
                              have cl_798 : (f_794 3).toInt = (f_780 3).toInt := by rw [ef_794]; rfl
                              have cl_799 : (f_794 4).toInt = (f_780 4).toInt := by rw [ef_794]; rfl
                              have cl_800 : (f_794 5).toInt = (f_780 5).toInt := by rw [ef_794]; rfl
                              refine lv_iinc (v := 2) (lv' := [(3, .int 2), (2, .int x_787), (5, .int 1), (4, .int r_477), (0, .ref A_self), (1, .int a1)]) hx hb dX7_take_130 hl (k := 5) rfl (by decide) (by decide) rfl (fun ls hl => ?_)
                              refine lv_goto (tgt := 30) hx hb dX7_take_133 (by decide) ?_
                              have kzz_801 : (2 : Int32).toInt = 2 := by decide
                              have hl := lv_sub hl [4, 5, 1, 0] rfl
                              exact (ih30 ((6 - (2 : Int32).toInt).toNat) (by omega) x_787 2 f_794 (by omega) (by omega) (by omega) (by omega) (by omega) (by omega) (by omega) (by omega) (by omega) (by omega) (by omega) (by omega) (by omega) (by omega) rfl _ _ _ hP hD hS hl)
                            · skip
                              exfalso; omega
                          · exfalso; omega
                          · exfalso; omega
                        · exfalso; omega
                        · exfalso; omega
                      · exfalso; omega
                  · skip
                    exfalso; omega
        · skip
          obtain rfl : L3 = 2 := Int32.toInt_inj.mp (by rw [hsp]; rfl)
          have hl : lv_has ls 6 [(0, .ref A_self), (1, .int a1), (2, .int L2), (3, .int 2)] := hl
          have kzz_802 : (2 : Int32).toInt = 2 := by decide
          refine lv_iload_n hx hb dX7_take_30 rfl (lv_at hl 3 rfl) ?_
          refine lv_bipush (v := 6) hx hb dX7_take_31 (by decide) ?_
          refine iicmp_geF (a := 2) (b := 6) (tgt := 136) hx hb (by decide) (by decide) dX7_take_33 (by decide) (by decide) ?_
          refine lv_iload_n hx hb dX7_take_36 rfl (lv_at hl 1 rfl) ?_
          refine lv_iload_n hx hb dX7_take_37 rfl (lv_at hl 3 rfl) ?_
          have hPc := hP.sub (ws' := []) [] rfl
          have hDc := hD.sub (ws' := []) [] (by decide) rfl
          have hFc := va_free (wc := []) hD hS hA [] rfl
          have kzz_803 : (2 : Int32).toInt = 2 := by decide
          refine va_csi (va_runS (As := [.int a1, .int 2]) (rest := []) ⟨hx, hb, hml, hown, hts⟩ (k_X7_notch_P l D c ts H.size a1 i_a1 hi_a1 2 2 (by decide) (by omega) (by omega)) (cwS 2 hts gX7_take_X7_notch rfl rfl rfl ⟨rfl, hdX7_notch⟩ ⟨(show 1 + 1 ≤ 2 by decide), (show 8 + (2 + 11) + 20 ≤ 43 by decide)⟩) ⟨Pre0.blind, Pre0.at hPc hDc hAm hSt hS hFc⟩ rfl rfl hl.1 rfl (lv_room (Nat.le_of_ble_eq_true rfl)) dX7_take_38 ⟨(show 0 + 0 ≤ 0 by decide), (show 0 + 0 ≤ 0 by decide)⟩) (fun r_805 hw_804 => ?_)
          have nf_806 := hw_804.2.2.2.1 rfl
          have nf_807 := hw_804.1
          clear hw_804
          have rg_r_805 := i32r r_805
          refine lv_istore (lv' := [(4, .int r_805), (0, .ref A_self), (1, .int a1), (2, .int L2), (3, .int 2)]) hx hb dX7_take_41 hl (by decide) rfl (fun ls hl => ?_)
          refine lv_aload_n hx hb dX7_take_43 rfl (lv_at hl 1 rfl) ?_
          refine va_get (D := D) (ci := 7) (v := .ref (q 55)) (C := RX7) (T := TX7) (N := 56) hx hb hts (fun _ h => List.mem_cons_of_mem _ (List.mem_append_right _ h)) hown hK hP 0 rfl rfl 55 (by decide) (hts (.fieldLink RX7 118 "CrownTableModel" "cloth" "[I") (mem_i 2 rfl)) (fun _ h9 => h9) rfl dX7_take_44 ?_
          refine lv_iload_n hx hb dX7_take_47 rfl (lv_at hl 4 rfl) ?_
          refine va_iald hx hb hK hP 1 1 rfl rfl (vin (a := 2) (by decide) (by decide) (by decide)) dX7_take_48 ?_
          refine lv_topi (fun x_808 ex_808 => ?_)
          have lf_809 : (M_cloth 2).toInt = x_808.toInt := by rw [ex_808]; rfl
          refine lv_iload hx hb dX7_take_49 (lv_at hl 0 rfl) ?_
          refine iicmp_ge (a := x_808.toInt) (b := r_805.toInt) (tgt := 119) hx hb rfl rfl dX7_take_51 (by decide) (fun k_810 => ?_) (fun k_810 => ?_)
          · skip
            refine lv_aload_n hx hb dX7_take_119 rfl (lv_at hl 1 rfl) ?_
            refine va_get (D := D) (ci := 7) (v := .ref (q 55)) (C := RX7) (T := TX7) (N := 56) hx hb hts (fun _ h => List.mem_cons_of_mem _ (List.mem_append_right _ h)) hown hK hP 0 rfl rfl 55 (by decide) (hts (.fieldLink RX7 118 "CrownTableModel" "cloth" "[I") (mem_i 2 rfl)) (fun _ h9 => h9) rfl dX7_take_120 ?_
            refine lv_iload_n hx hb dX7_take_123 rfl (lv_at hl 4 rfl) ?_
            refine lv_dup2_11 hx hb dX7_take_124 rfl rfl ?_
            refine va_iald hx hb hK hP 1 1 rfl rfl (vin (a := 2) (by decide) (by decide) (by decide)) dX7_take_125 ?_
            refine lv_topi (fun x_811 ex_811 => ?_)
            have lf_812 : (M_cloth 2).toInt = x_811.toInt := by rw [ex_811]; rfl
            refine lv_iload hx hb dX7_take_126 (lv_at hl 0 rfl) ?_
            refine lv_isub hx hb dX7_take_128 ?_
            refine lv_topi (fun x_813 ex_813 => ?_)
            have tx_813 : x_813.toInt = (x_811.toInt - r_805.toInt) := by rw [ex_813]; exact sub_ti (a := x_811.toInt) (b := r_805.toInt) rfl rfl (by omega) (by omega)
            refine va_iast hx hb hK hP hD hS 1 1 rfl rfl (vin (a := 2) (by decide) (by decide) (by decide)) dX7_take_129 (fun H locs hP hD hS => ?_)
            obtain ⟨f_814, ef_814, hP, hD⟩ : ∃ f_814 : Nat → Int32, f_814 = upd M_cloth (2 : Int32).toNatClampNeg x_813 ∧ va_P D vwCl [(A_self, .inr (7, o7 q v w)), (q 55, .inl (c 1, 6, .inl f_814))] H ∧ va_D A [(A_self, .inr (7, o7 q v w)), (q 55, .inl (c 1, 6, .inl f_814))] := ⟨_, rfl, hP, hD⟩
            have cl_815 : (f_814 0).toInt = (M_cloth 0).toInt := by rw [ef_814]; rfl
            have cl_816 : (f_814 1).toInt = (M_cloth 1).toInt := by rw [ef_814]; rfl
            have cl_817 : (f_814 2).toInt = x_813.toInt := by rw [ef_814]; rfl
            have cl_818 : (f_814 3).toInt = (M_cloth 3).toInt := by rw [ef_814]; rfl
            have cl_819 : (f_814 4).toInt = (M_cloth 4).toInt := by rw [ef_814]; rfl
            have cl_820 : (f_814 5).toInt = (M_cloth 5).toInt := by rw [ef_814]; rfl
            refine lv_iinc (v := 3) (lv' := [(3, .int 3), (4, .int r_805), (0, .ref A_self), (1, .int a1), (2, .int L2)]) hx hb dX7_take_130 hl (k := 4) rfl (by decide) (by decide) rfl (fun ls hl => ?_)
            refine lv_goto (tgt := 30) hx hb dX7_take_133 (by decide) ?_
            have kzz_821 : (3 : Int32).toInt = 3 := by decide
            have hl := lv_sub hl [2, 3, 4, 0] rfl
            exact (ih30 ((6 - (3 : Int32).toInt).toNat) (by omega) L2 3 f_814 (by omega) (by omega) (by omega) (by omega) (by omega) (by omega) (by omega) (by omega) (by omega) (by omega) (by omega) (by omega) (by omega) (by omega) rfl _ _ _ hP hD hS hl)
          · skip
            refine lv_iload_n hx hb dX7_take_54 rfl (lv_at hl 4 rfl) ?_
            refine lv_iconst (v := 1) hx hb dX7_take_55 (by decide) ?_
            refine lv_iadd hx hb dX7_take_56 ?_
            refine lk_i (y := 3) (by decide) ?_
            refine lv_istore (lv' := [(5, .int 3), (4, .int r_805), (0, .ref A_self), (1, .int a1), (2, .int L2), (3, .int 2)]) hx hb dX7_take_57 hl (by decide) rfl (fun ls hl => ?_)
            refine lv_aload_n hx hb dX7_take_59 rfl (lv_at hl 2 rfl) ?_
            refine va_get (D := D) (ci := 7) (v := .ref (q 55)) (C := RX7) (T := TX7) (N := 56) hx hb hts (fun _ h => List.mem_cons_of_mem _ (List.mem_append_right _ h)) hown hK hP 0 rfl rfl 55 (by decide) (hts (.fieldLink RX7 118 "CrownTableModel" "cloth" "[I") (mem_i 2 rfl)) (fun _ h9 => h9) rfl dX7_take_60 ?_
            refine lv_iload hx hb dX7_take_63 (lv_at hl 0 rfl) ?_
            refine va_iald hx hb hK hP 1 1 rfl rfl (vin (a := 3) (by decide) (by decide) (by decide)) dX7_take_65 ?_
            refine lv_topi (fun x_822 ex_822 => ?_)
            have lf_823 : (M_cloth 3).toInt = x_822.toInt := by rw [ex_822]; rfl
            refine iif_ne (a := x_822.toInt) (tgt := 75) hx hb rfl dX7_take_66 (by decide) (fun k_824 => ?_) (fun k_824 => ?_)
            · skip
              refine lv_iload hx hb dX7_take_75 (lv_at hl 0 rfl) ?_
              refine lv_iload_n hx hb dX7_take_77 rfl (lv_at hl 5 rfl) ?_
              refine iicmp_leF (a := 3) (b := 2) (tgt := 116) hx hb (by decide) (by decide) dX7_take_78 (by decide) (by decide) ?_
              refine lv_aload_n hx hb dX7_take_81 rfl (lv_at hl 2 rfl) ?_
              refine va_get (D := D) (ci := 7) (v := .ref (q 55)) (C := RX7) (T := TX7) (N := 56) hx hb hts (fun _ h => List.mem_cons_of_mem _ (List.mem_append_right _ h)) hown hK hP 0 rfl rfl 55 (by decide) (hts (.fieldLink RX7 118 "CrownTableModel" "cloth" "[I") (mem_i 2 rfl)) (fun _ h9 => h9) rfl dX7_take_82 ?_
              refine lv_iload hx hb dX7_take_85 (lv_at hl 0 rfl) ?_
              refine lv_dup2_11 hx hb dX7_take_87 rfl rfl ?_
              refine va_iald hx hb hK hP 1 1 rfl rfl (vin (a := 3) (by decide) (by decide) (by decide)) dX7_take_88 ?_
              refine lv_topi (fun x_825 ex_825 => ?_)
              have lf_826 : (M_cloth 3).toInt = x_825.toInt := by rw [ex_825]; rfl
              refine lv_iconst (v := 1) hx hb dX7_take_89 (by decide) ?_
              refine lv_isub hx hb dX7_take_90 ?_
              refine lv_topi (fun x_827 ex_827 => ?_)
              have tx_827 : x_827.toInt = (x_825.toInt - 1) := by rw [ex_827]; exact sub_ti (a := x_825.toInt) (b := 1) rfl (by decide) (by omega) (by omega)
              refine va_iast hx hb hK hP hD hS 1 1 rfl rfl (vin (a := 3) (by decide) (by decide) (by decide)) dX7_take_91 (fun H locs hP hD hS => ?_)
              obtain ⟨f_828, ef_828, hP, hD⟩ : ∃ f_828 : Nat → Int32, f_828 = upd M_cloth (3 : Int32).toNatClampNeg x_827 ∧ va_P D vwCl [(A_self, .inr (7, o7 q v w)), (q 55, .inl (c 1, 6, .inl f_828))] H ∧ va_D A [(A_self, .inr (7, o7 q v w)), (q 55, .inl (c 1, 6, .inl f_828))] := ⟨_, rfl, hP, hD⟩
              have cl_829 : (f_828 0).toInt = (M_cloth 0).toInt := by rw [ef_828]; rfl
              have cl_830 : (f_828 1).toInt = (M_cloth 1).toInt := by rw [ef_828]; rfl
              have cl_831 : (f_828 2).toInt = (M_cloth 2).toInt := by rw [ef_828]; rfl
              have cl_832 : (f_828 3).toInt = x_827.toInt := by rw [ef_828]; rfl
              have cl_833 : (f_828 4).toInt = (M_cloth 4).toInt := by rw [ef_828]; rfl
              have cl_834 : (f_828 5).toInt = (M_cloth 5).toInt := by rw [ef_828]; rfl
              refine lv_iinc (v := 2) (lv' := [(5, .int 2), (4, .int r_805), (0, .ref A_self), (1, .int a1), (2, .int L2), (3, .int 2)]) hx hb dX7_take_92 hl (k := 0) rfl (by decide) (by decide) rfl (fun ls hl => ?_)
              refine lv_aload_n hx hb dX7_take_95 rfl (lv_at hl 2 rfl) ?_
              refine va_get (D := D) (ci := 7) (v := .ref (q 55)) (C := RX7) (T := TX7) (N := 56) hx hb hts (fun _ h => List.mem_cons_of_mem _ (List.mem_append_right _ h)) hown hK hP 0 rfl rfl 55 (by decide) (hts (.fieldLink RX7 118 "CrownTableModel" "cloth" "[I") (mem_i 2 rfl)) (fun _ h9 => h9) rfl dX7_take_96 ?_
              refine lv_iload hx hb dX7_take_99 (lv_at hl 0 rfl) ?_
              refine lv_dup2_11 hx hb dX7_take_101 rfl rfl ?_
              refine va_iald hx hb hK hP 1 1 rfl rfl (vin (a := 2) (by decide) (by decide) (by decide)) dX7_take_102 ?_
              refine lv_topi (fun x_835 ex_835 => ?_)
              have lf_836 : (f_828 2).toInt = x_835.toInt := by rw [ex_835]; rfl
              refine lv_iload hx hb dX7_take_103 (lv_at hl 0 rfl) ?_
              have hPc := hP.sub (ws' := []) [] rfl
              have hDc := hD.sub (ws' := []) [] (by decide) rfl
              have hFc := va_free (wc := []) hD hS hA [] rfl
              have kzz_837 : (2 : Int32).toInt = 2 := by decide
              refine va_csi (va_runS (As := [.int 2]) (rest := [.int x_835, .int 2, .ref (q 55)]) ⟨hx, hb, hml, hown, hts⟩ (k_X7_next l D c ts H.size 2 2 (by decide) (by omega)) (cwS 1 hts gX7_take_X7_next rfl rfl rfl ⟨rfl, hdX7_next⟩ ⟨(show 1 + 1 ≤ 2 by decide), (show 8 + (1 + 11) + 20 ≤ 43 by decide)⟩) ⟨Pre0.blind, Pre0.at hPc hDc hAm hSt hS hFc⟩ rfl rfl hl.1 rfl (lv_room (Nat.le_of_ble_eq_true rfl)) dX7_take_105 ⟨(show 0 + 0 ≤ 0 by decide), (show 0 + 0 ≤ 0 by decide)⟩) (fun r_839 hw_838 => ?_)
              rcases hw_838 with ⟨hw_838, rfl⟩ | ⟨hw_838, rfl⟩ | ⟨hw_838, rfl⟩ | ⟨hw_838, rfl⟩
              · exfalso; omega
              · skip
                refine lv_iadd hx hb dX7_take_108 ?_
                refine lv_topi (fun x_840 ex_840 => ?_)
                have tx_840 : x_840.toInt = (x_835.toInt + 20) := by rw [ex_840]; exact add_ti (a := x_835.toInt) (b := 20) rfl (by decide) (by omega) (by omega)
                refine va_iast hx hb hK hP hD hS 1 1 rfl rfl (vin (a := 2) (by decide) (by decide) (by decide)) dX7_take_109 (fun H locs hP hD hS => ?_)
                obtain ⟨f_841, ef_841, hP, hD⟩ : ∃ f_841 : Nat → Int32, f_841 = upd f_828 (2 : Int32).toNatClampNeg x_840 ∧ va_P D vwCl [(A_self, .inr (7, o7 q v w)), (q 55, .inl (c 1, 6, .inl f_841))] H ∧ va_D A [(A_self, .inr (7, o7 q v w)), (q 55, .inl (c 1, 6, .inl f_841))] := ⟨_, rfl, hP, hD⟩
                have cl_842 : (f_841 0).toInt = (f_828 0).toInt := by rw [ef_841]; rfl
                have cl_843 : (f_841 1).toInt = (f_828 1).toInt := by rw [ef_841]; rfl
                have cl_844 : (f_841 2).toInt = x_840.toInt := by rw [ef_841]; rfl
                have cl_845 : (f_841 3).toInt = (f_828 3).toInt := by rw [ef_841]; rfl
                have cl_846 : (f_841 4).toInt = (f_828 4).toInt := by rw [ef_841]; rfl
                have cl_847 : (f_841 5).toInt = (f_828 5).toInt := by rw [ef_841]; rfl
                obtain ⟨x_848, ex_848⟩ : ∃ y : Int32, y = L2 + 1 := ⟨_, rfl⟩
                refine lv_iinc (v := x_848) (lv' := [(2, .int x_848), (5, .int 2), (4, .int r_805), (0, .ref A_self), (1, .int a1), (3, .int 2)]) hx hb dX7_take_110 hl (k := 4) rfl (by rw [ex_848]; rfl) (by decide) rfl (fun ls hl => ?_)
                refine lv_goto (tgt := 75) hx hb dX7_take_113 (by decide) ?_
                refine lv_iload hx hb dX7_take_75 (lv_at hl 1 rfl) ?_
                refine lv_iload_n hx hb dX7_take_77 rfl (lv_at hl 5 rfl) ?_
                refine iicmp_leT (a := 2) (b := 2) (tgt := 116) hx hb (by decide) (by decide) dX7_take_78 (by decide) (by decide) ?_
                refine lv_goto (tgt := 43) hx hb dX7_take_116 (by decide) ?_
                refine lv_aload_n hx hb dX7_take_43 rfl (lv_at hl 3 rfl) ?_
                refine va_get (D := D) (ci := 7) (v := .ref (q 55)) (C := RX7) (T := TX7) (N := 56) hx hb hts (fun _ h => List.mem_cons_of_mem _ (List.mem_append_right _ h)) hown hK hP 0 rfl rfl 55 (by decide) (hts (.fieldLink RX7 118 "CrownTableModel" "cloth" "[I") (mem_i 2 rfl)) (fun _ h9 => h9) rfl dX7_take_44 ?_
                refine lv_iload_n hx hb dX7_take_47 rfl (lv_at hl 5 rfl) ?_
                refine va_iald hx hb hK hP 1 1 rfl rfl (vin (a := 2) (by decide) (by decide) (by decide)) dX7_take_48 ?_
                refine lv_topi (fun x_849 ex_849 => ?_)
                have lf_850 : (f_841 2).toInt = x_849.toInt := by rw [ex_849]; rfl
                refine lv_iload hx hb dX7_take_49 (lv_at hl 2 rfl) ?_
                refine iicmp_ge (a := x_849.toInt) (b := r_805.toInt) (tgt := 119) hx hb rfl rfl dX7_take_51 (by decide) (fun k_851 => ?_) (fun k_851 => ?_)
                · skip
                  refine lv_aload_n hx hb dX7_take_119 rfl (lv_at hl 3 rfl) ?_
                  refine va_get (D := D) (ci := 7) (v := .ref (q 55)) (C := RX7) (T := TX7) (N := 56) hx hb hts (fun _ h => List.mem_cons_of_mem _ (List.mem_append_right _ h)) hown hK hP 0 rfl rfl 55 (by decide) (hts (.fieldLink RX7 118 "CrownTableModel" "cloth" "[I") (mem_i 2 rfl)) (fun _ h9 => h9) rfl dX7_take_120 ?_
                  refine lv_iload_n hx hb dX7_take_123 rfl (lv_at hl 5 rfl) ?_
                  refine lv_dup2_11 hx hb dX7_take_124 rfl rfl ?_
                  refine va_iald hx hb hK hP 1 1 rfl rfl (vin (a := 2) (by decide) (by decide) (by decide)) dX7_take_125 ?_
                  refine lv_topi (fun x_852 ex_852 => ?_)
                  have lf_853 : (f_841 2).toInt = x_852.toInt := by rw [ex_852]; rfl
                  refine lv_iload hx hb dX7_take_126 (lv_at hl 2 rfl) ?_
                  refine lv_isub hx hb dX7_take_128 ?_
                  refine lv_topi (fun x_854 ex_854 => ?_)
                  have tx_854 : x_854.toInt = (x_852.toInt - r_805.toInt) := by rw [ex_854]; exact sub_ti (a := x_852.toInt) (b := r_805.toInt) rfl rfl (by omega) (by omega)
                  refine va_iast hx hb hK hP hD hS 1 1 rfl rfl (vin (a := 2) (by decide) (by decide) (by decide)) dX7_take_129 (fun H locs hP hD hS => ?_)
                  obtain ⟨f_855, ef_855, hP, hD⟩ : ∃ f_855 : Nat → Int32, f_855 = upd f_841 (2 : Int32).toNatClampNeg x_854 ∧ va_P D vwCl [(A_self, .inr (7, o7 q v w)), (q 55, .inl (c 1, 6, .inl f_855))] H ∧ va_D A [(A_self, .inr (7, o7 q v w)), (q 55, .inl (c 1, 6, .inl f_855))] := ⟨_, rfl, hP, hD⟩
                  have cl_856 : (f_855 0).toInt = (f_841 0).toInt := by rw [ef_855]; rfl
                  have cl_857 : (f_855 1).toInt = (f_841 1).toInt := by rw [ef_855]; rfl
                  have cl_858 : (f_855 2).toInt = x_854.toInt := by rw [ef_855]; rfl
                  have cl_859 : (f_855 3).toInt = (f_841 3).toInt := by rw [ef_855]; rfl
                  have cl_860 : (f_855 4).toInt = (f_841 4).toInt := by rw [ef_855]; rfl
                  have cl_861 : (f_855 5).toInt = (f_841 5).toInt := by rw [ef_855]; rfl
                  refine lv_iinc (v := 3) (lv' := [(3, .int 3), (2, .int x_848), (5, .int 2), (4, .int r_805), (0, .ref A_self), (1, .int a1)]) hx hb dX7_take_130 hl (k := 5) rfl (by decide) (by decide) rfl (fun ls hl => ?_)
                  refine lv_goto (tgt := 30) hx hb dX7_take_133 (by decide) ?_
                  have kzz_862 : (3 : Int32).toInt = 3 := by decide
                  have hl := lv_sub hl [4, 5, 1, 0] rfl
                  exact (ih30 ((6 - (3 : Int32).toInt).toNat) (by omega) x_848 3 f_855 (by omega) (by omega) (by omega) (by omega) (by omega) (by omega) (by omega) (by omega) (by omega) (by omega) (by omega) (by omega) (by omega) (by omega) rfl _ _ _ hP hD hS hl)
                · skip
                  exfalso; omega
              · exfalso; omega
              · exfalso; omega
            · skip
              refine lv_iinc (v := 4) (lv' := [(5, .int 4), (4, .int r_805), (0, .ref A_self), (1, .int a1), (2, .int L2), (3, .int 2)]) hx hb dX7_take_69 hl (k := 0) rfl (by decide) (by decide) rfl (fun ls hl => ?_)
              refine lv_goto (tgt := 59) hx hb dX7_take_72 (by decide) ?_
              refine lv_aload_n hx hb dX7_take_59 rfl (lv_at hl 2 rfl) ?_
              refine va_get (D := D) (ci := 7) (v := .ref (q 55)) (C := RX7) (T := TX7) (N := 56) hx hb hts (fun _ h => List.mem_cons_of_mem _ (List.mem_append_right _ h)) hown hK hP 0 rfl rfl 55 (by decide) (hts (.fieldLink RX7 118 "CrownTableModel" "cloth" "[I") (mem_i 2 rfl)) (fun _ h9 => h9) rfl dX7_take_60 ?_
              refine lv_iload hx hb dX7_take_63 (lv_at hl 0 rfl) ?_
              refine va_iald hx hb hK hP 1 1 rfl rfl (vin (a := 4) (by decide) (by decide) (by decide)) dX7_take_65 ?_
              refine lv_topi (fun x_863 ex_863 => ?_)
              have lf_864 : (M_cloth 4).toInt = x_863.toInt := by rw [ex_863]; rfl
              refine iif_ne (a := x_863.toInt) (tgt := 75) hx hb rfl dX7_take_66 (by decide) (fun k_865 => ?_) (fun k_865 => ?_)
              · skip
                refine lv_iload hx hb dX7_take_75 (lv_at hl 0 rfl) ?_
                refine lv_iload_n hx hb dX7_take_77 rfl (lv_at hl 5 rfl) ?_
                refine iicmp_leF (a := 4) (b := 2) (tgt := 116) hx hb (by decide) (by decide) dX7_take_78 (by decide) (by decide) ?_
                refine lv_aload_n hx hb dX7_take_81 rfl (lv_at hl 2 rfl) ?_
                refine va_get (D := D) (ci := 7) (v := .ref (q 55)) (C := RX7) (T := TX7) (N := 56) hx hb hts (fun _ h => List.mem_cons_of_mem _ (List.mem_append_right _ h)) hown hK hP 0 rfl rfl 55 (by decide) (hts (.fieldLink RX7 118 "CrownTableModel" "cloth" "[I") (mem_i 2 rfl)) (fun _ h9 => h9) rfl dX7_take_82 ?_
                refine lv_iload hx hb dX7_take_85 (lv_at hl 0 rfl) ?_
                refine lv_dup2_11 hx hb dX7_take_87 rfl rfl ?_
                refine va_iald hx hb hK hP 1 1 rfl rfl (vin (a := 4) (by decide) (by decide) (by decide)) dX7_take_88 ?_
                refine lv_topi (fun x_866 ex_866 => ?_)
                have lf_867 : (M_cloth 4).toInt = x_866.toInt := by rw [ex_866]; rfl
                refine lv_iconst (v := 1) hx hb dX7_take_89 (by decide) ?_
                refine lv_isub hx hb dX7_take_90 ?_
                refine lv_topi (fun x_868 ex_868 => ?_)
                have tx_868 : x_868.toInt = (x_866.toInt - 1) := by rw [ex_868]; exact sub_ti (a := x_866.toInt) (b := 1) rfl (by decide) (by omega) (by omega)
                refine va_iast hx hb hK hP hD hS 1 1 rfl rfl (vin (a := 4) (by decide) (by decide) (by decide)) dX7_take_91 (fun H locs hP hD hS => ?_)
                obtain ⟨f_869, ef_869, hP, hD⟩ : ∃ f_869 : Nat → Int32, f_869 = upd M_cloth (4 : Int32).toNatClampNeg x_868 ∧ va_P D vwCl [(A_self, .inr (7, o7 q v w)), (q 55, .inl (c 1, 6, .inl f_869))] H ∧ va_D A [(A_self, .inr (7, o7 q v w)), (q 55, .inl (c 1, 6, .inl f_869))] := ⟨_, rfl, hP, hD⟩
                have cl_870 : (f_869 0).toInt = (M_cloth 0).toInt := by rw [ef_869]; rfl
                have cl_871 : (f_869 1).toInt = (M_cloth 1).toInt := by rw [ef_869]; rfl
                have cl_872 : (f_869 2).toInt = (M_cloth 2).toInt := by rw [ef_869]; rfl
                have cl_873 : (f_869 3).toInt = (M_cloth 3).toInt := by rw [ef_869]; rfl
                have cl_874 : (f_869 4).toInt = x_868.toInt := by rw [ef_869]; rfl
                have cl_875 : (f_869 5).toInt = (M_cloth 5).toInt := by rw [ef_869]; rfl
                refine lv_iinc (v := 3) (lv' := [(5, .int 3), (4, .int r_805), (0, .ref A_self), (1, .int a1), (2, .int L2), (3, .int 2)]) hx hb dX7_take_92 hl (k := 0) rfl (by decide) (by decide) rfl (fun ls hl => ?_)
                refine lv_aload_n hx hb dX7_take_95 rfl (lv_at hl 2 rfl) ?_
                refine va_get (D := D) (ci := 7) (v := .ref (q 55)) (C := RX7) (T := TX7) (N := 56) hx hb hts (fun _ h => List.mem_cons_of_mem _ (List.mem_append_right _ h)) hown hK hP 0 rfl rfl 55 (by decide) (hts (.fieldLink RX7 118 "CrownTableModel" "cloth" "[I") (mem_i 2 rfl)) (fun _ h9 => h9) rfl dX7_take_96 ?_
                refine lv_iload hx hb dX7_take_99 (lv_at hl 0 rfl) ?_
                refine lv_dup2_11 hx hb dX7_take_101 rfl rfl ?_
                refine va_iald hx hb hK hP 1 1 rfl rfl (vin (a := 3) (by decide) (by decide) (by decide)) dX7_take_102 ?_
                refine lv_topi (fun x_876 ex_876 => ?_)
                have lf_877 : (f_869 3).toInt = x_876.toInt := by rw [ex_876]; rfl
                refine lv_iload hx hb dX7_take_103 (lv_at hl 0 rfl) ?_
                have hPc := hP.sub (ws' := []) [] rfl
                have hDc := hD.sub (ws' := []) [] (by decide) rfl
                have hFc := va_free (wc := []) hD hS hA [] rfl
                have kzz_878 : (3 : Int32).toInt = 3 := by decide
                refine va_csi (va_runS (As := [.int 3]) (rest := [.int x_876, .int 3, .ref (q 55)]) ⟨hx, hb, hml, hown, hts⟩ (k_X7_next l D c ts H.size 3 3 (by decide) (by omega)) (cwS 1 hts gX7_take_X7_next rfl rfl rfl ⟨rfl, hdX7_next⟩ ⟨(show 1 + 1 ≤ 2 by decide), (show 8 + (1 + 11) + 20 ≤ 43 by decide)⟩) ⟨Pre0.blind, Pre0.at hPc hDc hAm hSt hS hFc⟩ rfl rfl hl.1 rfl (lv_room (Nat.le_of_ble_eq_true rfl)) dX7_take_105 ⟨(show 0 + 0 ≤ 0 by decide), (show 0 + 0 ≤ 0 by decide)⟩) (fun r_880 hw_879 => ?_)
                rcases hw_879 with ⟨hw_879, rfl⟩ | ⟨hw_879, rfl⟩ | ⟨hw_879, rfl⟩ | ⟨hw_879, rfl⟩
                · exfalso; omega
                · exfalso; omega
                · skip
                  refine lv_iadd hx hb dX7_take_108 ?_
                  refine lv_topi (fun x_881 ex_881 => ?_)
                  have tx_881 : x_881.toInt = (x_876.toInt + 5) := by rw [ex_881]; exact add_ti (a := x_876.toInt) (b := 5) rfl (by decide) (by omega) (by omega)
                  refine va_iast hx hb hK hP hD hS 1 1 rfl rfl (vin (a := 3) (by decide) (by decide) (by decide)) dX7_take_109 (fun H locs hP hD hS => ?_)
                  obtain ⟨f_882, ef_882, hP, hD⟩ : ∃ f_882 : Nat → Int32, f_882 = upd f_869 (3 : Int32).toNatClampNeg x_881 ∧ va_P D vwCl [(A_self, .inr (7, o7 q v w)), (q 55, .inl (c 1, 6, .inl f_882))] H ∧ va_D A [(A_self, .inr (7, o7 q v w)), (q 55, .inl (c 1, 6, .inl f_882))] := ⟨_, rfl, hP, hD⟩
                  have cl_883 : (f_882 0).toInt = (f_869 0).toInt := by rw [ef_882]; rfl
                  have cl_884 : (f_882 1).toInt = (f_869 1).toInt := by rw [ef_882]; rfl
                  have cl_885 : (f_882 2).toInt = (f_869 2).toInt := by rw [ef_882]; rfl
                  have cl_886 : (f_882 3).toInt = x_881.toInt := by rw [ef_882]; rfl
                  have cl_887 : (f_882 4).toInt = (f_869 4).toInt := by rw [ef_882]; rfl
                  have cl_888 : (f_882 5).toInt = (f_869 5).toInt := by rw [ef_882]; rfl
                  obtain ⟨x_889, ex_889⟩ : ∃ y : Int32, y = L2 + 1 := ⟨_, rfl⟩
                  refine lv_iinc (v := x_889) (lv' := [(2, .int x_889), (5, .int 3), (4, .int r_805), (0, .ref A_self), (1, .int a1), (3, .int 2)]) hx hb dX7_take_110 hl (k := 4) rfl (by rw [ex_889]; rfl) (by decide) rfl (fun ls hl => ?_)
                  refine lv_goto (tgt := 75) hx hb dX7_take_113 (by decide) ?_
                  refine lv_iload hx hb dX7_take_75 (lv_at hl 1 rfl) ?_
                  refine lv_iload_n hx hb dX7_take_77 rfl (lv_at hl 5 rfl) ?_
                  refine iicmp_leF (a := 3) (b := 2) (tgt := 116) hx hb (by decide) (by decide) dX7_take_78 (by decide) (by decide) ?_
                  refine lv_aload_n hx hb dX7_take_81 rfl (lv_at hl 3 rfl) ?_
                  refine va_get (D := D) (ci := 7) (v := .ref (q 55)) (C := RX7) (T := TX7) (N := 56) hx hb hts (fun _ h => List.mem_cons_of_mem _ (List.mem_append_right _ h)) hown hK hP 0 rfl rfl 55 (by decide) (hts (.fieldLink RX7 118 "CrownTableModel" "cloth" "[I") (mem_i 2 rfl)) (fun _ h9 => h9) rfl dX7_take_82 ?_
                  refine lv_iload hx hb dX7_take_85 (lv_at hl 1 rfl) ?_
                  refine lv_dup2_11 hx hb dX7_take_87 rfl rfl ?_
                  refine va_iald hx hb hK hP 1 1 rfl rfl (vin (a := 3) (by decide) (by decide) (by decide)) dX7_take_88 ?_
                  refine lv_topi (fun x_890 ex_890 => ?_)
                  have lf_891 : (f_882 3).toInt = x_890.toInt := by rw [ex_890]; rfl
                  refine lv_iconst (v := 1) hx hb dX7_take_89 (by decide) ?_
                  refine lv_isub hx hb dX7_take_90 ?_
                  refine lv_topi (fun x_892 ex_892 => ?_)
                  have tx_892 : x_892.toInt = (x_890.toInt - 1) := by rw [ex_892]; exact sub_ti (a := x_890.toInt) (b := 1) rfl (by decide) (by omega) (by omega)
                  refine va_iast hx hb hK hP hD hS 1 1 rfl rfl (vin (a := 3) (by decide) (by decide) (by decide)) dX7_take_91 (fun H locs hP hD hS => ?_)
                  obtain ⟨f_893, ef_893, hP, hD⟩ : ∃ f_893 : Nat → Int32, f_893 = upd f_882 (3 : Int32).toNatClampNeg x_892 ∧ va_P D vwCl [(A_self, .inr (7, o7 q v w)), (q 55, .inl (c 1, 6, .inl f_893))] H ∧ va_D A [(A_self, .inr (7, o7 q v w)), (q 55, .inl (c 1, 6, .inl f_893))] := ⟨_, rfl, hP, hD⟩
                  have cl_894 : (f_893 0).toInt = (f_882 0).toInt := by rw [ef_893]; rfl
                  have cl_895 : (f_893 1).toInt = (f_882 1).toInt := by rw [ef_893]; rfl
                  have cl_896 : (f_893 2).toInt = (f_882 2).toInt := by rw [ef_893]; rfl
                  have cl_897 : (f_893 3).toInt = x_892.toInt := by rw [ef_893]; rfl
                  have cl_898 : (f_893 4).toInt = (f_882 4).toInt := by rw [ef_893]; rfl
                  have cl_899 : (f_893 5).toInt = (f_882 5).toInt := by rw [ef_893]; rfl
                  refine lv_iinc (v := 2) (lv' := [(5, .int 2), (2, .int x_889), (4, .int r_805), (0, .ref A_self), (1, .int a1), (3, .int 2)]) hx hb dX7_take_92 hl (k := 1) rfl (by decide) (by decide) rfl (fun ls hl => ?_)
                  refine lv_aload_n hx hb dX7_take_95 rfl (lv_at hl 3 rfl) ?_
                  refine va_get (D := D) (ci := 7) (v := .ref (q 55)) (C := RX7) (T := TX7) (N := 56) hx hb hts (fun _ h => List.mem_cons_of_mem _ (List.mem_append_right _ h)) hown hK hP 0 rfl rfl 55 (by decide) (hts (.fieldLink RX7 118 "CrownTableModel" "cloth" "[I") (mem_i 2 rfl)) (fun _ h9 => h9) rfl dX7_take_96 ?_
                  refine lv_iload hx hb dX7_take_99 (lv_at hl 0 rfl) ?_
                  refine lv_dup2_11 hx hb dX7_take_101 rfl rfl ?_
                  refine va_iald hx hb hK hP 1 1 rfl rfl (vin (a := 2) (by decide) (by decide) (by decide)) dX7_take_102 ?_
                  refine lv_topi (fun x_900 ex_900 => ?_)
                  have lf_901 : (f_893 2).toInt = x_900.toInt := by rw [ex_900]; rfl
                  refine lv_iload hx hb dX7_take_103 (lv_at hl 0 rfl) ?_
                  have hPc := hP.sub (ws' := []) [] rfl
                  have hDc := hD.sub (ws' := []) [] (by decide) rfl
                  have hFc := va_free (wc := []) hD hS hA [] rfl
                  have kzz_902 : (2 : Int32).toInt = 2 := by decide
                  refine va_csi (va_runS (As := [.int 2]) (rest := [.int x_900, .int 2, .ref (q 55)]) ⟨hx, hb, hml, hown, hts⟩ (k_X7_next l D c ts H.size 2 2 (by decide) (by omega)) (cwS 1 hts gX7_take_X7_next rfl rfl rfl ⟨rfl, hdX7_next⟩ ⟨(show 1 + 1 ≤ 2 by decide), (show 8 + (1 + 11) + 20 ≤ 43 by decide)⟩) ⟨Pre0.blind, Pre0.at hPc hDc hAm hSt hS hFc⟩ rfl rfl hl.1 rfl (lv_room (Nat.le_of_ble_eq_true rfl)) dX7_take_105 ⟨(show 0 + 0 ≤ 0 by decide), (show 0 + 0 ≤ 0 by decide)⟩) (fun r_904 hw_903 => ?_)
                  rcases hw_903 with ⟨hw_903, rfl⟩ | ⟨hw_903, rfl⟩ | ⟨hw_903, rfl⟩ | ⟨hw_903, rfl⟩
                  · exfalso; omega
                  · skip
                    refine lv_iadd hx hb dX7_take_108 ?_
                    refine lv_topi (fun x_905 ex_905 => ?_)
                    have tx_905 : x_905.toInt = (x_900.toInt + 20) := by rw [ex_905]; exact add_ti (a := x_900.toInt) (b := 20) rfl (by decide) (by omega) (by omega)
                    refine va_iast hx hb hK hP hD hS 1 1 rfl rfl (vin (a := 2) (by decide) (by decide) (by decide)) dX7_take_109 (fun H locs hP hD hS => ?_)
                    obtain ⟨f_906, ef_906, hP, hD⟩ : ∃ f_906 : Nat → Int32, f_906 = upd f_893 (2 : Int32).toNatClampNeg x_905 ∧ va_P D vwCl [(A_self, .inr (7, o7 q v w)), (q 55, .inl (c 1, 6, .inl f_906))] H ∧ va_D A [(A_self, .inr (7, o7 q v w)), (q 55, .inl (c 1, 6, .inl f_906))] := ⟨_, rfl, hP, hD⟩
                    have cl_907 : (f_906 0).toInt = (f_893 0).toInt := by rw [ef_906]; rfl
                    have cl_908 : (f_906 1).toInt = (f_893 1).toInt := by rw [ef_906]; rfl
                    have cl_909 : (f_906 2).toInt = x_905.toInt := by rw [ef_906]; rfl
                    have cl_910 : (f_906 3).toInt = (f_893 3).toInt := by rw [ef_906]; rfl
                    have cl_911 : (f_906 4).toInt = (f_893 4).toInt := by rw [ef_906]; rfl
                    have cl_912 : (f_906 5).toInt = (f_893 5).toInt := by rw [ef_906]; rfl
                    obtain ⟨x_913, ex_913⟩ : ∃ y : Int32, y = x_889 + 1 := ⟨_, rfl⟩
                    refine lv_iinc (v := x_913) (lv' := [(2, .int x_913), (5, .int 2), (4, .int r_805), (0, .ref A_self), (1, .int a1), (3, .int 2)]) hx hb dX7_take_110 hl (k := 1) rfl (by rw [ex_913]; rfl) (by decide) rfl (fun ls hl => ?_)
                    refine lv_goto (tgt := 75) hx hb dX7_take_113 (by decide) ?_
                    refine lv_iload hx hb dX7_take_75 (lv_at hl 1 rfl) ?_
                    refine lv_iload_n hx hb dX7_take_77 rfl (lv_at hl 5 rfl) ?_
                    refine iicmp_leT (a := 2) (b := 2) (tgt := 116) hx hb (by decide) (by decide) dX7_take_78 (by decide) (by decide) ?_
                    refine lv_goto (tgt := 43) hx hb dX7_take_116 (by decide) ?_
                    refine lv_aload_n hx hb dX7_take_43 rfl (lv_at hl 3 rfl) ?_
                    refine va_get (D := D) (ci := 7) (v := .ref (q 55)) (C := RX7) (T := TX7) (N := 56) hx hb hts (fun _ h => List.mem_cons_of_mem _ (List.mem_append_right _ h)) hown hK hP 0 rfl rfl 55 (by decide) (hts (.fieldLink RX7 118 "CrownTableModel" "cloth" "[I") (mem_i 2 rfl)) (fun _ h9 => h9) rfl dX7_take_44 ?_
                    refine lv_iload_n hx hb dX7_take_47 rfl (lv_at hl 5 rfl) ?_
                    refine va_iald hx hb hK hP 1 1 rfl rfl (vin (a := 2) (by decide) (by decide) (by decide)) dX7_take_48 ?_
                    refine lv_topi (fun x_914 ex_914 => ?_)
                    have lf_915 : (f_906 2).toInt = x_914.toInt := by rw [ex_914]; rfl
                    refine lv_iload hx hb dX7_take_49 (lv_at hl 2 rfl) ?_
                    refine iicmp_ge (a := x_914.toInt) (b := r_805.toInt) (tgt := 119) hx hb rfl rfl dX7_take_51 (by decide) (fun k_916 => ?_) (fun k_916 => ?_)
                    · skip
                      refine lv_aload_n hx hb dX7_take_119 rfl (lv_at hl 3 rfl) ?_
                      refine va_get (D := D) (ci := 7) (v := .ref (q 55)) (C := RX7) (T := TX7) (N := 56) hx hb hts (fun _ h => List.mem_cons_of_mem _ (List.mem_append_right _ h)) hown hK hP 0 rfl rfl 55 (by decide) (hts (.fieldLink RX7 118 "CrownTableModel" "cloth" "[I") (mem_i 2 rfl)) (fun _ h9 => h9) rfl dX7_take_120 ?_
                      refine lv_iload_n hx hb dX7_take_123 rfl (lv_at hl 5 rfl) ?_
                      refine lv_dup2_11 hx hb dX7_take_124 rfl rfl ?_
                      refine va_iald hx hb hK hP 1 1 rfl rfl (vin (a := 2) (by decide) (by decide) (by decide)) dX7_take_125 ?_
                      refine lv_topi (fun x_917 ex_917 => ?_)
                      have lf_918 : (f_906 2).toInt = x_917.toInt := by rw [ex_917]; rfl
                      refine lv_iload hx hb dX7_take_126 (lv_at hl 2 rfl) ?_
                      refine lv_isub hx hb dX7_take_128 ?_
                      refine lv_topi (fun x_919 ex_919 => ?_)
                      have tx_919 : x_919.toInt = (x_917.toInt - r_805.toInt) := by rw [ex_919]; exact sub_ti (a := x_917.toInt) (b := r_805.toInt) rfl rfl (by omega) (by omega)
                      refine va_iast hx hb hK hP hD hS 1 1 rfl rfl (vin (a := 2) (by decide) (by decide) (by decide)) dX7_take_129 (fun H locs hP hD hS => ?_)
                      obtain ⟨f_920, ef_920, hP, hD⟩ : ∃ f_920 : Nat → Int32, f_920 = upd f_906 (2 : Int32).toNatClampNeg x_919 ∧ va_P D vwCl [(A_self, .inr (7, o7 q v w)), (q 55, .inl (c 1, 6, .inl f_920))] H ∧ va_D A [(A_self, .inr (7, o7 q v w)), (q 55, .inl (c 1, 6, .inl f_920))] := ⟨_, rfl, hP, hD⟩
                      have cl_921 : (f_920 0).toInt = (f_906 0).toInt := by rw [ef_920]; rfl
                      have cl_922 : (f_920 1).toInt = (f_906 1).toInt := by rw [ef_920]; rfl
                      have cl_923 : (f_920 2).toInt = x_919.toInt := by rw [ef_920]; rfl
                      have cl_924 : (f_920 3).toInt = (f_906 3).toInt := by rw [ef_920]; rfl
                      have cl_925 : (f_920 4).toInt = (f_906 4).toInt := by rw [ef_920]; rfl
                      have cl_926 : (f_920 5).toInt = (f_906 5).toInt := by rw [ef_920]; rfl
                      refine lv_iinc (v := 3) (lv' := [(3, .int 3), (2, .int x_913), (5, .int 2), (4, .int r_805), (0, .ref A_self), (1, .int a1)]) hx hb dX7_take_130 hl (k := 5) rfl (by decide) (by decide) rfl (fun ls hl => ?_)
                      refine lv_goto (tgt := 30) hx hb dX7_take_133 (by decide) ?_
                      have kzz_927 : (3 : Int32).toInt = 3 := by decide
                      have hl := lv_sub hl [4, 5, 1, 0] rfl
                      exact (ih30 ((6 - (3 : Int32).toInt).toNat) (by omega) x_913 3 f_920 (by omega) (by omega) (by omega) (by omega) (by omega) (by omega) (by omega) (by omega) (by omega) (by omega) (by omega) (by omega) (by omega) (by omega) rfl _ _ _ hP hD hS hl)
                    · skip
                      exfalso; omega
                  · exfalso; omega
                  · exfalso; omega
                · exfalso; omega
              · skip
                refine lv_iinc (v := 5) (lv' := [(5, .int 5), (4, .int r_805), (0, .ref A_self), (1, .int a1), (2, .int L2), (3, .int 2)]) hx hb dX7_take_69 hl (k := 0) rfl (by decide) (by decide) rfl (fun ls hl => ?_)
                refine lv_goto (tgt := 59) hx hb dX7_take_72 (by decide) ?_
                refine lv_aload_n hx hb dX7_take_59 rfl (lv_at hl 2 rfl) ?_
                refine va_get (D := D) (ci := 7) (v := .ref (q 55)) (C := RX7) (T := TX7) (N := 56) hx hb hts (fun _ h => List.mem_cons_of_mem _ (List.mem_append_right _ h)) hown hK hP 0 rfl rfl 55 (by decide) (hts (.fieldLink RX7 118 "CrownTableModel" "cloth" "[I") (mem_i 2 rfl)) (fun _ h9 => h9) rfl dX7_take_60 ?_
                refine lv_iload hx hb dX7_take_63 (lv_at hl 0 rfl) ?_
                refine va_iald hx hb hK hP 1 1 rfl rfl (vin (a := 5) (by decide) (by decide) (by decide)) dX7_take_65 ?_
                refine lv_topi (fun x_928 ex_928 => ?_)
                have lf_929 : (M_cloth 5).toInt = x_928.toInt := by rw [ex_928]; rfl
                refine iif_ne (a := x_928.toInt) (tgt := 75) hx hb rfl dX7_take_66 (by decide) (fun k_930 => ?_) (fun k_930 => ?_)
                · skip
                  refine lv_iload hx hb dX7_take_75 (lv_at hl 0 rfl) ?_
                  refine lv_iload_n hx hb dX7_take_77 rfl (lv_at hl 5 rfl) ?_
                  refine iicmp_leF (a := 5) (b := 2) (tgt := 116) hx hb (by decide) (by decide) dX7_take_78 (by decide) (by decide) ?_
                  refine lv_aload_n hx hb dX7_take_81 rfl (lv_at hl 2 rfl) ?_
                  refine va_get (D := D) (ci := 7) (v := .ref (q 55)) (C := RX7) (T := TX7) (N := 56) hx hb hts (fun _ h => List.mem_cons_of_mem _ (List.mem_append_right _ h)) hown hK hP 0 rfl rfl 55 (by decide) (hts (.fieldLink RX7 118 "CrownTableModel" "cloth" "[I") (mem_i 2 rfl)) (fun _ h9 => h9) rfl dX7_take_82 ?_
                  refine lv_iload hx hb dX7_take_85 (lv_at hl 0 rfl) ?_
                  refine lv_dup2_11 hx hb dX7_take_87 rfl rfl ?_
                  refine va_iald hx hb hK hP 1 1 rfl rfl (vin (a := 5) (by decide) (by decide) (by decide)) dX7_take_88 ?_
                  refine lv_topi (fun x_931 ex_931 => ?_)
                  have lf_932 : (M_cloth 5).toInt = x_931.toInt := by rw [ex_931]; rfl
                  refine lv_iconst (v := 1) hx hb dX7_take_89 (by decide) ?_
                  refine lv_isub hx hb dX7_take_90 ?_
                  refine lv_topi (fun x_933 ex_933 => ?_)
                  have tx_933 : x_933.toInt = (x_931.toInt - 1) := by rw [ex_933]; exact sub_ti (a := x_931.toInt) (b := 1) rfl (by decide) (by omega) (by omega)
                  refine va_iast hx hb hK hP hD hS 1 1 rfl rfl (vin (a := 5) (by decide) (by decide) (by decide)) dX7_take_91 (fun H locs hP hD hS => ?_)
                  obtain ⟨f_934, ef_934, hP, hD⟩ : ∃ f_934 : Nat → Int32, f_934 = upd M_cloth (5 : Int32).toNatClampNeg x_933 ∧ va_P D vwCl [(A_self, .inr (7, o7 q v w)), (q 55, .inl (c 1, 6, .inl f_934))] H ∧ va_D A [(A_self, .inr (7, o7 q v w)), (q 55, .inl (c 1, 6, .inl f_934))] := ⟨_, rfl, hP, hD⟩
                  have cl_935 : (f_934 0).toInt = (M_cloth 0).toInt := by rw [ef_934]; rfl
                  have cl_936 : (f_934 1).toInt = (M_cloth 1).toInt := by rw [ef_934]; rfl
                  have cl_937 : (f_934 2).toInt = (M_cloth 2).toInt := by rw [ef_934]; rfl
                  have cl_938 : (f_934 3).toInt = (M_cloth 3).toInt := by rw [ef_934]; rfl
                  have cl_939 : (f_934 4).toInt = (M_cloth 4).toInt := by rw [ef_934]; rfl
                  have cl_940 : (f_934 5).toInt = x_933.toInt := by rw [ef_934]; rfl
                  refine lv_iinc (v := 4) (lv' := [(5, .int 4), (4, .int r_805), (0, .ref A_self), (1, .int a1), (2, .int L2), (3, .int 2)]) hx hb dX7_take_92 hl (k := 0) rfl (by decide) (by decide) rfl (fun ls hl => ?_)
                  refine lv_aload_n hx hb dX7_take_95 rfl (lv_at hl 2 rfl) ?_
                  refine va_get (D := D) (ci := 7) (v := .ref (q 55)) (C := RX7) (T := TX7) (N := 56) hx hb hts (fun _ h => List.mem_cons_of_mem _ (List.mem_append_right _ h)) hown hK hP 0 rfl rfl 55 (by decide) (hts (.fieldLink RX7 118 "CrownTableModel" "cloth" "[I") (mem_i 2 rfl)) (fun _ h9 => h9) rfl dX7_take_96 ?_
                  refine lv_iload hx hb dX7_take_99 (lv_at hl 0 rfl) ?_
                  refine lv_dup2_11 hx hb dX7_take_101 rfl rfl ?_
                  refine va_iald hx hb hK hP 1 1 rfl rfl (vin (a := 4) (by decide) (by decide) (by decide)) dX7_take_102 ?_
                  refine lv_topi (fun x_941 ex_941 => ?_)
                  have lf_942 : (f_934 4).toInt = x_941.toInt := by rw [ex_941]; rfl
                  refine lv_iload hx hb dX7_take_103 (lv_at hl 0 rfl) ?_
                  have hPc := hP.sub (ws' := []) [] rfl
                  have hDc := hD.sub (ws' := []) [] (by decide) rfl
                  have hFc := va_free (wc := []) hD hS hA [] rfl
                  have kzz_943 : (4 : Int32).toInt = 4 := by decide
                  refine va_csi (va_runS (As := [.int 4]) (rest := [.int x_941, .int 4, .ref (q 55)]) ⟨hx, hb, hml, hown, hts⟩ (k_X7_next l D c ts H.size 4 4 (by decide) (by omega)) (cwS 1 hts gX7_take_X7_next rfl rfl rfl ⟨rfl, hdX7_next⟩ ⟨(show 1 + 1 ≤ 2 by decide), (show 8 + (1 + 11) + 20 ≤ 43 by decide)⟩) ⟨Pre0.blind, Pre0.at hPc hDc hAm hSt hS hFc⟩ rfl rfl hl.1 rfl (lv_room (Nat.le_of_ble_eq_true rfl)) dX7_take_105 ⟨(show 0 + 0 ≤ 0 by decide), (show 0 + 0 ≤ 0 by decide)⟩) (fun r_945 hw_944 => ?_)
                  rcases hw_944 with ⟨hw_944, rfl⟩ | ⟨hw_944, rfl⟩ | ⟨hw_944, rfl⟩ | ⟨hw_944, rfl⟩
                  · exfalso; omega
                  · exfalso; omega
                  · exfalso; omega
                  · skip
                    refine lv_iadd hx hb dX7_take_108 ?_
                    refine lv_topi (fun x_946 ex_946 => ?_)
                    have tx_946 : x_946.toInt = (x_941.toInt + 10) := by rw [ex_946]; exact add_ti (a := x_941.toInt) (b := 10) rfl (by decide) (by omega) (by omega)
                    refine va_iast hx hb hK hP hD hS 1 1 rfl rfl (vin (a := 4) (by decide) (by decide) (by decide)) dX7_take_109 (fun H locs hP hD hS => ?_)
                    obtain ⟨f_947, ef_947, hP, hD⟩ : ∃ f_947 : Nat → Int32, f_947 = upd f_934 (4 : Int32).toNatClampNeg x_946 ∧ va_P D vwCl [(A_self, .inr (7, o7 q v w)), (q 55, .inl (c 1, 6, .inl f_947))] H ∧ va_D A [(A_self, .inr (7, o7 q v w)), (q 55, .inl (c 1, 6, .inl f_947))] := ⟨_, rfl, hP, hD⟩
                    have cl_948 : (f_947 0).toInt = (f_934 0).toInt := by rw [ef_947]; rfl
                    have cl_949 : (f_947 1).toInt = (f_934 1).toInt := by rw [ef_947]; rfl
                    have cl_950 : (f_947 2).toInt = (f_934 2).toInt := by rw [ef_947]; rfl
                    have cl_951 : (f_947 3).toInt = (f_934 3).toInt := by rw [ef_947]; rfl
                    have cl_952 : (f_947 4).toInt = x_946.toInt := by rw [ef_947]; rfl
                    have cl_953 : (f_947 5).toInt = (f_934 5).toInt := by rw [ef_947]; rfl
                    obtain ⟨x_954, ex_954⟩ : ∃ y : Int32, y = L2 + 1 := ⟨_, rfl⟩
                    refine lv_iinc (v := x_954) (lv' := [(2, .int x_954), (5, .int 4), (4, .int r_805), (0, .ref A_self), (1, .int a1), (3, .int 2)]) hx hb dX7_take_110 hl (k := 4) rfl (by rw [ex_954]; rfl) (by decide) rfl (fun ls hl => ?_)
                    refine lv_goto (tgt := 75) hx hb dX7_take_113 (by decide) ?_
                    refine lv_iload hx hb dX7_take_75 (lv_at hl 1 rfl) ?_
                    refine lv_iload_n hx hb dX7_take_77 rfl (lv_at hl 5 rfl) ?_
                    refine iicmp_leF (a := 4) (b := 2) (tgt := 116) hx hb (by decide) (by decide) dX7_take_78 (by decide) (by decide) ?_
                    refine lv_aload_n hx hb dX7_take_81 rfl (lv_at hl 3 rfl) ?_
                    refine va_get (D := D) (ci := 7) (v := .ref (q 55)) (C := RX7) (T := TX7) (N := 56) hx hb hts (fun _ h => List.mem_cons_of_mem _ (List.mem_append_right _ h)) hown hK hP 0 rfl rfl 55 (by decide) (hts (.fieldLink RX7 118 "CrownTableModel" "cloth" "[I") (mem_i 2 rfl)) (fun _ h9 => h9) rfl dX7_take_82 ?_
                    refine lv_iload hx hb dX7_take_85 (lv_at hl 1 rfl) ?_
                    refine lv_dup2_11 hx hb dX7_take_87 rfl rfl ?_
                    refine va_iald hx hb hK hP 1 1 rfl rfl (vin (a := 4) (by decide) (by decide) (by decide)) dX7_take_88 ?_
                    refine lv_topi (fun x_955 ex_955 => ?_)
                    have lf_956 : (f_947 4).toInt = x_955.toInt := by rw [ex_955]; rfl
                    refine lv_iconst (v := 1) hx hb dX7_take_89 (by decide) ?_
                    refine lv_isub hx hb dX7_take_90 ?_
                    refine lv_topi (fun x_957 ex_957 => ?_)
                    have tx_957 : x_957.toInt = (x_955.toInt - 1) := by rw [ex_957]; exact sub_ti (a := x_955.toInt) (b := 1) rfl (by decide) (by omega) (by omega)
                    refine va_iast hx hb hK hP hD hS 1 1 rfl rfl (vin (a := 4) (by decide) (by decide) (by decide)) dX7_take_91 (fun H locs hP hD hS => ?_)
                    obtain ⟨f_958, ef_958, hP, hD⟩ : ∃ f_958 : Nat → Int32, f_958 = upd f_947 (4 : Int32).toNatClampNeg x_957 ∧ va_P D vwCl [(A_self, .inr (7, o7 q v w)), (q 55, .inl (c 1, 6, .inl f_958))] H ∧ va_D A [(A_self, .inr (7, o7 q v w)), (q 55, .inl (c 1, 6, .inl f_958))] := ⟨_, rfl, hP, hD⟩
                    have cl_959 : (f_958 0).toInt = (f_947 0).toInt := by rw [ef_958]; rfl
                    have cl_960 : (f_958 1).toInt = (f_947 1).toInt := by rw [ef_958]; rfl
                    have cl_961 : (f_958 2).toInt = (f_947 2).toInt := by rw [ef_958]; rfl
                    have cl_962 : (f_958 3).toInt = (f_947 3).toInt := by rw [ef_958]; rfl
                    have cl_963 : (f_958 4).toInt = x_957.toInt := by rw [ef_958]; rfl
                    have cl_964 : (f_958 5).toInt = (f_947 5).toInt := by rw [ef_958]; rfl
                    refine lv_iinc (v := 3) (lv' := [(5, .int 3), (2, .int x_954), (4, .int r_805), (0, .ref A_self), (1, .int a1), (3, .int 2)]) hx hb dX7_take_92 hl (k := 1) rfl (by decide) (by decide) rfl (fun ls hl => ?_)
                    refine lv_aload_n hx hb dX7_take_95 rfl (lv_at hl 3 rfl) ?_
                    refine va_get (D := D) (ci := 7) (v := .ref (q 55)) (C := RX7) (T := TX7) (N := 56) hx hb hts (fun _ h => List.mem_cons_of_mem _ (List.mem_append_right _ h)) hown hK hP 0 rfl rfl 55 (by decide) (hts (.fieldLink RX7 118 "CrownTableModel" "cloth" "[I") (mem_i 2 rfl)) (fun _ h9 => h9) rfl dX7_take_96 ?_
                    refine lv_iload hx hb dX7_take_99 (lv_at hl 0 rfl) ?_
                    refine lv_dup2_11 hx hb dX7_take_101 rfl rfl ?_
                    refine va_iald hx hb hK hP 1 1 rfl rfl (vin (a := 3) (by decide) (by decide) (by decide)) dX7_take_102 ?_
                    refine lv_topi (fun x_965 ex_965 => ?_)
                    have lf_966 : (f_958 3).toInt = x_965.toInt := by rw [ex_965]; rfl
                    refine lv_iload hx hb dX7_take_103 (lv_at hl 0 rfl) ?_
                    have hPc := hP.sub (ws' := []) [] rfl
                    have hDc := hD.sub (ws' := []) [] (by decide) rfl
                    have hFc := va_free (wc := []) hD hS hA [] rfl
                    have kzz_967 : (3 : Int32).toInt = 3 := by decide
                    refine va_csi (va_runS (As := [.int 3]) (rest := [.int x_965, .int 3, .ref (q 55)]) ⟨hx, hb, hml, hown, hts⟩ (k_X7_next l D c ts H.size 3 3 (by decide) (by omega)) (cwS 1 hts gX7_take_X7_next rfl rfl rfl ⟨rfl, hdX7_next⟩ ⟨(show 1 + 1 ≤ 2 by decide), (show 8 + (1 + 11) + 20 ≤ 43 by decide)⟩) ⟨Pre0.blind, Pre0.at hPc hDc hAm hSt hS hFc⟩ rfl rfl hl.1 rfl (lv_room (Nat.le_of_ble_eq_true rfl)) dX7_take_105 ⟨(show 0 + 0 ≤ 0 by decide), (show 0 + 0 ≤ 0 by decide)⟩) (fun r_969 hw_968 => ?_)
                    rcases hw_968 with ⟨hw_968, rfl⟩ | ⟨hw_968, rfl⟩ | ⟨hw_968, rfl⟩ | ⟨hw_968, rfl⟩
                    · exfalso; omega
                    · exfalso; omega
                    · skip
                      refine lv_iadd hx hb dX7_take_108 ?_
                      refine lv_topi (fun x_970 ex_970 => ?_)
                      have tx_970 : x_970.toInt = (x_965.toInt + 5) := by rw [ex_970]; exact add_ti (a := x_965.toInt) (b := 5) rfl (by decide) (by omega) (by omega)
                      refine va_iast hx hb hK hP hD hS 1 1 rfl rfl (vin (a := 3) (by decide) (by decide) (by decide)) dX7_take_109 (fun H locs hP hD hS => ?_)
                      obtain ⟨f_971, ef_971, hP, hD⟩ : ∃ f_971 : Nat → Int32, f_971 = upd f_958 (3 : Int32).toNatClampNeg x_970 ∧ va_P D vwCl [(A_self, .inr (7, o7 q v w)), (q 55, .inl (c 1, 6, .inl f_971))] H ∧ va_D A [(A_self, .inr (7, o7 q v w)), (q 55, .inl (c 1, 6, .inl f_971))] := ⟨_, rfl, hP, hD⟩
                      have cl_972 : (f_971 0).toInt = (f_958 0).toInt := by rw [ef_971]; rfl
                      have cl_973 : (f_971 1).toInt = (f_958 1).toInt := by rw [ef_971]; rfl
                      have cl_974 : (f_971 2).toInt = (f_958 2).toInt := by rw [ef_971]; rfl
                      have cl_975 : (f_971 3).toInt = x_970.toInt := by rw [ef_971]; rfl
                      have cl_976 : (f_971 4).toInt = (f_958 4).toInt := by rw [ef_971]; rfl
                      have cl_977 : (f_971 5).toInt = (f_958 5).toInt := by rw [ef_971]; rfl
                      obtain ⟨x_978, ex_978⟩ : ∃ y : Int32, y = x_954 + 1 := ⟨_, rfl⟩
                      refine lv_iinc (v := x_978) (lv' := [(2, .int x_978), (5, .int 3), (4, .int r_805), (0, .ref A_self), (1, .int a1), (3, .int 2)]) hx hb dX7_take_110 hl (k := 1) rfl (by rw [ex_978]; rfl) (by decide) rfl (fun ls hl => ?_)
                      refine lv_goto (tgt := 75) hx hb dX7_take_113 (by decide) ?_
                      refine lv_iload hx hb dX7_take_75 (lv_at hl 1 rfl) ?_
                      refine lv_iload_n hx hb dX7_take_77 rfl (lv_at hl 5 rfl) ?_
                      refine iicmp_leF (a := 3) (b := 2) (tgt := 116) hx hb (by decide) (by decide) dX7_take_78 (by decide) (by decide) ?_
                      refine lv_aload_n hx hb dX7_take_81 rfl (lv_at hl 3 rfl) ?_
                      refine va_get (D := D) (ci := 7) (v := .ref (q 55)) (C := RX7) (T := TX7) (N := 56) hx hb hts (fun _ h => List.mem_cons_of_mem _ (List.mem_append_right _ h)) hown hK hP 0 rfl rfl 55 (by decide) (hts (.fieldLink RX7 118 "CrownTableModel" "cloth" "[I") (mem_i 2 rfl)) (fun _ h9 => h9) rfl dX7_take_82 ?_
                      refine lv_iload hx hb dX7_take_85 (lv_at hl 1 rfl) ?_
                      refine lv_dup2_11 hx hb dX7_take_87 rfl rfl ?_
                      refine va_iald hx hb hK hP 1 1 rfl rfl (vin (a := 3) (by decide) (by decide) (by decide)) dX7_take_88 ?_
                      refine lv_topi (fun x_979 ex_979 => ?_)
                      have lf_980 : (f_971 3).toInt = x_979.toInt := by rw [ex_979]; rfl
                      refine lv_iconst (v := 1) hx hb dX7_take_89 (by decide) ?_
                      refine lv_isub hx hb dX7_take_90 ?_
                      refine lv_topi (fun x_981 ex_981 => ?_)
                      have tx_981 : x_981.toInt = (x_979.toInt - 1) := by rw [ex_981]; exact sub_ti (a := x_979.toInt) (b := 1) rfl (by decide) (by omega) (by omega)
                      refine va_iast hx hb hK hP hD hS 1 1 rfl rfl (vin (a := 3) (by decide) (by decide) (by decide)) dX7_take_91 (fun H locs hP hD hS => ?_)
                      obtain ⟨f_982, ef_982, hP, hD⟩ : ∃ f_982 : Nat → Int32, f_982 = upd f_971 (3 : Int32).toNatClampNeg x_981 ∧ va_P D vwCl [(A_self, .inr (7, o7 q v w)), (q 55, .inl (c 1, 6, .inl f_982))] H ∧ va_D A [(A_self, .inr (7, o7 q v w)), (q 55, .inl (c 1, 6, .inl f_982))] := ⟨_, rfl, hP, hD⟩
                      have cl_983 : (f_982 0).toInt = (f_971 0).toInt := by rw [ef_982]; rfl
                      have cl_984 : (f_982 1).toInt = (f_971 1).toInt := by rw [ef_982]; rfl
                      have cl_985 : (f_982 2).toInt = (f_971 2).toInt := by rw [ef_982]; rfl
                      have cl_986 : (f_982 3).toInt = x_981.toInt := by rw [ef_982]; rfl
                      have cl_987 : (f_982 4).toInt = (f_971 4).toInt := by rw [ef_982]; rfl
                      have cl_988 : (f_982 5).toInt = (f_971 5).toInt := by rw [ef_982]; rfl
                      refine lv_iinc (v := 2) (lv' := [(5, .int 2), (2, .int x_978), (4, .int r_805), (0, .ref A_self), (1, .int a1), (3, .int 2)]) hx hb dX7_take_92 hl (k := 1) rfl (by decide) (by decide) rfl (fun ls hl => ?_)
                      refine lv_aload_n hx hb dX7_take_95 rfl (lv_at hl 3 rfl) ?_
                      refine va_get (D := D) (ci := 7) (v := .ref (q 55)) (C := RX7) (T := TX7) (N := 56) hx hb hts (fun _ h => List.mem_cons_of_mem _ (List.mem_append_right _ h)) hown hK hP 0 rfl rfl 55 (by decide) (hts (.fieldLink RX7 118 "CrownTableModel" "cloth" "[I") (mem_i 2 rfl)) (fun _ h9 => h9) rfl dX7_take_96 ?_
                      refine lv_iload hx hb dX7_take_99 (lv_at hl 0 rfl) ?_
                      refine lv_dup2_11 hx hb dX7_take_101 rfl rfl ?_
                      refine va_iald hx hb hK hP 1 1 rfl rfl (vin (a := 2) (by decide) (by decide) (by decide)) dX7_take_102 ?_
                      refine lv_topi (fun x_989 ex_989 => ?_)
                      have lf_990 : (f_982 2).toInt = x_989.toInt := by rw [ex_989]; rfl
                      refine lv_iload hx hb dX7_take_103 (lv_at hl 0 rfl) ?_
                      have hPc := hP.sub (ws' := []) [] rfl
                      have hDc := hD.sub (ws' := []) [] (by decide) rfl
                      have hFc := va_free (wc := []) hD hS hA [] rfl
                      have kzz_991 : (2 : Int32).toInt = 2 := by decide
                      refine va_csi (va_runS (As := [.int 2]) (rest := [.int x_989, .int 2, .ref (q 55)]) ⟨hx, hb, hml, hown, hts⟩ (k_X7_next l D c ts H.size 2 2 (by decide) (by omega)) (cwS 1 hts gX7_take_X7_next rfl rfl rfl ⟨rfl, hdX7_next⟩ ⟨(show 1 + 1 ≤ 2 by decide), (show 8 + (1 + 11) + 20 ≤ 43 by decide)⟩) ⟨Pre0.blind, Pre0.at hPc hDc hAm hSt hS hFc⟩ rfl rfl hl.1 rfl (lv_room (Nat.le_of_ble_eq_true rfl)) dX7_take_105 ⟨(show 0 + 0 ≤ 0 by decide), (show 0 + 0 ≤ 0 by decide)⟩) (fun r_993 hw_992 => ?_)
                      rcases hw_992 with ⟨hw_992, rfl⟩ | ⟨hw_992, rfl⟩ | ⟨hw_992, rfl⟩ | ⟨hw_992, rfl⟩
                      · exfalso; omega
                      · skip
                        refine lv_iadd hx hb dX7_take_108 ?_
                        refine lv_topi (fun x_994 ex_994 => ?_)
                        have tx_994 : x_994.toInt = (x_989.toInt + 20) := by rw [ex_994]; exact add_ti (a := x_989.toInt) (b := 20) rfl (by decide) (by omega) (by omega)
                        refine va_iast hx hb hK hP hD hS 1 1 rfl rfl (vin (a := 2) (by decide) (by decide) (by decide)) dX7_take_109 (fun H locs hP hD hS => ?_)
                        obtain ⟨f_995, ef_995, hP, hD⟩ : ∃ f_995 : Nat → Int32, f_995 = upd f_982 (2 : Int32).toNatClampNeg x_994 ∧ va_P D vwCl [(A_self, .inr (7, o7 q v w)), (q 55, .inl (c 1, 6, .inl f_995))] H ∧ va_D A [(A_self, .inr (7, o7 q v w)), (q 55, .inl (c 1, 6, .inl f_995))] := ⟨_, rfl, hP, hD⟩
                        have cl_996 : (f_995 0).toInt = (f_982 0).toInt := by rw [ef_995]; rfl
                        have cl_997 : (f_995 1).toInt = (f_982 1).toInt := by rw [ef_995]; rfl
                        have cl_998 : (f_995 2).toInt = x_994.toInt := by rw [ef_995]; rfl
                        have cl_999 : (f_995 3).toInt = (f_982 3).toInt := by rw [ef_995]; rfl
                        have cl_1000 : (f_995 4).toInt = (f_982 4).toInt := by rw [ef_995]; rfl
                        have cl_1001 : (f_995 5).toInt = (f_982 5).toInt := by rw [ef_995]; rfl
                        obtain ⟨x_1002, ex_1002⟩ : ∃ y : Int32, y = x_978 + 1 := ⟨_, rfl⟩
                        refine lv_iinc (v := x_1002) (lv' := [(2, .int x_1002), (5, .int 2), (4, .int r_805), (0, .ref A_self), (1, .int a1), (3, .int 2)]) hx hb dX7_take_110 hl (k := 1) rfl (by rw [ex_1002]; rfl) (by decide) rfl (fun ls hl => ?_)
                        refine lv_goto (tgt := 75) hx hb dX7_take_113 (by decide) ?_
                        refine lv_iload hx hb dX7_take_75 (lv_at hl 1 rfl) ?_
                        refine lv_iload_n hx hb dX7_take_77 rfl (lv_at hl 5 rfl) ?_
                        refine iicmp_leT (a := 2) (b := 2) (tgt := 116) hx hb (by decide) (by decide) dX7_take_78 (by decide) (by decide) ?_
                        refine lv_goto (tgt := 43) hx hb dX7_take_116 (by decide) ?_
                        refine lv_aload_n hx hb dX7_take_43 rfl (lv_at hl 3 rfl) ?_
                        refine va_get (D := D) (ci := 7) (v := .ref (q 55)) (C := RX7) (T := TX7) (N := 56) hx hb hts (fun _ h => List.mem_cons_of_mem _ (List.mem_append_right _ h)) hown hK hP 0 rfl rfl 55 (by decide) (hts (.fieldLink RX7 118 "CrownTableModel" "cloth" "[I") (mem_i 2 rfl)) (fun _ h9 => h9) rfl dX7_take_44 ?_
                        refine lv_iload_n hx hb dX7_take_47 rfl (lv_at hl 5 rfl) ?_
                        refine va_iald hx hb hK hP 1 1 rfl rfl (vin (a := 2) (by decide) (by decide) (by decide)) dX7_take_48 ?_
                        refine lv_topi (fun x_1003 ex_1003 => ?_)
                        have lf_1004 : (f_995 2).toInt = x_1003.toInt := by rw [ex_1003]; rfl
                        refine lv_iload hx hb dX7_take_49 (lv_at hl 2 rfl) ?_
                        refine iicmp_ge (a := x_1003.toInt) (b := r_805.toInt) (tgt := 119) hx hb rfl rfl dX7_take_51 (by decide) (fun k_1005 => ?_) (fun k_1005 => ?_)
                        · skip
                          refine lv_aload_n hx hb dX7_take_119 rfl (lv_at hl 3 rfl) ?_
                          refine va_get (D := D) (ci := 7) (v := .ref (q 55)) (C := RX7) (T := TX7) (N := 56) hx hb hts (fun _ h => List.mem_cons_of_mem _ (List.mem_append_right _ h)) hown hK hP 0 rfl rfl 55 (by decide) (hts (.fieldLink RX7 118 "CrownTableModel" "cloth" "[I") (mem_i 2 rfl)) (fun _ h9 => h9) rfl dX7_take_120 ?_
                          refine lv_iload_n hx hb dX7_take_123 rfl (lv_at hl 5 rfl) ?_
                          refine lv_dup2_11 hx hb dX7_take_124 rfl rfl ?_
                          refine va_iald hx hb hK hP 1 1 rfl rfl (vin (a := 2) (by decide) (by decide) (by decide)) dX7_take_125 ?_
                          refine lv_topi (fun x_1006 ex_1006 => ?_)
                          have lf_1007 : (f_995 2).toInt = x_1006.toInt := by rw [ex_1006]; rfl
                          refine lv_iload hx hb dX7_take_126 (lv_at hl 2 rfl) ?_
                          refine lv_isub hx hb dX7_take_128 ?_
                          refine lv_topi (fun x_1008 ex_1008 => ?_)
                          have tx_1008 : x_1008.toInt = (x_1006.toInt - r_805.toInt) := by rw [ex_1008]; exact sub_ti (a := x_1006.toInt) (b := r_805.toInt) rfl rfl (by omega) (by omega)
                          refine va_iast hx hb hK hP hD hS 1 1 rfl rfl (vin (a := 2) (by decide) (by decide) (by decide)) dX7_take_129 (fun H locs hP hD hS => ?_)
                          obtain ⟨f_1009, ef_1009, hP, hD⟩ : ∃ f_1009 : Nat → Int32, f_1009 = upd f_995 (2 : Int32).toNatClampNeg x_1008 ∧ va_P D vwCl [(A_self, .inr (7, o7 q v w)), (q 55, .inl (c 1, 6, .inl f_1009))] H ∧ va_D A [(A_self, .inr (7, o7 q v w)), (q 55, .inl (c 1, 6, .inl f_1009))] := ⟨_, rfl, hP, hD⟩
                          have cl_1010 : (f_1009 0).toInt = (f_995 0).toInt := by rw [ef_1009]; rfl
                          have cl_1011 : (f_1009 1).toInt = (f_995 1).toInt := by rw [ef_1009]; rfl
                          have cl_1012 : (f_1009 2).toInt = x_1008.toInt := by rw [ef_1009]; rfl
                          have cl_1013 : (f_1009 3).toInt = (f_995 3).toInt := by rw [ef_1009]; rfl
                          have cl_1014 : (f_1009 4).toInt = (f_995 4).toInt := by rw [ef_1009]; rfl
                          have cl_1015 : (f_1009 5).toInt = (f_995 5).toInt := by rw [ef_1009]; rfl
                          refine lv_iinc (v := 3) (lv' := [(3, .int 3), (2, .int x_1002), (5, .int 2), (4, .int r_805), (0, .ref A_self), (1, .int a1)]) hx hb dX7_take_130 hl (k := 5) rfl (by decide) (by decide) rfl (fun ls hl => ?_)
                          refine lv_goto (tgt := 30) hx hb dX7_take_133 (by decide) ?_
                          have kzz_1016 : (3 : Int32).toInt = 3 := by decide
                          have hl := lv_sub hl [4, 5, 1, 0] rfl
                          exact (ih30 ((6 - (3 : Int32).toInt).toNat) (by omega) x_1002 3 f_1009 (by omega) (by omega) (by omega) (by omega) (by omega) (by omega) (by omega) (by omega) (by omega) (by omega) (by omega) (by omega) (by omega) (by omega) rfl _ _ _ hP hD hS hl)
                        · skip
                          exfalso; omega
                      · exfalso; omega
                      · exfalso; omega
                    · exfalso; omega
                · skip
                  exfalso; omega
        · skip
          obtain rfl : L3 = 3 := Int32.toInt_inj.mp (by rw [hsp]; rfl)
          have hl : lv_has ls 6 [(0, .ref A_self), (1, .int a1), (2, .int L2), (3, .int 3)] := hl
          have kzz_1017 : (3 : Int32).toInt = 3 := by decide
          refine lv_iload_n hx hb dX7_take_30 rfl (lv_at hl 3 rfl) ?_
          refine lv_bipush (v := 6) hx hb dX7_take_31 (by decide) ?_
          refine iicmp_geF (a := 3) (b := 6) (tgt := 136) hx hb (by decide) (by decide) dX7_take_33 (by decide) (by decide) ?_
          refine lv_iload_n hx hb dX7_take_36 rfl (lv_at hl 1 rfl) ?_
          refine lv_iload_n hx hb dX7_take_37 rfl (lv_at hl 3 rfl) ?_
          have hPc := hP.sub (ws' := []) [] rfl
          have hDc := hD.sub (ws' := []) [] (by decide) rfl
          have hFc := va_free (wc := []) hD hS hA [] rfl
          have kzz_1018 : (3 : Int32).toInt = 3 := by decide
          refine va_csi (va_runS (As := [.int a1, .int 3]) (rest := []) ⟨hx, hb, hml, hown, hts⟩ (k_X7_notch_P l D c ts H.size a1 i_a1 hi_a1 3 3 (by decide) (by omega) (by omega)) (cwS 2 hts gX7_take_X7_notch rfl rfl rfl ⟨rfl, hdX7_notch⟩ ⟨(show 1 + 1 ≤ 2 by decide), (show 8 + (2 + 11) + 20 ≤ 43 by decide)⟩) ⟨Pre0.blind, Pre0.at hPc hDc hAm hSt hS hFc⟩ rfl rfl hl.1 rfl (lv_room (Nat.le_of_ble_eq_true rfl)) dX7_take_38 ⟨(show 0 + 0 ≤ 0 by decide), (show 0 + 0 ≤ 0 by decide)⟩) (fun r_1020 hw_1019 => ?_)
          have nf_1021 := hw_1019.2.2.2.2.1 rfl
          have nf_1022 := hw_1019.1
          clear hw_1019
          have rg_r_1020 := i32r r_1020
          refine lv_istore (lv' := [(4, .int r_1020), (0, .ref A_self), (1, .int a1), (2, .int L2), (3, .int 3)]) hx hb dX7_take_41 hl (by decide) rfl (fun ls hl => ?_)
          refine lv_aload_n hx hb dX7_take_43 rfl (lv_at hl 1 rfl) ?_
          refine va_get (D := D) (ci := 7) (v := .ref (q 55)) (C := RX7) (T := TX7) (N := 56) hx hb hts (fun _ h => List.mem_cons_of_mem _ (List.mem_append_right _ h)) hown hK hP 0 rfl rfl 55 (by decide) (hts (.fieldLink RX7 118 "CrownTableModel" "cloth" "[I") (mem_i 2 rfl)) (fun _ h9 => h9) rfl dX7_take_44 ?_
          refine lv_iload_n hx hb dX7_take_47 rfl (lv_at hl 4 rfl) ?_
          refine va_iald hx hb hK hP 1 1 rfl rfl (vin (a := 3) (by decide) (by decide) (by decide)) dX7_take_48 ?_
          refine lv_topi (fun x_1023 ex_1023 => ?_)
          have lf_1024 : (M_cloth 3).toInt = x_1023.toInt := by rw [ex_1023]; rfl
          refine lv_iload hx hb dX7_take_49 (lv_at hl 0 rfl) ?_
          refine iicmp_ge (a := x_1023.toInt) (b := r_1020.toInt) (tgt := 119) hx hb rfl rfl dX7_take_51 (by decide) (fun k_1025 => ?_) (fun k_1025 => ?_)
          · skip
            refine lv_aload_n hx hb dX7_take_119 rfl (lv_at hl 1 rfl) ?_
            refine va_get (D := D) (ci := 7) (v := .ref (q 55)) (C := RX7) (T := TX7) (N := 56) hx hb hts (fun _ h => List.mem_cons_of_mem _ (List.mem_append_right _ h)) hown hK hP 0 rfl rfl 55 (by decide) (hts (.fieldLink RX7 118 "CrownTableModel" "cloth" "[I") (mem_i 2 rfl)) (fun _ h9 => h9) rfl dX7_take_120 ?_
            refine lv_iload_n hx hb dX7_take_123 rfl (lv_at hl 4 rfl) ?_
            refine lv_dup2_11 hx hb dX7_take_124 rfl rfl ?_
            refine va_iald hx hb hK hP 1 1 rfl rfl (vin (a := 3) (by decide) (by decide) (by decide)) dX7_take_125 ?_
            refine lv_topi (fun x_1026 ex_1026 => ?_)
            have lf_1027 : (M_cloth 3).toInt = x_1026.toInt := by rw [ex_1026]; rfl
            refine lv_iload hx hb dX7_take_126 (lv_at hl 0 rfl) ?_
            refine lv_isub hx hb dX7_take_128 ?_
            refine lv_topi (fun x_1028 ex_1028 => ?_)
            have tx_1028 : x_1028.toInt = (x_1026.toInt - r_1020.toInt) := by rw [ex_1028]; exact sub_ti (a := x_1026.toInt) (b := r_1020.toInt) rfl rfl (by omega) (by omega)
            refine va_iast hx hb hK hP hD hS 1 1 rfl rfl (vin (a := 3) (by decide) (by decide) (by decide)) dX7_take_129 (fun H locs hP hD hS => ?_)
            obtain ⟨f_1029, ef_1029, hP, hD⟩ : ∃ f_1029 : Nat → Int32, f_1029 = upd M_cloth (3 : Int32).toNatClampNeg x_1028 ∧ va_P D vwCl [(A_self, .inr (7, o7 q v w)), (q 55, .inl (c 1, 6, .inl f_1029))] H ∧ va_D A [(A_self, .inr (7, o7 q v w)), (q 55, .inl (c 1, 6, .inl f_1029))] := ⟨_, rfl, hP, hD⟩
            have cl_1030 : (f_1029 0).toInt = (M_cloth 0).toInt := by rw [ef_1029]; rfl
            have cl_1031 : (f_1029 1).toInt = (M_cloth 1).toInt := by rw [ef_1029]; rfl
            have cl_1032 : (f_1029 2).toInt = (M_cloth 2).toInt := by rw [ef_1029]; rfl
            have cl_1033 : (f_1029 3).toInt = x_1028.toInt := by rw [ef_1029]; rfl
            have cl_1034 : (f_1029 4).toInt = (M_cloth 4).toInt := by rw [ef_1029]; rfl
            have cl_1035 : (f_1029 5).toInt = (M_cloth 5).toInt := by rw [ef_1029]; rfl
            refine lv_iinc (v := 4) (lv' := [(3, .int 4), (4, .int r_1020), (0, .ref A_self), (1, .int a1), (2, .int L2)]) hx hb dX7_take_130 hl (k := 4) rfl (by decide) (by decide) rfl (fun ls hl => ?_)
            refine lv_goto (tgt := 30) hx hb dX7_take_133 (by decide) ?_
            have kzz_1036 : (4 : Int32).toInt = 4 := by decide
            have hl := lv_sub hl [2, 3, 4, 0] rfl
            exact (ih30 ((6 - (4 : Int32).toInt).toNat) (by omega) L2 4 f_1029 (by omega) (by omega) (by omega) (by omega) (by omega) (by omega) (by omega) (by omega) (by omega) (by omega) (by omega) (by omega) (by omega) (by omega) rfl _ _ _ hP hD hS hl)
          · skip
            refine lv_iload_n hx hb dX7_take_54 rfl (lv_at hl 4 rfl) ?_
            refine lv_iconst (v := 1) hx hb dX7_take_55 (by decide) ?_
            refine lv_iadd hx hb dX7_take_56 ?_
            refine lk_i (y := 4) (by decide) ?_
            refine lv_istore (lv' := [(5, .int 4), (4, .int r_1020), (0, .ref A_self), (1, .int a1), (2, .int L2), (3, .int 3)]) hx hb dX7_take_57 hl (by decide) rfl (fun ls hl => ?_)
            refine lv_aload_n hx hb dX7_take_59 rfl (lv_at hl 2 rfl) ?_
            refine va_get (D := D) (ci := 7) (v := .ref (q 55)) (C := RX7) (T := TX7) (N := 56) hx hb hts (fun _ h => List.mem_cons_of_mem _ (List.mem_append_right _ h)) hown hK hP 0 rfl rfl 55 (by decide) (hts (.fieldLink RX7 118 "CrownTableModel" "cloth" "[I") (mem_i 2 rfl)) (fun _ h9 => h9) rfl dX7_take_60 ?_
            refine lv_iload hx hb dX7_take_63 (lv_at hl 0 rfl) ?_
            refine va_iald hx hb hK hP 1 1 rfl rfl (vin (a := 4) (by decide) (by decide) (by decide)) dX7_take_65 ?_
            refine lv_topi (fun x_1037 ex_1037 => ?_)
            have lf_1038 : (M_cloth 4).toInt = x_1037.toInt := by rw [ex_1037]; rfl
            refine iif_ne (a := x_1037.toInt) (tgt := 75) hx hb rfl dX7_take_66 (by decide) (fun k_1039 => ?_) (fun k_1039 => ?_)
            · skip
              refine lv_iload hx hb dX7_take_75 (lv_at hl 0 rfl) ?_
              refine lv_iload_n hx hb dX7_take_77 rfl (lv_at hl 5 rfl) ?_
              refine iicmp_leF (a := 4) (b := 3) (tgt := 116) hx hb (by decide) (by decide) dX7_take_78 (by decide) (by decide) ?_
              refine lv_aload_n hx hb dX7_take_81 rfl (lv_at hl 2 rfl) ?_
              refine va_get (D := D) (ci := 7) (v := .ref (q 55)) (C := RX7) (T := TX7) (N := 56) hx hb hts (fun _ h => List.mem_cons_of_mem _ (List.mem_append_right _ h)) hown hK hP 0 rfl rfl 55 (by decide) (hts (.fieldLink RX7 118 "CrownTableModel" "cloth" "[I") (mem_i 2 rfl)) (fun _ h9 => h9) rfl dX7_take_82 ?_
              refine lv_iload hx hb dX7_take_85 (lv_at hl 0 rfl) ?_
              refine lv_dup2_11 hx hb dX7_take_87 rfl rfl ?_
              refine va_iald hx hb hK hP 1 1 rfl rfl (vin (a := 4) (by decide) (by decide) (by decide)) dX7_take_88 ?_
              refine lv_topi (fun x_1040 ex_1040 => ?_)
              have lf_1041 : (M_cloth 4).toInt = x_1040.toInt := by rw [ex_1040]; rfl
              refine lv_iconst (v := 1) hx hb dX7_take_89 (by decide) ?_
              refine lv_isub hx hb dX7_take_90 ?_
              refine lv_topi (fun x_1042 ex_1042 => ?_)
              have tx_1042 : x_1042.toInt = (x_1040.toInt - 1) := by rw [ex_1042]; exact sub_ti (a := x_1040.toInt) (b := 1) rfl (by decide) (by omega) (by omega)
              refine va_iast hx hb hK hP hD hS 1 1 rfl rfl (vin (a := 4) (by decide) (by decide) (by decide)) dX7_take_91 (fun H locs hP hD hS => ?_)
              obtain ⟨f_1043, ef_1043, hP, hD⟩ : ∃ f_1043 : Nat → Int32, f_1043 = upd M_cloth (4 : Int32).toNatClampNeg x_1042 ∧ va_P D vwCl [(A_self, .inr (7, o7 q v w)), (q 55, .inl (c 1, 6, .inl f_1043))] H ∧ va_D A [(A_self, .inr (7, o7 q v w)), (q 55, .inl (c 1, 6, .inl f_1043))] := ⟨_, rfl, hP, hD⟩
              have cl_1044 : (f_1043 0).toInt = (M_cloth 0).toInt := by rw [ef_1043]; rfl
              have cl_1045 : (f_1043 1).toInt = (M_cloth 1).toInt := by rw [ef_1043]; rfl
              have cl_1046 : (f_1043 2).toInt = (M_cloth 2).toInt := by rw [ef_1043]; rfl
              have cl_1047 : (f_1043 3).toInt = (M_cloth 3).toInt := by rw [ef_1043]; rfl
              have cl_1048 : (f_1043 4).toInt = x_1042.toInt := by rw [ef_1043]; rfl
              have cl_1049 : (f_1043 5).toInt = (M_cloth 5).toInt := by rw [ef_1043]; rfl
              refine lv_iinc (v := 3) (lv' := [(5, .int 3), (4, .int r_1020), (0, .ref A_self), (1, .int a1), (2, .int L2), (3, .int 3)]) hx hb dX7_take_92 hl (k := 0) rfl (by decide) (by decide) rfl (fun ls hl => ?_)
              refine lv_aload_n hx hb dX7_take_95 rfl (lv_at hl 2 rfl) ?_
              refine va_get (D := D) (ci := 7) (v := .ref (q 55)) (C := RX7) (T := TX7) (N := 56) hx hb hts (fun _ h => List.mem_cons_of_mem _ (List.mem_append_right _ h)) hown hK hP 0 rfl rfl 55 (by decide) (hts (.fieldLink RX7 118 "CrownTableModel" "cloth" "[I") (mem_i 2 rfl)) (fun _ h9 => h9) rfl dX7_take_96 ?_
              refine lv_iload hx hb dX7_take_99 (lv_at hl 0 rfl) ?_
              refine lv_dup2_11 hx hb dX7_take_101 rfl rfl ?_
              refine va_iald hx hb hK hP 1 1 rfl rfl (vin (a := 3) (by decide) (by decide) (by decide)) dX7_take_102 ?_
              refine lv_topi (fun x_1050 ex_1050 => ?_)
              have lf_1051 : (f_1043 3).toInt = x_1050.toInt := by rw [ex_1050]; rfl
              refine lv_iload hx hb dX7_take_103 (lv_at hl 0 rfl) ?_
              have hPc := hP.sub (ws' := []) [] rfl
              have hDc := hD.sub (ws' := []) [] (by decide) rfl
              have hFc := va_free (wc := []) hD hS hA [] rfl
              have kzz_1052 : (3 : Int32).toInt = 3 := by decide
              refine va_csi (va_runS (As := [.int 3]) (rest := [.int x_1050, .int 3, .ref (q 55)]) ⟨hx, hb, hml, hown, hts⟩ (k_X7_next l D c ts H.size 3 3 (by decide) (by omega)) (cwS 1 hts gX7_take_X7_next rfl rfl rfl ⟨rfl, hdX7_next⟩ ⟨(show 1 + 1 ≤ 2 by decide), (show 8 + (1 + 11) + 20 ≤ 43 by decide)⟩) ⟨Pre0.blind, Pre0.at hPc hDc hAm hSt hS hFc⟩ rfl rfl hl.1 rfl (lv_room (Nat.le_of_ble_eq_true rfl)) dX7_take_105 ⟨(show 0 + 0 ≤ 0 by decide), (show 0 + 0 ≤ 0 by decide)⟩) (fun r_1054 hw_1053 => ?_)
              rcases hw_1053 with ⟨hw_1053, rfl⟩ | ⟨hw_1053, rfl⟩ | ⟨hw_1053, rfl⟩ | ⟨hw_1053, rfl⟩
              · exfalso; omega
              · exfalso; omega
              · skip
                refine lv_iadd hx hb dX7_take_108 ?_
                refine lv_topi (fun x_1055 ex_1055 => ?_)
                have tx_1055 : x_1055.toInt = (x_1050.toInt + 5) := by rw [ex_1055]; exact add_ti (a := x_1050.toInt) (b := 5) rfl (by decide) (by omega) (by omega)
                refine va_iast hx hb hK hP hD hS 1 1 rfl rfl (vin (a := 3) (by decide) (by decide) (by decide)) dX7_take_109 (fun H locs hP hD hS => ?_)
                obtain ⟨f_1056, ef_1056, hP, hD⟩ : ∃ f_1056 : Nat → Int32, f_1056 = upd f_1043 (3 : Int32).toNatClampNeg x_1055 ∧ va_P D vwCl [(A_self, .inr (7, o7 q v w)), (q 55, .inl (c 1, 6, .inl f_1056))] H ∧ va_D A [(A_self, .inr (7, o7 q v w)), (q 55, .inl (c 1, 6, .inl f_1056))] := ⟨_, rfl, hP, hD⟩
                have cl_1057 : (f_1056 0).toInt = (f_1043 0).toInt := by rw [ef_1056]; rfl
                have cl_1058 : (f_1056 1).toInt = (f_1043 1).toInt := by rw [ef_1056]; rfl
                have cl_1059 : (f_1056 2).toInt = (f_1043 2).toInt := by rw [ef_1056]; rfl
                have cl_1060 : (f_1056 3).toInt = x_1055.toInt := by rw [ef_1056]; rfl
                have cl_1061 : (f_1056 4).toInt = (f_1043 4).toInt := by rw [ef_1056]; rfl
                have cl_1062 : (f_1056 5).toInt = (f_1043 5).toInt := by rw [ef_1056]; rfl
                obtain ⟨x_1063, ex_1063⟩ : ∃ y : Int32, y = L2 + 1 := ⟨_, rfl⟩
                refine lv_iinc (v := x_1063) (lv' := [(2, .int x_1063), (5, .int 3), (4, .int r_1020), (0, .ref A_self), (1, .int a1), (3, .int 3)]) hx hb dX7_take_110 hl (k := 4) rfl (by rw [ex_1063]; rfl) (by decide) rfl (fun ls hl => ?_)
                refine lv_goto (tgt := 75) hx hb dX7_take_113 (by decide) ?_
                refine lv_iload hx hb dX7_take_75 (lv_at hl 1 rfl) ?_
                refine lv_iload_n hx hb dX7_take_77 rfl (lv_at hl 5 rfl) ?_
                refine iicmp_leT (a := 3) (b := 3) (tgt := 116) hx hb (by decide) (by decide) dX7_take_78 (by decide) (by decide) ?_
                refine lv_goto (tgt := 43) hx hb dX7_take_116 (by decide) ?_
                refine lv_aload_n hx hb dX7_take_43 rfl (lv_at hl 3 rfl) ?_
                refine va_get (D := D) (ci := 7) (v := .ref (q 55)) (C := RX7) (T := TX7) (N := 56) hx hb hts (fun _ h => List.mem_cons_of_mem _ (List.mem_append_right _ h)) hown hK hP 0 rfl rfl 55 (by decide) (hts (.fieldLink RX7 118 "CrownTableModel" "cloth" "[I") (mem_i 2 rfl)) (fun _ h9 => h9) rfl dX7_take_44 ?_
                refine lv_iload_n hx hb dX7_take_47 rfl (lv_at hl 5 rfl) ?_
                refine va_iald hx hb hK hP 1 1 rfl rfl (vin (a := 3) (by decide) (by decide) (by decide)) dX7_take_48 ?_
                refine lv_topi (fun x_1064 ex_1064 => ?_)
                have lf_1065 : (f_1056 3).toInt = x_1064.toInt := by rw [ex_1064]; rfl
                refine lv_iload hx hb dX7_take_49 (lv_at hl 2 rfl) ?_
                refine iicmp_ge (a := x_1064.toInt) (b := r_1020.toInt) (tgt := 119) hx hb rfl rfl dX7_take_51 (by decide) (fun k_1066 => ?_) (fun k_1066 => ?_)
                · skip
                  refine lv_aload_n hx hb dX7_take_119 rfl (lv_at hl 3 rfl) ?_
                  refine va_get (D := D) (ci := 7) (v := .ref (q 55)) (C := RX7) (T := TX7) (N := 56) hx hb hts (fun _ h => List.mem_cons_of_mem _ (List.mem_append_right _ h)) hown hK hP 0 rfl rfl 55 (by decide) (hts (.fieldLink RX7 118 "CrownTableModel" "cloth" "[I") (mem_i 2 rfl)) (fun _ h9 => h9) rfl dX7_take_120 ?_
                  refine lv_iload_n hx hb dX7_take_123 rfl (lv_at hl 5 rfl) ?_
                  refine lv_dup2_11 hx hb dX7_take_124 rfl rfl ?_
                  refine va_iald hx hb hK hP 1 1 rfl rfl (vin (a := 3) (by decide) (by decide) (by decide)) dX7_take_125 ?_
                  refine lv_topi (fun x_1067 ex_1067 => ?_)
                  have lf_1068 : (f_1056 3).toInt = x_1067.toInt := by rw [ex_1067]; rfl
                  refine lv_iload hx hb dX7_take_126 (lv_at hl 2 rfl) ?_
                  refine lv_isub hx hb dX7_take_128 ?_
                  refine lv_topi (fun x_1069 ex_1069 => ?_)
                  have tx_1069 : x_1069.toInt = (x_1067.toInt - r_1020.toInt) := by rw [ex_1069]; exact sub_ti (a := x_1067.toInt) (b := r_1020.toInt) rfl rfl (by omega) (by omega)
                  refine va_iast hx hb hK hP hD hS 1 1 rfl rfl (vin (a := 3) (by decide) (by decide) (by decide)) dX7_take_129 (fun H locs hP hD hS => ?_)
                  obtain ⟨f_1070, ef_1070, hP, hD⟩ : ∃ f_1070 : Nat → Int32, f_1070 = upd f_1056 (3 : Int32).toNatClampNeg x_1069 ∧ va_P D vwCl [(A_self, .inr (7, o7 q v w)), (q 55, .inl (c 1, 6, .inl f_1070))] H ∧ va_D A [(A_self, .inr (7, o7 q v w)), (q 55, .inl (c 1, 6, .inl f_1070))] := ⟨_, rfl, hP, hD⟩
                  have cl_1071 : (f_1070 0).toInt = (f_1056 0).toInt := by rw [ef_1070]; rfl
                  have cl_1072 : (f_1070 1).toInt = (f_1056 1).toInt := by rw [ef_1070]; rfl
                  have cl_1073 : (f_1070 2).toInt = (f_1056 2).toInt := by rw [ef_1070]; rfl
                  have cl_1074 : (f_1070 3).toInt = x_1069.toInt := by rw [ef_1070]; rfl
                  have cl_1075 : (f_1070 4).toInt = (f_1056 4).toInt := by rw [ef_1070]; rfl
                  have cl_1076 : (f_1070 5).toInt = (f_1056 5).toInt := by rw [ef_1070]; rfl
                  refine lv_iinc (v := 4) (lv' := [(3, .int 4), (2, .int x_1063), (5, .int 3), (4, .int r_1020), (0, .ref A_self), (1, .int a1)]) hx hb dX7_take_130 hl (k := 5) rfl (by decide) (by decide) rfl (fun ls hl => ?_)
                  refine lv_goto (tgt := 30) hx hb dX7_take_133 (by decide) ?_
                  have kzz_1077 : (4 : Int32).toInt = 4 := by decide
                  have hl := lv_sub hl [4, 5, 1, 0] rfl
                  exact (ih30 ((6 - (4 : Int32).toInt).toNat) (by omega) x_1063 4 f_1070 (by omega) (by omega) (by omega) (by omega) (by omega) (by omega) (by omega) (by omega) (by omega) (by omega) (by omega) (by omega) (by omega) (by omega) rfl _ _ _ hP hD hS hl)
                · skip
                  exfalso; omega
              · exfalso; omega
            · skip
              refine lv_iinc (v := 5) (lv' := [(5, .int 5), (4, .int r_1020), (0, .ref A_self), (1, .int a1), (2, .int L2), (3, .int 3)]) hx hb dX7_take_69 hl (k := 0) rfl (by decide) (by decide) rfl (fun ls hl => ?_)
              refine lv_goto (tgt := 59) hx hb dX7_take_72 (by decide) ?_
              refine lv_aload_n hx hb dX7_take_59 rfl (lv_at hl 2 rfl) ?_
              refine va_get (D := D) (ci := 7) (v := .ref (q 55)) (C := RX7) (T := TX7) (N := 56) hx hb hts (fun _ h => List.mem_cons_of_mem _ (List.mem_append_right _ h)) hown hK hP 0 rfl rfl 55 (by decide) (hts (.fieldLink RX7 118 "CrownTableModel" "cloth" "[I") (mem_i 2 rfl)) (fun _ h9 => h9) rfl dX7_take_60 ?_
              refine lv_iload hx hb dX7_take_63 (lv_at hl 0 rfl) ?_
              refine va_iald hx hb hK hP 1 1 rfl rfl (vin (a := 5) (by decide) (by decide) (by decide)) dX7_take_65 ?_
              refine lv_topi (fun x_1078 ex_1078 => ?_)
              have lf_1079 : (M_cloth 5).toInt = x_1078.toInt := by rw [ex_1078]; rfl
              refine iif_ne (a := x_1078.toInt) (tgt := 75) hx hb rfl dX7_take_66 (by decide) (fun k_1080 => ?_) (fun k_1080 => ?_)
              · skip
                refine lv_iload hx hb dX7_take_75 (lv_at hl 0 rfl) ?_
                refine lv_iload_n hx hb dX7_take_77 rfl (lv_at hl 5 rfl) ?_
                refine iicmp_leF (a := 5) (b := 3) (tgt := 116) hx hb (by decide) (by decide) dX7_take_78 (by decide) (by decide) ?_
                refine lv_aload_n hx hb dX7_take_81 rfl (lv_at hl 2 rfl) ?_
                refine va_get (D := D) (ci := 7) (v := .ref (q 55)) (C := RX7) (T := TX7) (N := 56) hx hb hts (fun _ h => List.mem_cons_of_mem _ (List.mem_append_right _ h)) hown hK hP 0 rfl rfl 55 (by decide) (hts (.fieldLink RX7 118 "CrownTableModel" "cloth" "[I") (mem_i 2 rfl)) (fun _ h9 => h9) rfl dX7_take_82 ?_
                refine lv_iload hx hb dX7_take_85 (lv_at hl 0 rfl) ?_
                refine lv_dup2_11 hx hb dX7_take_87 rfl rfl ?_
                refine va_iald hx hb hK hP 1 1 rfl rfl (vin (a := 5) (by decide) (by decide) (by decide)) dX7_take_88 ?_
                refine lv_topi (fun x_1081 ex_1081 => ?_)
                have lf_1082 : (M_cloth 5).toInt = x_1081.toInt := by rw [ex_1081]; rfl
                refine lv_iconst (v := 1) hx hb dX7_take_89 (by decide) ?_
                refine lv_isub hx hb dX7_take_90 ?_
                refine lv_topi (fun x_1083 ex_1083 => ?_)
                have tx_1083 : x_1083.toInt = (x_1081.toInt - 1) := by rw [ex_1083]; exact sub_ti (a := x_1081.toInt) (b := 1) rfl (by decide) (by omega) (by omega)
                refine va_iast hx hb hK hP hD hS 1 1 rfl rfl (vin (a := 5) (by decide) (by decide) (by decide)) dX7_take_91 (fun H locs hP hD hS => ?_)
                obtain ⟨f_1084, ef_1084, hP, hD⟩ : ∃ f_1084 : Nat → Int32, f_1084 = upd M_cloth (5 : Int32).toNatClampNeg x_1083 ∧ va_P D vwCl [(A_self, .inr (7, o7 q v w)), (q 55, .inl (c 1, 6, .inl f_1084))] H ∧ va_D A [(A_self, .inr (7, o7 q v w)), (q 55, .inl (c 1, 6, .inl f_1084))] := ⟨_, rfl, hP, hD⟩
                have cl_1085 : (f_1084 0).toInt = (M_cloth 0).toInt := by rw [ef_1084]; rfl
                have cl_1086 : (f_1084 1).toInt = (M_cloth 1).toInt := by rw [ef_1084]; rfl
                have cl_1087 : (f_1084 2).toInt = (M_cloth 2).toInt := by rw [ef_1084]; rfl
                have cl_1088 : (f_1084 3).toInt = (M_cloth 3).toInt := by rw [ef_1084]; rfl
                have cl_1089 : (f_1084 4).toInt = (M_cloth 4).toInt := by rw [ef_1084]; rfl
                have cl_1090 : (f_1084 5).toInt = x_1083.toInt := by rw [ef_1084]; rfl
                refine lv_iinc (v := 4) (lv' := [(5, .int 4), (4, .int r_1020), (0, .ref A_self), (1, .int a1), (2, .int L2), (3, .int 3)]) hx hb dX7_take_92 hl (k := 0) rfl (by decide) (by decide) rfl (fun ls hl => ?_)
                refine lv_aload_n hx hb dX7_take_95 rfl (lv_at hl 2 rfl) ?_
                refine va_get (D := D) (ci := 7) (v := .ref (q 55)) (C := RX7) (T := TX7) (N := 56) hx hb hts (fun _ h => List.mem_cons_of_mem _ (List.mem_append_right _ h)) hown hK hP 0 rfl rfl 55 (by decide) (hts (.fieldLink RX7 118 "CrownTableModel" "cloth" "[I") (mem_i 2 rfl)) (fun _ h9 => h9) rfl dX7_take_96 ?_
                refine lv_iload hx hb dX7_take_99 (lv_at hl 0 rfl) ?_
                refine lv_dup2_11 hx hb dX7_take_101 rfl rfl ?_
                refine va_iald hx hb hK hP 1 1 rfl rfl (vin (a := 4) (by decide) (by decide) (by decide)) dX7_take_102 ?_
                refine lv_topi (fun x_1091 ex_1091 => ?_)
                have lf_1092 : (f_1084 4).toInt = x_1091.toInt := by rw [ex_1091]; rfl
                refine lv_iload hx hb dX7_take_103 (lv_at hl 0 rfl) ?_
                have hPc := hP.sub (ws' := []) [] rfl
                have hDc := hD.sub (ws' := []) [] (by decide) rfl
                have hFc := va_free (wc := []) hD hS hA [] rfl
                have kzz_1093 : (4 : Int32).toInt = 4 := by decide
                refine va_csi (va_runS (As := [.int 4]) (rest := [.int x_1091, .int 4, .ref (q 55)]) ⟨hx, hb, hml, hown, hts⟩ (k_X7_next l D c ts H.size 4 4 (by decide) (by omega)) (cwS 1 hts gX7_take_X7_next rfl rfl rfl ⟨rfl, hdX7_next⟩ ⟨(show 1 + 1 ≤ 2 by decide), (show 8 + (1 + 11) + 20 ≤ 43 by decide)⟩) ⟨Pre0.blind, Pre0.at hPc hDc hAm hSt hS hFc⟩ rfl rfl hl.1 rfl (lv_room (Nat.le_of_ble_eq_true rfl)) dX7_take_105 ⟨(show 0 + 0 ≤ 0 by decide), (show 0 + 0 ≤ 0 by decide)⟩) (fun r_1095 hw_1094 => ?_)
                rcases hw_1094 with ⟨hw_1094, rfl⟩ | ⟨hw_1094, rfl⟩ | ⟨hw_1094, rfl⟩ | ⟨hw_1094, rfl⟩
                · exfalso; omega
                · exfalso; omega
                · exfalso; omega
                · skip
                  refine lv_iadd hx hb dX7_take_108 ?_
                  refine lv_topi (fun x_1096 ex_1096 => ?_)
                  have tx_1096 : x_1096.toInt = (x_1091.toInt + 10) := by rw [ex_1096]; exact add_ti (a := x_1091.toInt) (b := 10) rfl (by decide) (by omega) (by omega)
                  refine va_iast hx hb hK hP hD hS 1 1 rfl rfl (vin (a := 4) (by decide) (by decide) (by decide)) dX7_take_109 (fun H locs hP hD hS => ?_)
                  obtain ⟨f_1097, ef_1097, hP, hD⟩ : ∃ f_1097 : Nat → Int32, f_1097 = upd f_1084 (4 : Int32).toNatClampNeg x_1096 ∧ va_P D vwCl [(A_self, .inr (7, o7 q v w)), (q 55, .inl (c 1, 6, .inl f_1097))] H ∧ va_D A [(A_self, .inr (7, o7 q v w)), (q 55, .inl (c 1, 6, .inl f_1097))] := ⟨_, rfl, hP, hD⟩
                  have cl_1098 : (f_1097 0).toInt = (f_1084 0).toInt := by rw [ef_1097]; rfl
                  have cl_1099 : (f_1097 1).toInt = (f_1084 1).toInt := by rw [ef_1097]; rfl
                  have cl_1100 : (f_1097 2).toInt = (f_1084 2).toInt := by rw [ef_1097]; rfl
                  have cl_1101 : (f_1097 3).toInt = (f_1084 3).toInt := by rw [ef_1097]; rfl
                  have cl_1102 : (f_1097 4).toInt = x_1096.toInt := by rw [ef_1097]; rfl
                  have cl_1103 : (f_1097 5).toInt = (f_1084 5).toInt := by rw [ef_1097]; rfl
                  obtain ⟨x_1104, ex_1104⟩ : ∃ y : Int32, y = L2 + 1 := ⟨_, rfl⟩
                  refine lv_iinc (v := x_1104) (lv' := [(2, .int x_1104), (5, .int 4), (4, .int r_1020), (0, .ref A_self), (1, .int a1), (3, .int 3)]) hx hb dX7_take_110 hl (k := 4) rfl (by rw [ex_1104]; rfl) (by decide) rfl (fun ls hl => ?_)
                  refine lv_goto (tgt := 75) hx hb dX7_take_113 (by decide) ?_
                  refine lv_iload hx hb dX7_take_75 (lv_at hl 1 rfl) ?_
                  refine lv_iload_n hx hb dX7_take_77 rfl (lv_at hl 5 rfl) ?_
                  refine iicmp_leF (a := 4) (b := 3) (tgt := 116) hx hb (by decide) (by decide) dX7_take_78 (by decide) (by decide) ?_
                  refine lv_aload_n hx hb dX7_take_81 rfl (lv_at hl 3 rfl) ?_
                  refine va_get (D := D) (ci := 7) (v := .ref (q 55)) (C := RX7) (T := TX7) (N := 56) hx hb hts (fun _ h => List.mem_cons_of_mem _ (List.mem_append_right _ h)) hown hK hP 0 rfl rfl 55 (by decide) (hts (.fieldLink RX7 118 "CrownTableModel" "cloth" "[I") (mem_i 2 rfl)) (fun _ h9 => h9) rfl dX7_take_82 ?_
                  refine lv_iload hx hb dX7_take_85 (lv_at hl 1 rfl) ?_
                  refine lv_dup2_11 hx hb dX7_take_87 rfl rfl ?_
                  refine va_iald hx hb hK hP 1 1 rfl rfl (vin (a := 4) (by decide) (by decide) (by decide)) dX7_take_88 ?_
                  refine lv_topi (fun x_1105 ex_1105 => ?_)
                  have lf_1106 : (f_1097 4).toInt = x_1105.toInt := by rw [ex_1105]; rfl
                  refine lv_iconst (v := 1) hx hb dX7_take_89 (by decide) ?_
                  refine lv_isub hx hb dX7_take_90 ?_
                  refine lv_topi (fun x_1107 ex_1107 => ?_)
                  have tx_1107 : x_1107.toInt = (x_1105.toInt - 1) := by rw [ex_1107]; exact sub_ti (a := x_1105.toInt) (b := 1) rfl (by decide) (by omega) (by omega)
                  refine va_iast hx hb hK hP hD hS 1 1 rfl rfl (vin (a := 4) (by decide) (by decide) (by decide)) dX7_take_91 (fun H locs hP hD hS => ?_)
                  obtain ⟨f_1108, ef_1108, hP, hD⟩ : ∃ f_1108 : Nat → Int32, f_1108 = upd f_1097 (4 : Int32).toNatClampNeg x_1107 ∧ va_P D vwCl [(A_self, .inr (7, o7 q v w)), (q 55, .inl (c 1, 6, .inl f_1108))] H ∧ va_D A [(A_self, .inr (7, o7 q v w)), (q 55, .inl (c 1, 6, .inl f_1108))] := ⟨_, rfl, hP, hD⟩
                  have cl_1109 : (f_1108 0).toInt = (f_1097 0).toInt := by rw [ef_1108]; rfl
                  have cl_1110 : (f_1108 1).toInt = (f_1097 1).toInt := by rw [ef_1108]; rfl
                  have cl_1111 : (f_1108 2).toInt = (f_1097 2).toInt := by rw [ef_1108]; rfl
                  have cl_1112 : (f_1108 3).toInt = (f_1097 3).toInt := by rw [ef_1108]; rfl
                  have cl_1113 : (f_1108 4).toInt = x_1107.toInt := by rw [ef_1108]; rfl
                  have cl_1114 : (f_1108 5).toInt = (f_1097 5).toInt := by rw [ef_1108]; rfl
                  refine lv_iinc (v := 3) (lv' := [(5, .int 3), (2, .int x_1104), (4, .int r_1020), (0, .ref A_self), (1, .int a1), (3, .int 3)]) hx hb dX7_take_92 hl (k := 1) rfl (by decide) (by decide) rfl (fun ls hl => ?_)
                  refine lv_aload_n hx hb dX7_take_95 rfl (lv_at hl 3 rfl) ?_
                  refine va_get (D := D) (ci := 7) (v := .ref (q 55)) (C := RX7) (T := TX7) (N := 56) hx hb hts (fun _ h => List.mem_cons_of_mem _ (List.mem_append_right _ h)) hown hK hP 0 rfl rfl 55 (by decide) (hts (.fieldLink RX7 118 "CrownTableModel" "cloth" "[I") (mem_i 2 rfl)) (fun _ h9 => h9) rfl dX7_take_96 ?_
                  refine lv_iload hx hb dX7_take_99 (lv_at hl 0 rfl) ?_
                  refine lv_dup2_11 hx hb dX7_take_101 rfl rfl ?_
                  refine va_iald hx hb hK hP 1 1 rfl rfl (vin (a := 3) (by decide) (by decide) (by decide)) dX7_take_102 ?_
                  refine lv_topi (fun x_1115 ex_1115 => ?_)
                  have lf_1116 : (f_1108 3).toInt = x_1115.toInt := by rw [ex_1115]; rfl
                  refine lv_iload hx hb dX7_take_103 (lv_at hl 0 rfl) ?_
                  have hPc := hP.sub (ws' := []) [] rfl
                  have hDc := hD.sub (ws' := []) [] (by decide) rfl
                  have hFc := va_free (wc := []) hD hS hA [] rfl
                  have kzz_1117 : (3 : Int32).toInt = 3 := by decide
                  refine va_csi (va_runS (As := [.int 3]) (rest := [.int x_1115, .int 3, .ref (q 55)]) ⟨hx, hb, hml, hown, hts⟩ (k_X7_next l D c ts H.size 3 3 (by decide) (by omega)) (cwS 1 hts gX7_take_X7_next rfl rfl rfl ⟨rfl, hdX7_next⟩ ⟨(show 1 + 1 ≤ 2 by decide), (show 8 + (1 + 11) + 20 ≤ 43 by decide)⟩) ⟨Pre0.blind, Pre0.at hPc hDc hAm hSt hS hFc⟩ rfl rfl hl.1 rfl (lv_room (Nat.le_of_ble_eq_true rfl)) dX7_take_105 ⟨(show 0 + 0 ≤ 0 by decide), (show 0 + 0 ≤ 0 by decide)⟩) (fun r_1119 hw_1118 => ?_)
                  rcases hw_1118 with ⟨hw_1118, rfl⟩ | ⟨hw_1118, rfl⟩ | ⟨hw_1118, rfl⟩ | ⟨hw_1118, rfl⟩
                  · exfalso; omega
                  · exfalso; omega
                  · skip
                    refine lv_iadd hx hb dX7_take_108 ?_
                    refine lv_topi (fun x_1120 ex_1120 => ?_)
                    have tx_1120 : x_1120.toInt = (x_1115.toInt + 5) := by rw [ex_1120]; exact add_ti (a := x_1115.toInt) (b := 5) rfl (by decide) (by omega) (by omega)
                    refine va_iast hx hb hK hP hD hS 1 1 rfl rfl (vin (a := 3) (by decide) (by decide) (by decide)) dX7_take_109 (fun H locs hP hD hS => ?_)
                    obtain ⟨f_1121, ef_1121, hP, hD⟩ : ∃ f_1121 : Nat → Int32, f_1121 = upd f_1108 (3 : Int32).toNatClampNeg x_1120 ∧ va_P D vwCl [(A_self, .inr (7, o7 q v w)), (q 55, .inl (c 1, 6, .inl f_1121))] H ∧ va_D A [(A_self, .inr (7, o7 q v w)), (q 55, .inl (c 1, 6, .inl f_1121))] := ⟨_, rfl, hP, hD⟩
                    have cl_1122 : (f_1121 0).toInt = (f_1108 0).toInt := by rw [ef_1121]; rfl
                    have cl_1123 : (f_1121 1).toInt = (f_1108 1).toInt := by rw [ef_1121]; rfl
                    have cl_1124 : (f_1121 2).toInt = (f_1108 2).toInt := by rw [ef_1121]; rfl
                    have cl_1125 : (f_1121 3).toInt = x_1120.toInt := by rw [ef_1121]; rfl
                    have cl_1126 : (f_1121 4).toInt = (f_1108 4).toInt := by rw [ef_1121]; rfl
                    have cl_1127 : (f_1121 5).toInt = (f_1108 5).toInt := by rw [ef_1121]; rfl
                    obtain ⟨x_1128, ex_1128⟩ : ∃ y : Int32, y = x_1104 + 1 := ⟨_, rfl⟩
                    refine lv_iinc (v := x_1128) (lv' := [(2, .int x_1128), (5, .int 3), (4, .int r_1020), (0, .ref A_self), (1, .int a1), (3, .int 3)]) hx hb dX7_take_110 hl (k := 1) rfl (by rw [ex_1128]; rfl) (by decide) rfl (fun ls hl => ?_)
                    refine lv_goto (tgt := 75) hx hb dX7_take_113 (by decide) ?_
                    refine lv_iload hx hb dX7_take_75 (lv_at hl 1 rfl) ?_
                    refine lv_iload_n hx hb dX7_take_77 rfl (lv_at hl 5 rfl) ?_
                    refine iicmp_leT (a := 3) (b := 3) (tgt := 116) hx hb (by decide) (by decide) dX7_take_78 (by decide) (by decide) ?_
                    refine lv_goto (tgt := 43) hx hb dX7_take_116 (by decide) ?_
                    refine lv_aload_n hx hb dX7_take_43 rfl (lv_at hl 3 rfl) ?_
                    refine va_get (D := D) (ci := 7) (v := .ref (q 55)) (C := RX7) (T := TX7) (N := 56) hx hb hts (fun _ h => List.mem_cons_of_mem _ (List.mem_append_right _ h)) hown hK hP 0 rfl rfl 55 (by decide) (hts (.fieldLink RX7 118 "CrownTableModel" "cloth" "[I") (mem_i 2 rfl)) (fun _ h9 => h9) rfl dX7_take_44 ?_
                    refine lv_iload_n hx hb dX7_take_47 rfl (lv_at hl 5 rfl) ?_
                    refine va_iald hx hb hK hP 1 1 rfl rfl (vin (a := 3) (by decide) (by decide) (by decide)) dX7_take_48 ?_
                    refine lv_topi (fun x_1129 ex_1129 => ?_)
                    have lf_1130 : (f_1121 3).toInt = x_1129.toInt := by rw [ex_1129]; rfl
                    refine lv_iload hx hb dX7_take_49 (lv_at hl 2 rfl) ?_
                    refine iicmp_ge (a := x_1129.toInt) (b := r_1020.toInt) (tgt := 119) hx hb rfl rfl dX7_take_51 (by decide) (fun k_1131 => ?_) (fun k_1131 => ?_)
                    · skip
                      refine lv_aload_n hx hb dX7_take_119 rfl (lv_at hl 3 rfl) ?_
                      refine va_get (D := D) (ci := 7) (v := .ref (q 55)) (C := RX7) (T := TX7) (N := 56) hx hb hts (fun _ h => List.mem_cons_of_mem _ (List.mem_append_right _ h)) hown hK hP 0 rfl rfl 55 (by decide) (hts (.fieldLink RX7 118 "CrownTableModel" "cloth" "[I") (mem_i 2 rfl)) (fun _ h9 => h9) rfl dX7_take_120 ?_
                      refine lv_iload_n hx hb dX7_take_123 rfl (lv_at hl 5 rfl) ?_
                      refine lv_dup2_11 hx hb dX7_take_124 rfl rfl ?_
                      refine va_iald hx hb hK hP 1 1 rfl rfl (vin (a := 3) (by decide) (by decide) (by decide)) dX7_take_125 ?_
                      refine lv_topi (fun x_1132 ex_1132 => ?_)
                      have lf_1133 : (f_1121 3).toInt = x_1132.toInt := by rw [ex_1132]; rfl
                      refine lv_iload hx hb dX7_take_126 (lv_at hl 2 rfl) ?_
                      refine lv_isub hx hb dX7_take_128 ?_
                      refine lv_topi (fun x_1134 ex_1134 => ?_)
                      have tx_1134 : x_1134.toInt = (x_1132.toInt - r_1020.toInt) := by rw [ex_1134]; exact sub_ti (a := x_1132.toInt) (b := r_1020.toInt) rfl rfl (by omega) (by omega)
                      refine va_iast hx hb hK hP hD hS 1 1 rfl rfl (vin (a := 3) (by decide) (by decide) (by decide)) dX7_take_129 (fun H locs hP hD hS => ?_)
                      obtain ⟨f_1135, ef_1135, hP, hD⟩ : ∃ f_1135 : Nat → Int32, f_1135 = upd f_1121 (3 : Int32).toNatClampNeg x_1134 ∧ va_P D vwCl [(A_self, .inr (7, o7 q v w)), (q 55, .inl (c 1, 6, .inl f_1135))] H ∧ va_D A [(A_self, .inr (7, o7 q v w)), (q 55, .inl (c 1, 6, .inl f_1135))] := ⟨_, rfl, hP, hD⟩
                      have cl_1136 : (f_1135 0).toInt = (f_1121 0).toInt := by rw [ef_1135]; rfl
                      have cl_1137 : (f_1135 1).toInt = (f_1121 1).toInt := by rw [ef_1135]; rfl
                      have cl_1138 : (f_1135 2).toInt = (f_1121 2).toInt := by rw [ef_1135]; rfl
                      have cl_1139 : (f_1135 3).toInt = x_1134.toInt := by rw [ef_1135]; rfl
                      have cl_1140 : (f_1135 4).toInt = (f_1121 4).toInt := by rw [ef_1135]; rfl
                      have cl_1141 : (f_1135 5).toInt = (f_1121 5).toInt := by rw [ef_1135]; rfl
                      refine lv_iinc (v := 4) (lv' := [(3, .int 4), (2, .int x_1128), (5, .int 3), (4, .int r_1020), (0, .ref A_self), (1, .int a1)]) hx hb dX7_take_130 hl (k := 5) rfl (by decide) (by decide) rfl (fun ls hl => ?_)
                      refine lv_goto (tgt := 30) hx hb dX7_take_133 (by decide) ?_
                      have kzz_1142 : (4 : Int32).toInt = 4 := by decide
                      have hl := lv_sub hl [4, 5, 1, 0] rfl
                      exact (ih30 ((6 - (4 : Int32).toInt).toNat) (by omega) x_1128 4 f_1135 (by omega) (by omega) (by omega) (by omega) (by omega) (by omega) (by omega) (by omega) (by omega) (by omega) (by omega) (by omega) (by omega) (by omega) rfl _ _ _ hP hD hS hl)
                    · skip
                      exfalso; omega
                  · exfalso; omega
              · skip
                exfalso; omega
        · skip
          obtain rfl : L3 = 4 := Int32.toInt_inj.mp (by rw [hsp]; rfl)
          have hl : lv_has ls 6 [(0, .ref A_self), (1, .int a1), (2, .int L2), (3, .int 4)] := hl
          have kzz_1143 : (4 : Int32).toInt = 4 := by decide
          refine lv_iload_n hx hb dX7_take_30 rfl (lv_at hl 3 rfl) ?_
          refine lv_bipush (v := 6) hx hb dX7_take_31 (by decide) ?_
          refine iicmp_geF (a := 4) (b := 6) (tgt := 136) hx hb (by decide) (by decide) dX7_take_33 (by decide) (by decide) ?_
          refine lv_iload_n hx hb dX7_take_36 rfl (lv_at hl 1 rfl) ?_
          refine lv_iload_n hx hb dX7_take_37 rfl (lv_at hl 3 rfl) ?_
          have hPc := hP.sub (ws' := []) [] rfl
          have hDc := hD.sub (ws' := []) [] (by decide) rfl
          have hFc := va_free (wc := []) hD hS hA [] rfl
          have kzz_1144 : (4 : Int32).toInt = 4 := by decide
          refine va_csi (va_runS (As := [.int a1, .int 4]) (rest := []) ⟨hx, hb, hml, hown, hts⟩ (k_X7_notch_P l D c ts H.size a1 i_a1 hi_a1 4 4 (by decide) (by omega) (by omega)) (cwS 2 hts gX7_take_X7_notch rfl rfl rfl ⟨rfl, hdX7_notch⟩ ⟨(show 1 + 1 ≤ 2 by decide), (show 8 + (2 + 11) + 20 ≤ 43 by decide)⟩) ⟨Pre0.blind, Pre0.at hPc hDc hAm hSt hS hFc⟩ rfl rfl hl.1 rfl (lv_room (Nat.le_of_ble_eq_true rfl)) dX7_take_38 ⟨(show 0 + 0 ≤ 0 by decide), (show 0 + 0 ≤ 0 by decide)⟩) (fun r_1146 hw_1145 => ?_)
          have nf_1147 := hw_1145.2.2.2.2.2.1 rfl
          have nf_1148 := hw_1145.1
          clear hw_1145
          have rg_r_1146 := i32r r_1146
          refine lv_istore (lv' := [(4, .int r_1146), (0, .ref A_self), (1, .int a1), (2, .int L2), (3, .int 4)]) hx hb dX7_take_41 hl (by decide) rfl (fun ls hl => ?_)
          refine lv_aload_n hx hb dX7_take_43 rfl (lv_at hl 1 rfl) ?_
          refine va_get (D := D) (ci := 7) (v := .ref (q 55)) (C := RX7) (T := TX7) (N := 56) hx hb hts (fun _ h => List.mem_cons_of_mem _ (List.mem_append_right _ h)) hown hK hP 0 rfl rfl 55 (by decide) (hts (.fieldLink RX7 118 "CrownTableModel" "cloth" "[I") (mem_i 2 rfl)) (fun _ h9 => h9) rfl dX7_take_44 ?_
          refine lv_iload_n hx hb dX7_take_47 rfl (lv_at hl 4 rfl) ?_
          refine va_iald hx hb hK hP 1 1 rfl rfl (vin (a := 4) (by decide) (by decide) (by decide)) dX7_take_48 ?_
          refine lv_topi (fun x_1149 ex_1149 => ?_)
          have lf_1150 : (M_cloth 4).toInt = x_1149.toInt := by rw [ex_1149]; rfl
          refine lv_iload hx hb dX7_take_49 (lv_at hl 0 rfl) ?_
          refine iicmp_ge (a := x_1149.toInt) (b := r_1146.toInt) (tgt := 119) hx hb rfl rfl dX7_take_51 (by decide) (fun k_1151 => ?_) (fun k_1151 => ?_)
          · skip
            refine lv_aload_n hx hb dX7_take_119 rfl (lv_at hl 1 rfl) ?_
            refine va_get (D := D) (ci := 7) (v := .ref (q 55)) (C := RX7) (T := TX7) (N := 56) hx hb hts (fun _ h => List.mem_cons_of_mem _ (List.mem_append_right _ h)) hown hK hP 0 rfl rfl 55 (by decide) (hts (.fieldLink RX7 118 "CrownTableModel" "cloth" "[I") (mem_i 2 rfl)) (fun _ h9 => h9) rfl dX7_take_120 ?_
            refine lv_iload_n hx hb dX7_take_123 rfl (lv_at hl 4 rfl) ?_
            refine lv_dup2_11 hx hb dX7_take_124 rfl rfl ?_
            refine va_iald hx hb hK hP 1 1 rfl rfl (vin (a := 4) (by decide) (by decide) (by decide)) dX7_take_125 ?_
            refine lv_topi (fun x_1152 ex_1152 => ?_)
            have lf_1153 : (M_cloth 4).toInt = x_1152.toInt := by rw [ex_1152]; rfl
            refine lv_iload hx hb dX7_take_126 (lv_at hl 0 rfl) ?_
            refine lv_isub hx hb dX7_take_128 ?_
            refine lv_topi (fun x_1154 ex_1154 => ?_)
            have tx_1154 : x_1154.toInt = (x_1152.toInt - r_1146.toInt) := by rw [ex_1154]; exact sub_ti (a := x_1152.toInt) (b := r_1146.toInt) rfl rfl (by omega) (by omega)
            refine va_iast hx hb hK hP hD hS 1 1 rfl rfl (vin (a := 4) (by decide) (by decide) (by decide)) dX7_take_129 (fun H locs hP hD hS => ?_)
            obtain ⟨f_1155, ef_1155, hP, hD⟩ : ∃ f_1155 : Nat → Int32, f_1155 = upd M_cloth (4 : Int32).toNatClampNeg x_1154 ∧ va_P D vwCl [(A_self, .inr (7, o7 q v w)), (q 55, .inl (c 1, 6, .inl f_1155))] H ∧ va_D A [(A_self, .inr (7, o7 q v w)), (q 55, .inl (c 1, 6, .inl f_1155))] := ⟨_, rfl, hP, hD⟩
            have cl_1156 : (f_1155 0).toInt = (M_cloth 0).toInt := by rw [ef_1155]; rfl
            have cl_1157 : (f_1155 1).toInt = (M_cloth 1).toInt := by rw [ef_1155]; rfl
            have cl_1158 : (f_1155 2).toInt = (M_cloth 2).toInt := by rw [ef_1155]; rfl
            have cl_1159 : (f_1155 3).toInt = (M_cloth 3).toInt := by rw [ef_1155]; rfl
            have cl_1160 : (f_1155 4).toInt = x_1154.toInt := by rw [ef_1155]; rfl
            have cl_1161 : (f_1155 5).toInt = (M_cloth 5).toInt := by rw [ef_1155]; rfl
            refine lv_iinc (v := 5) (lv' := [(3, .int 5), (4, .int r_1146), (0, .ref A_self), (1, .int a1), (2, .int L2)]) hx hb dX7_take_130 hl (k := 4) rfl (by decide) (by decide) rfl (fun ls hl => ?_)
            refine lv_goto (tgt := 30) hx hb dX7_take_133 (by decide) ?_
            have kzz_1162 : (5 : Int32).toInt = 5 := by decide
            have hl := lv_sub hl [2, 3, 4, 0] rfl
            exact (ih30 ((6 - (5 : Int32).toInt).toNat) (by omega) L2 5 f_1155 (by omega) (by omega) (by omega) (by omega) (by omega) (by omega) (by omega) (by omega) (by omega) (by omega) (by omega) (by omega) (by omega) (by omega) rfl _ _ _ hP hD hS hl)
          · skip
            refine lv_iload_n hx hb dX7_take_54 rfl (lv_at hl 4 rfl) ?_
            refine lv_iconst (v := 1) hx hb dX7_take_55 (by decide) ?_
            refine lv_iadd hx hb dX7_take_56 ?_
            refine lk_i (y := 5) (by decide) ?_
            refine lv_istore (lv' := [(5, .int 5), (4, .int r_1146), (0, .ref A_self), (1, .int a1), (2, .int L2), (3, .int 4)]) hx hb dX7_take_57 hl (by decide) rfl (fun ls hl => ?_)
            refine lv_aload_n hx hb dX7_take_59 rfl (lv_at hl 2 rfl) ?_
            refine va_get (D := D) (ci := 7) (v := .ref (q 55)) (C := RX7) (T := TX7) (N := 56) hx hb hts (fun _ h => List.mem_cons_of_mem _ (List.mem_append_right _ h)) hown hK hP 0 rfl rfl 55 (by decide) (hts (.fieldLink RX7 118 "CrownTableModel" "cloth" "[I") (mem_i 2 rfl)) (fun _ h9 => h9) rfl dX7_take_60 ?_
            refine lv_iload hx hb dX7_take_63 (lv_at hl 0 rfl) ?_
            refine va_iald hx hb hK hP 1 1 rfl rfl (vin (a := 5) (by decide) (by decide) (by decide)) dX7_take_65 ?_
            refine lv_topi (fun x_1163 ex_1163 => ?_)
            have lf_1164 : (M_cloth 5).toInt = x_1163.toInt := by rw [ex_1163]; rfl
            refine iif_ne (a := x_1163.toInt) (tgt := 75) hx hb rfl dX7_take_66 (by decide) (fun k_1165 => ?_) (fun k_1165 => ?_)
            · skip
              refine lv_iload hx hb dX7_take_75 (lv_at hl 0 rfl) ?_
              refine lv_iload_n hx hb dX7_take_77 rfl (lv_at hl 5 rfl) ?_
              refine iicmp_leF (a := 5) (b := 4) (tgt := 116) hx hb (by decide) (by decide) dX7_take_78 (by decide) (by decide) ?_
              refine lv_aload_n hx hb dX7_take_81 rfl (lv_at hl 2 rfl) ?_
              refine va_get (D := D) (ci := 7) (v := .ref (q 55)) (C := RX7) (T := TX7) (N := 56) hx hb hts (fun _ h => List.mem_cons_of_mem _ (List.mem_append_right _ h)) hown hK hP 0 rfl rfl 55 (by decide) (hts (.fieldLink RX7 118 "CrownTableModel" "cloth" "[I") (mem_i 2 rfl)) (fun _ h9 => h9) rfl dX7_take_82 ?_
              refine lv_iload hx hb dX7_take_85 (lv_at hl 0 rfl) ?_
              refine lv_dup2_11 hx hb dX7_take_87 rfl rfl ?_
              refine va_iald hx hb hK hP 1 1 rfl rfl (vin (a := 5) (by decide) (by decide) (by decide)) dX7_take_88 ?_
              refine lv_topi (fun x_1166 ex_1166 => ?_)
              have lf_1167 : (M_cloth 5).toInt = x_1166.toInt := by rw [ex_1166]; rfl
              refine lv_iconst (v := 1) hx hb dX7_take_89 (by decide) ?_
              refine lv_isub hx hb dX7_take_90 ?_
              refine lv_topi (fun x_1168 ex_1168 => ?_)
              have tx_1168 : x_1168.toInt = (x_1166.toInt - 1) := by rw [ex_1168]; exact sub_ti (a := x_1166.toInt) (b := 1) rfl (by decide) (by omega) (by omega)
              refine va_iast hx hb hK hP hD hS 1 1 rfl rfl (vin (a := 5) (by decide) (by decide) (by decide)) dX7_take_91 (fun H locs hP hD hS => ?_)
              obtain ⟨f_1169, ef_1169, hP, hD⟩ : ∃ f_1169 : Nat → Int32, f_1169 = upd M_cloth (5 : Int32).toNatClampNeg x_1168 ∧ va_P D vwCl [(A_self, .inr (7, o7 q v w)), (q 55, .inl (c 1, 6, .inl f_1169))] H ∧ va_D A [(A_self, .inr (7, o7 q v w)), (q 55, .inl (c 1, 6, .inl f_1169))] := ⟨_, rfl, hP, hD⟩
              have cl_1170 : (f_1169 0).toInt = (M_cloth 0).toInt := by rw [ef_1169]; rfl
              have cl_1171 : (f_1169 1).toInt = (M_cloth 1).toInt := by rw [ef_1169]; rfl
              have cl_1172 : (f_1169 2).toInt = (M_cloth 2).toInt := by rw [ef_1169]; rfl
              have cl_1173 : (f_1169 3).toInt = (M_cloth 3).toInt := by rw [ef_1169]; rfl
              have cl_1174 : (f_1169 4).toInt = (M_cloth 4).toInt := by rw [ef_1169]; rfl
              have cl_1175 : (f_1169 5).toInt = x_1168.toInt := by rw [ef_1169]; rfl
              refine lv_iinc (v := 4) (lv' := [(5, .int 4), (4, .int r_1146), (0, .ref A_self), (1, .int a1), (2, .int L2), (3, .int 4)]) hx hb dX7_take_92 hl (k := 0) rfl (by decide) (by decide) rfl (fun ls hl => ?_)
              refine lv_aload_n hx hb dX7_take_95 rfl (lv_at hl 2 rfl) ?_
              refine va_get (D := D) (ci := 7) (v := .ref (q 55)) (C := RX7) (T := TX7) (N := 56) hx hb hts (fun _ h => List.mem_cons_of_mem _ (List.mem_append_right _ h)) hown hK hP 0 rfl rfl 55 (by decide) (hts (.fieldLink RX7 118 "CrownTableModel" "cloth" "[I") (mem_i 2 rfl)) (fun _ h9 => h9) rfl dX7_take_96 ?_
              refine lv_iload hx hb dX7_take_99 (lv_at hl 0 rfl) ?_
              refine lv_dup2_11 hx hb dX7_take_101 rfl rfl ?_
              refine va_iald hx hb hK hP 1 1 rfl rfl (vin (a := 4) (by decide) (by decide) (by decide)) dX7_take_102 ?_
              refine lv_topi (fun x_1176 ex_1176 => ?_)
              have lf_1177 : (f_1169 4).toInt = x_1176.toInt := by rw [ex_1176]; rfl
              refine lv_iload hx hb dX7_take_103 (lv_at hl 0 rfl) ?_
              have hPc := hP.sub (ws' := []) [] rfl
              have hDc := hD.sub (ws' := []) [] (by decide) rfl
              have hFc := va_free (wc := []) hD hS hA [] rfl
              have kzz_1178 : (4 : Int32).toInt = 4 := by decide
              refine va_csi (va_runS (As := [.int 4]) (rest := [.int x_1176, .int 4, .ref (q 55)]) ⟨hx, hb, hml, hown, hts⟩ (k_X7_next l D c ts H.size 4 4 (by decide) (by omega)) (cwS 1 hts gX7_take_X7_next rfl rfl rfl ⟨rfl, hdX7_next⟩ ⟨(show 1 + 1 ≤ 2 by decide), (show 8 + (1 + 11) + 20 ≤ 43 by decide)⟩) ⟨Pre0.blind, Pre0.at hPc hDc hAm hSt hS hFc⟩ rfl rfl hl.1 rfl (lv_room (Nat.le_of_ble_eq_true rfl)) dX7_take_105 ⟨(show 0 + 0 ≤ 0 by decide), (show 0 + 0 ≤ 0 by decide)⟩) (fun r_1180 hw_1179 => ?_)
              rcases hw_1179 with ⟨hw_1179, rfl⟩ | ⟨hw_1179, rfl⟩ | ⟨hw_1179, rfl⟩ | ⟨hw_1179, rfl⟩
              · exfalso; omega
              · exfalso; omega
              · exfalso; omega
              · skip
                refine lv_iadd hx hb dX7_take_108 ?_
                refine lv_topi (fun x_1181 ex_1181 => ?_)
                have tx_1181 : x_1181.toInt = (x_1176.toInt + 10) := by rw [ex_1181]; exact add_ti (a := x_1176.toInt) (b := 10) rfl (by decide) (by omega) (by omega)
                refine va_iast hx hb hK hP hD hS 1 1 rfl rfl (vin (a := 4) (by decide) (by decide) (by decide)) dX7_take_109 (fun H locs hP hD hS => ?_)
                obtain ⟨f_1182, ef_1182, hP, hD⟩ : ∃ f_1182 : Nat → Int32, f_1182 = upd f_1169 (4 : Int32).toNatClampNeg x_1181 ∧ va_P D vwCl [(A_self, .inr (7, o7 q v w)), (q 55, .inl (c 1, 6, .inl f_1182))] H ∧ va_D A [(A_self, .inr (7, o7 q v w)), (q 55, .inl (c 1, 6, .inl f_1182))] := ⟨_, rfl, hP, hD⟩
                have cl_1183 : (f_1182 0).toInt = (f_1169 0).toInt := by rw [ef_1182]; rfl
                have cl_1184 : (f_1182 1).toInt = (f_1169 1).toInt := by rw [ef_1182]; rfl
                have cl_1185 : (f_1182 2).toInt = (f_1169 2).toInt := by rw [ef_1182]; rfl
                have cl_1186 : (f_1182 3).toInt = (f_1169 3).toInt := by rw [ef_1182]; rfl
                have cl_1187 : (f_1182 4).toInt = x_1181.toInt := by rw [ef_1182]; rfl
                have cl_1188 : (f_1182 5).toInt = (f_1169 5).toInt := by rw [ef_1182]; rfl
                obtain ⟨x_1189, ex_1189⟩ : ∃ y : Int32, y = L2 + 1 := ⟨_, rfl⟩
                refine lv_iinc (v := x_1189) (lv' := [(2, .int x_1189), (5, .int 4), (4, .int r_1146), (0, .ref A_self), (1, .int a1), (3, .int 4)]) hx hb dX7_take_110 hl (k := 4) rfl (by rw [ex_1189]; rfl) (by decide) rfl (fun ls hl => ?_)
                refine lv_goto (tgt := 75) hx hb dX7_take_113 (by decide) ?_
                refine lv_iload hx hb dX7_take_75 (lv_at hl 1 rfl) ?_
                refine lv_iload_n hx hb dX7_take_77 rfl (lv_at hl 5 rfl) ?_
                refine iicmp_leT (a := 4) (b := 4) (tgt := 116) hx hb (by decide) (by decide) dX7_take_78 (by decide) (by decide) ?_
                refine lv_goto (tgt := 43) hx hb dX7_take_116 (by decide) ?_
                refine lv_aload_n hx hb dX7_take_43 rfl (lv_at hl 3 rfl) ?_
                refine va_get (D := D) (ci := 7) (v := .ref (q 55)) (C := RX7) (T := TX7) (N := 56) hx hb hts (fun _ h => List.mem_cons_of_mem _ (List.mem_append_right _ h)) hown hK hP 0 rfl rfl 55 (by decide) (hts (.fieldLink RX7 118 "CrownTableModel" "cloth" "[I") (mem_i 2 rfl)) (fun _ h9 => h9) rfl dX7_take_44 ?_
                refine lv_iload_n hx hb dX7_take_47 rfl (lv_at hl 5 rfl) ?_
                refine va_iald hx hb hK hP 1 1 rfl rfl (vin (a := 4) (by decide) (by decide) (by decide)) dX7_take_48 ?_
                refine lv_topi (fun x_1190 ex_1190 => ?_)
                have lf_1191 : (f_1182 4).toInt = x_1190.toInt := by rw [ex_1190]; rfl
                refine lv_iload hx hb dX7_take_49 (lv_at hl 2 rfl) ?_
                refine iicmp_ge (a := x_1190.toInt) (b := r_1146.toInt) (tgt := 119) hx hb rfl rfl dX7_take_51 (by decide) (fun k_1192 => ?_) (fun k_1192 => ?_)
                · skip
                  refine lv_aload_n hx hb dX7_take_119 rfl (lv_at hl 3 rfl) ?_
                  refine va_get (D := D) (ci := 7) (v := .ref (q 55)) (C := RX7) (T := TX7) (N := 56) hx hb hts (fun _ h => List.mem_cons_of_mem _ (List.mem_append_right _ h)) hown hK hP 0 rfl rfl 55 (by decide) (hts (.fieldLink RX7 118 "CrownTableModel" "cloth" "[I") (mem_i 2 rfl)) (fun _ h9 => h9) rfl dX7_take_120 ?_
                  refine lv_iload_n hx hb dX7_take_123 rfl (lv_at hl 5 rfl) ?_
                  refine lv_dup2_11 hx hb dX7_take_124 rfl rfl ?_
                  refine va_iald hx hb hK hP 1 1 rfl rfl (vin (a := 4) (by decide) (by decide) (by decide)) dX7_take_125 ?_
                  refine lv_topi (fun x_1193 ex_1193 => ?_)
                  have lf_1194 : (f_1182 4).toInt = x_1193.toInt := by rw [ex_1193]; rfl
                  refine lv_iload hx hb dX7_take_126 (lv_at hl 2 rfl) ?_
                  refine lv_isub hx hb dX7_take_128 ?_
                  refine lv_topi (fun x_1195 ex_1195 => ?_)
                  have tx_1195 : x_1195.toInt = (x_1193.toInt - r_1146.toInt) := by rw [ex_1195]; exact sub_ti (a := x_1193.toInt) (b := r_1146.toInt) rfl rfl (by omega) (by omega)
                  refine va_iast hx hb hK hP hD hS 1 1 rfl rfl (vin (a := 4) (by decide) (by decide) (by decide)) dX7_take_129 (fun H locs hP hD hS => ?_)
                  obtain ⟨f_1196, ef_1196, hP, hD⟩ : ∃ f_1196 : Nat → Int32, f_1196 = upd f_1182 (4 : Int32).toNatClampNeg x_1195 ∧ va_P D vwCl [(A_self, .inr (7, o7 q v w)), (q 55, .inl (c 1, 6, .inl f_1196))] H ∧ va_D A [(A_self, .inr (7, o7 q v w)), (q 55, .inl (c 1, 6, .inl f_1196))] := ⟨_, rfl, hP, hD⟩
                  have cl_1197 : (f_1196 0).toInt = (f_1182 0).toInt := by rw [ef_1196]; rfl
                  have cl_1198 : (f_1196 1).toInt = (f_1182 1).toInt := by rw [ef_1196]; rfl
                  have cl_1199 : (f_1196 2).toInt = (f_1182 2).toInt := by rw [ef_1196]; rfl
                  have cl_1200 : (f_1196 3).toInt = (f_1182 3).toInt := by rw [ef_1196]; rfl
                  have cl_1201 : (f_1196 4).toInt = x_1195.toInt := by rw [ef_1196]; rfl
                  have cl_1202 : (f_1196 5).toInt = (f_1182 5).toInt := by rw [ef_1196]; rfl
                  refine lv_iinc (v := 5) (lv' := [(3, .int 5), (2, .int x_1189), (5, .int 4), (4, .int r_1146), (0, .ref A_self), (1, .int a1)]) hx hb dX7_take_130 hl (k := 5) rfl (by decide) (by decide) rfl (fun ls hl => ?_)
                  refine lv_goto (tgt := 30) hx hb dX7_take_133 (by decide) ?_
                  have kzz_1203 : (5 : Int32).toInt = 5 := by decide
                  have hl := lv_sub hl [4, 5, 1, 0] rfl
                  exact (ih30 ((6 - (5 : Int32).toInt).toNat) (by omega) x_1189 5 f_1196 (by omega) (by omega) (by omega) (by omega) (by omega) (by omega) (by omega) (by omega) (by omega) (by omega) (by omega) (by omega) (by omega) (by omega) rfl _ _ _ hP hD hS hl)
                · skip
                  exfalso; omega
            · skip
              exfalso; omega
        · skip
          obtain rfl : L3 = 5 := Int32.toInt_inj.mp (by rw [hsp]; rfl)
          have hl : lv_has ls 6 [(0, .ref A_self), (1, .int a1), (2, .int L2), (3, .int 5)] := hl
          have kzz_1204 : (5 : Int32).toInt = 5 := by decide
          refine lv_iload_n hx hb dX7_take_30 rfl (lv_at hl 3 rfl) ?_
          refine lv_bipush (v := 6) hx hb dX7_take_31 (by decide) ?_
          refine iicmp_geF (a := 5) (b := 6) (tgt := 136) hx hb (by decide) (by decide) dX7_take_33 (by decide) (by decide) ?_
          refine lv_iload_n hx hb dX7_take_36 rfl (lv_at hl 1 rfl) ?_
          refine lv_iload_n hx hb dX7_take_37 rfl (lv_at hl 3 rfl) ?_
          have hPc := hP.sub (ws' := []) [] rfl
          have hDc := hD.sub (ws' := []) [] (by decide) rfl
          have hFc := va_free (wc := []) hD hS hA [] rfl
          have kzz_1205 : (5 : Int32).toInt = 5 := by decide
          refine va_csi (va_runS (As := [.int a1, .int 5]) (rest := []) ⟨hx, hb, hml, hown, hts⟩ (k_X7_notch_P l D c ts H.size a1 i_a1 hi_a1 5 5 (by decide) (by omega) (by omega)) (cwS 2 hts gX7_take_X7_notch rfl rfl rfl ⟨rfl, hdX7_notch⟩ ⟨(show 1 + 1 ≤ 2 by decide), (show 8 + (2 + 11) + 20 ≤ 43 by decide)⟩) ⟨Pre0.blind, Pre0.at hPc hDc hAm hSt hS hFc⟩ rfl rfl hl.1 rfl (lv_room (Nat.le_of_ble_eq_true rfl)) dX7_take_38 ⟨(show 0 + 0 ≤ 0 by decide), (show 0 + 0 ≤ 0 by decide)⟩) (fun r_1207 hw_1206 => ?_)
          have nf_1208 := hw_1206.2.2.2.2.2.2 rfl
          have nf_1209 := hw_1206.1
          clear hw_1206
          have rg_r_1207 := i32r r_1207
          refine lv_istore (lv' := [(4, .int r_1207), (0, .ref A_self), (1, .int a1), (2, .int L2), (3, .int 5)]) hx hb dX7_take_41 hl (by decide) rfl (fun ls hl => ?_)
          refine lv_aload_n hx hb dX7_take_43 rfl (lv_at hl 1 rfl) ?_
          refine va_get (D := D) (ci := 7) (v := .ref (q 55)) (C := RX7) (T := TX7) (N := 56) hx hb hts (fun _ h => List.mem_cons_of_mem _ (List.mem_append_right _ h)) hown hK hP 0 rfl rfl 55 (by decide) (hts (.fieldLink RX7 118 "CrownTableModel" "cloth" "[I") (mem_i 2 rfl)) (fun _ h9 => h9) rfl dX7_take_44 ?_
          refine lv_iload_n hx hb dX7_take_47 rfl (lv_at hl 4 rfl) ?_
          refine va_iald hx hb hK hP 1 1 rfl rfl (vin (a := 5) (by decide) (by decide) (by decide)) dX7_take_48 ?_
          refine lv_topi (fun x_1210 ex_1210 => ?_)
          have lf_1211 : (M_cloth 5).toInt = x_1210.toInt := by rw [ex_1210]; rfl
          refine lv_iload hx hb dX7_take_49 (lv_at hl 0 rfl) ?_
          refine iicmp_ge (a := x_1210.toInt) (b := r_1207.toInt) (tgt := 119) hx hb rfl rfl dX7_take_51 (by decide) (fun k_1212 => ?_) (fun k_1212 => ?_)
          · skip
            refine lv_aload_n hx hb dX7_take_119 rfl (lv_at hl 1 rfl) ?_
            refine va_get (D := D) (ci := 7) (v := .ref (q 55)) (C := RX7) (T := TX7) (N := 56) hx hb hts (fun _ h => List.mem_cons_of_mem _ (List.mem_append_right _ h)) hown hK hP 0 rfl rfl 55 (by decide) (hts (.fieldLink RX7 118 "CrownTableModel" "cloth" "[I") (mem_i 2 rfl)) (fun _ h9 => h9) rfl dX7_take_120 ?_
            refine lv_iload_n hx hb dX7_take_123 rfl (lv_at hl 4 rfl) ?_
            refine lv_dup2_11 hx hb dX7_take_124 rfl rfl ?_
            refine va_iald hx hb hK hP 1 1 rfl rfl (vin (a := 5) (by decide) (by decide) (by decide)) dX7_take_125 ?_
            refine lv_topi (fun x_1213 ex_1213 => ?_)
            have lf_1214 : (M_cloth 5).toInt = x_1213.toInt := by rw [ex_1213]; rfl
            refine lv_iload hx hb dX7_take_126 (lv_at hl 0 rfl) ?_
            refine lv_isub hx hb dX7_take_128 ?_
            refine lv_topi (fun x_1215 ex_1215 => ?_)
            have tx_1215 : x_1215.toInt = (x_1213.toInt - r_1207.toInt) := by rw [ex_1215]; exact sub_ti (a := x_1213.toInt) (b := r_1207.toInt) rfl rfl (by omega) (by omega)
            refine va_iast hx hb hK hP hD hS 1 1 rfl rfl (vin (a := 5) (by decide) (by decide) (by decide)) dX7_take_129 (fun H locs hP hD hS => ?_)
            obtain ⟨f_1216, ef_1216, hP, hD⟩ : ∃ f_1216 : Nat → Int32, f_1216 = upd M_cloth (5 : Int32).toNatClampNeg x_1215 ∧ va_P D vwCl [(A_self, .inr (7, o7 q v w)), (q 55, .inl (c 1, 6, .inl f_1216))] H ∧ va_D A [(A_self, .inr (7, o7 q v w)), (q 55, .inl (c 1, 6, .inl f_1216))] := ⟨_, rfl, hP, hD⟩
            have cl_1217 : (f_1216 0).toInt = (M_cloth 0).toInt := by rw [ef_1216]; rfl
            have cl_1218 : (f_1216 1).toInt = (M_cloth 1).toInt := by rw [ef_1216]; rfl
            have cl_1219 : (f_1216 2).toInt = (M_cloth 2).toInt := by rw [ef_1216]; rfl
            have cl_1220 : (f_1216 3).toInt = (M_cloth 3).toInt := by rw [ef_1216]; rfl
            have cl_1221 : (f_1216 4).toInt = (M_cloth 4).toInt := by rw [ef_1216]; rfl
            have cl_1222 : (f_1216 5).toInt = x_1215.toInt := by rw [ef_1216]; rfl
            refine lv_iinc (v := 6) (lv' := [(3, .int 6), (4, .int r_1207), (0, .ref A_self), (1, .int a1), (2, .int L2)]) hx hb dX7_take_130 hl (k := 4) rfl (by decide) (by decide) rfl (fun ls hl => ?_)
            refine lv_goto (tgt := 30) hx hb dX7_take_133 (by decide) ?_
            have kzz_1223 : (6 : Int32).toInt = 6 := by decide
            have hl := lv_sub hl [2, 3, 4, 0] rfl
            exact (ih30 ((6 - (6 : Int32).toInt).toNat) (by omega) L2 6 f_1216 (by omega) (by omega) (by omega) (by omega) (by omega) (by omega) (by omega) (by omega) (by omega) (by omega) (by omega) (by omega) (by omega) (by omega) rfl _ _ _ hP hD hS hl)
          · skip
            exfalso; omega
        · skip
          obtain rfl : L3 = 6 := Int32.toInt_inj.mp (by rw [hsp]; rfl)
          have hl : lv_has ls 6 [(0, .ref A_self), (1, .int a1), (2, .int L2), (3, .int 6)] := hl
          have kzz_1224 : (6 : Int32).toInt = 6 := by decide
          refine lv_iload_n hx hb dX7_take_30 rfl (lv_at hl 3 rfl) ?_
          refine lv_bipush (v := 6) hx hb dX7_take_31 (by decide) ?_
          refine iicmp_geT (a := 6) (b := 6) (tgt := 136) hx hb (by decide) (by decide) dX7_take_33 (by decide) (by decide) ?_
          refine lv_iload_n hx hb dX7_take_136 rfl (lv_at hl 2 rfl) ?_
          have hP9 := hP.sub (ws' := [(A_self, .inr (7, o7 q v w)), (q 55, .inl (c 1, 6, .inl M_cloth))]) [0, 1] rfl
          have hD9 := hD.sub (ws' := [(A_self, .inr (7, o7 q v w)), (q 55, .inl (c 1, 6, .inl M_cloth))]) [0, 1] (by decide) rfl
          refine W.widen (k := 0) (n := 0) (by omega) (by omega) ?_
          exact W.iret (v := L2) hx hb hr (fun t ht hW => ⟨⟨_, (M_cloth, ()), rfl, ⟨(show 0 ≤ (M_cloth 0).toInt ∧ (M_cloth 0).toInt ≤ 11 by omega), (show 0 ≤ (M_cloth 1).toInt ∧ (M_cloth 1).toInt ≤ 19 by omega), (show 0 ≤ (M_cloth 2).toInt ∧ (M_cloth 2).toInt ≤ 19 by omega), (show 0 ≤ (M_cloth 3).toInt ∧ (M_cloth 3).toInt ≤ 4 by omega), (show 0 ≤ (M_cloth 4).toInt ∧ (M_cloth 4).toInt ≤ 9 by omega), (show 0 ≤ (M_cloth 5).toInt ∧ (M_cloth 5).toInt ≤ cb by omega)⟩, ⟨by rw [ht]; exact hP9, hD9⟩⟩, hS.F ht⟩) hS.2.2 dX7_take_137
      have kzz_1225 : (0 : Int32).toInt = 0 := by decide
      have hl := lv_sub hl [2, 3, 1, 0] rfl
      exact (lp_30 _ 0 0 f_cloth (by omega) (by omega) (by omega) (by omega) (by omega) (by omega) (by omega) (by omega) (by omega) (by omega) (by omega) (by omega) (by omega) (by omega) rfl _ _ _ hP hD hS hl)
    · skip
      refine lv_bipush (v := (-2)) hx hb dX7_take_23 (by decide) ?_
      have kzz_1226 : ((-2) : Int32).toInt = (-2) := by decide
      have hP9 := hP.sub (ws' := [(A_self, .inr (7, o7 q v w)), (q 55, .inl (c 1, 6, .inl f_cloth))]) [0, 1] rfl
      have hD9 := hD.sub (ws' := [(A_self, .inr (7, o7 q v w)), (q 55, .inl (c 1, 6, .inl f_cloth))]) [0, 1] (by decide) rfl
      refine W.widen (k := 0) (n := 0) (by omega) (by omega) ?_
      exact W.iret (v := (-2)) hx hb hr (fun t ht hW => ⟨⟨_, (f_cloth, ()), rfl, ⟨(show 0 ≤ (f_cloth 0).toInt ∧ (f_cloth 0).toInt ≤ 11 by omega), (show 0 ≤ (f_cloth 1).toInt ∧ (f_cloth 1).toInt ≤ 19 by omega), (show 0 ≤ (f_cloth 2).toInt ∧ (f_cloth 2).toInt ≤ 19 by omega), (show 0 ≤ (f_cloth 3).toInt ∧ (f_cloth 3).toInt ≤ 4 by omega), (show 0 ≤ (f_cloth 4).toInt ∧ (f_cloth 4).toInt ≤ 9 by omega), (show 0 ≤ (f_cloth 5).toInt ∧ (f_cloth 5).toInt ≤ cb by omega)⟩, ⟨by rw [ht]; exact hP9, hD9⟩⟩, hS.F ht⟩) hS.2.2 dX7_take_25
  · skip
    refine iif_neF (a := 0) (tgt := 13) hx hb (by decide) dX7_take_8 (by decide) (by decide) ?_
    refine lv_iconst (v := (-1)) hx hb dX7_take_11 (by decide) ?_
    have kzz_1227 : ((-1) : Int32).toInt = (-1) := by decide
    have hP9 := hP.sub (ws' := [(A_self, .inr (7, o7 q v w)), (q 55, .inl (c 1, 6, .inl f_cloth))]) [0, 1] rfl
    have hD9 := hD.sub (ws' := [(A_self, .inr (7, o7 q v w)), (q 55, .inl (c 1, 6, .inl f_cloth))]) [0, 1] (by decide) rfl
    refine W.widen (k := 0) (n := 0) (by omega) (by omega) ?_
    exact W.iret (v := (-1)) hx hb hr (fun t ht hW => ⟨⟨_, (f_cloth, ()), rfl, ⟨(show 0 ≤ (f_cloth 0).toInt ∧ (f_cloth 0).toInt ≤ 11 by omega), (show 0 ≤ (f_cloth 1).toInt ∧ (f_cloth 1).toInt ≤ 19 by omega), (show 0 ≤ (f_cloth 2).toInt ∧ (f_cloth 2).toInt ≤ 19 by omega), (show 0 ≤ (f_cloth 3).toInt ∧ (f_cloth 3).toInt ≤ 4 by omega), (show 0 ≤ (f_cloth 4).toInt ∧ (f_cloth 4).toInt ≤ 9 by omega), (show 0 ≤ (f_cloth 5).toInt ∧ (f_cloth 5).toInt ≤ cb by omega)⟩, ⟨by rw [ht]; exact hP9, hD9⟩⟩, hS.F ht⟩) hS.2.2 dX7_take_12

set_option maxHeartbeats 4000000 in
set_option maxRecDepth 100000 in
theorem k_X7_sum (l : Launch) (D : va_G) (c : Nat → ClassId) (ts : Nat × Nat) (sz : Nat) (A_self : Nat) (q : Nat → Nat) (v : Nat → Int32) (w : Nat → Int64) (f_cloth : Nat → Int32) (f_credit : Nat → Int64) (f_left : Nat → Int32) (f_pardoned : Nat → Int32) (f_whole : Nat → Int32) (a1 : Int32) (i_a1 : Int) (hi_a1 : a1.toInt = i_a1) (hv_2 : 0 ≤ (v 2).toInt ∧ (v 2).toInt ≤ 800) (hv_8 : 0 ≤ (v 8).toInt ∧ (v 8).toInt ≤ 10) (hv_21 : 0 ≤ (v 21).toInt ∧ (v 21).toInt ≤ 40) (hv_24 : 0 ≤ (v 24).toInt ∧ (v 24).toInt ≤ 1000) (hv_27 : 0 ≤ (v 27).toInt ∧ (v 27).toInt ≤ 400) (hv_42 : 0 ≤ (v 42).toInt ∧ (v 42).toInt ≤ 4000) (hv_52 : 0 ≤ (v 52).toInt ∧ (v 52).toInt ≤ 2000) (hq0 : 0 ≤ (f_cloth 0).toInt ∧ (f_cloth 0).toInt ≤ 11) (hq1 : 0 ≤ (f_cloth 1).toInt ∧ (f_cloth 1).toInt ≤ 19) (hq2 : 0 ≤ (f_cloth 2).toInt ∧ (f_cloth 2).toInt ≤ 19) (hq3 : 0 ≤ (f_cloth 3).toInt ∧ (f_cloth 3).toInt ≤ 4) (hq4 : 0 ≤ (f_cloth 4).toInt ∧ (f_cloth 4).toInt ≤ 9) (hq5 : 0 ≤ (f_cloth 5).toInt ∧ (f_cloth 5).toInt ≤ 1000000) : Met l yX7_sum wsX7_sum ({ frames := 2, cells := 0, slots := 0, locals := 43 }) (va_Pc [.ref A_self, .int a1] (Pre0 D c ts [(A_self, .inr (7, o7 q v w)), (q 55, .inl (c 1, 6, .inl f_cloth)), (q 35, .inl (c 2, 16, .inr (.inl f_credit))), (q 31, .inl (c 1, 400, .inl f_left)), (q 34, .inl (c 1, 400, .inl f_pardoned)), (q 30, .inl (c 1, 400, .inl f_whole))] sz)) (vp_Sl (fun r : Int64 => True)) 0 0 (fun _ => False) := by
  refine Met.ofW (cc := cX7_sum) (maxL := 5) (ret := (some .long)) (by decide) rfl ?_
  intro p e s m args below meth cd s₁ B hml hv
  obtain ⟨rfl, hsz, hP, hD0, hAm, hSt⟩ := hv
  have hx := B.exec
  have hb := B.bytes
  have hr := B.returns
  have hts := atoms_spec (ws := wsX7_sum) B.pre
  have hown : s.vm.findClass RX7 = some m.cls := findClass_of_methodNamed B.named
  have hlocks := B.notSynchronized
  have hK := hAm.1
  subst hsz
  have hD := hD0.self (sz := s.heap.size)
  generalize hAe : va_A [(A_self, .inr (7, o7 q v w)), (q 55, .inl (c 1, 6, .inl f_cloth)), (q 35, .inl (c 2, 16, .inr (.inl f_credit))), (q 31, .inl (c 1, 400, .inl f_left)), (q 34, .inl (c 1, 400, .inl f_pardoned)), (q 30, .inl (c 1, 400, .inl f_whole))] s.heap.size = A at hD hSt
  have hA : ∀ q : Nat, s.heap.size ≤ q → A q := fun q h => by rw [← hAe]; exact Or.inr h
  have hS : va_S A s.heap s.heap [] := va_S.rf
  clear hD0 hAe
  have hl := lv_entry ([.ref A_self, .int a1]) (n := 5) (Nat.le_of_ble_eq_true rfl)
  rw [lg_entry_eq]
  generalize (lg_sl ([.ref A_self, .int a1]) ++ List.replicate (5 - (lg_sl ([.ref A_self, .int a1])).length) Slot.unset).toArray = ls at hl ⊢
  have hl : lv_has ls 5 [(0, .ref A_self), (1, .int a1)] := hl
  have rg_a1 := i32r a1
  refine lv_lconst (v := 0) hx hb dX7_sum_0 (by decide) ?_
  refine lv_lstore_n (lv' := [(2, .long 0), (0, .ref A_self), (1, .int a1)]) hx hb dX7_sum_1 rfl hl (by decide) rfl (fun ls hl => ?_)
  refine lv_iload_n hx hb dX7_sum_2 rfl (lv_at hl 2 rfl) ?_
  by_cases k_1 : i_a1 = 0
  · have ek_1 : a1.toInt = 0 := hi_a1.trans k_1
    refine lv_tableIn (tgt := 44) hx hb dX7_sum_3 (by rw [ek_1]; decide) (by rw [ek_1]; decide) (by rw [ek_1]; rfl) (by decide) ?_
    refine lv_aload_n hx hb dX7_sum_44 rfl (lv_at hl 1 rfl) ?_
    have hPc := hP.sub (ws' := [(A_self, .inr (7, o7 q v w)), (q 55, .inl (c 1, 6, .inl f_cloth))]) [0, 1] rfl
    have hDc := hD.sub (ws' := [(A_self, .inr (7, o7 q v w)), (q 55, .inl (c 1, 6, .inl f_cloth))]) [0, 1] (by decide) rfl
    have hFc := va_free (wc := [(A_self, .inr (7, o7 q v w)), (q 55, .inl (c 1, 6, .inl f_cloth))]) hD hS hA [0, 1] rfl
    refine va_csl (va_runV (As := []) (rest := []) ⟨hx, hb, hml, hown, hts⟩ (k_X7_lies l D c ts s.heap.size A_self q v w f_cloth (show 0 ≤ (v 2).toInt ∧ (v 2).toInt ≤ 800 by omega) (show 0 ≤ (v 8).toInt ∧ (v 8).toInt ≤ 10 by omega) (show 0 ≤ (v 21).toInt ∧ (v 21).toInt ≤ 40 by omega) (show 0 ≤ (v 24).toInt ∧ (v 24).toInt ≤ 1000 by omega) (show 0 ≤ (v 27).toInt ∧ (v 27).toInt ≤ 400 by omega) (show 0 ≤ (v 42).toInt ∧ (v 42).toInt ≤ 4000 by omega) (show 0 ≤ (v 52).toInt ∧ (v 52).toInt ≤ 2000 by omega) (show 0 ≤ (f_cloth 0).toInt ∧ (f_cloth 0).toInt ≤ 11 by omega) (show 0 ≤ (f_cloth 1).toInt ∧ (f_cloth 1).toInt ≤ 19 by omega) (show 0 ≤ (f_cloth 2).toInt ∧ (f_cloth 2).toInt ≤ 19 by omega) (show 0 ≤ (f_cloth 3).toInt ∧ (f_cloth 3).toInt ≤ 4 by omega) (show 0 ≤ (f_cloth 4).toInt ∧ (f_cloth 4).toInt ≤ 9 by omega) (show 0 ≤ (f_cloth 5).toInt ∧ (f_cloth 5).toInt ≤ 1000000 by omega)) (cwV 0 hts gX7_sum_X7_lies rfl rfl rfl ⟨rfl, hdX7_lies⟩ ⟨(show 1 + 1 ≤ 2 by decide), (show 8 + (4 + 11) + 20 ≤ 43 by decide)⟩) ⟨Pre0.blind, va_recv hK hPc (ci := 7) (q0 := 0) rfl rfl, Pre0.at hPc hDc hAm hSt hS hFc⟩ rfl rfl hl.1 rfl (lv_room (Nat.le_of_ble_eq_true rfl)) dX7_sum_45 ⟨(show 0 + 0 ≤ 0 by decide), (show 0 + 0 ≤ 0 by decide)⟩) (fun r_3 hw_2 => ?_)
    have hw_2 : (r_3.toInt = (f_cloth 0).toInt + 12 * (f_cloth 1).toInt + 240 * (f_cloth 2).toInt + 4800 * (f_cloth 3).toInt + 24000 * (f_cloth 4).toInt + 240000 * (f_cloth 5).toInt) := hw_2
    exact W.lret (v := r_3) hx hb hr (fun t ht hW => ⟨_, rfl, trivial, ht⟩) (fun _ h => by cases h) dX7_sum_48
  by_cases k_4 : i_a1 = 1
  · have ek_4 : a1.toInt = 1 := hi_a1.trans k_4
    refine lv_tableIn (tgt := 49) hx hb dX7_sum_3 (by rw [ek_4]; decide) (by rw [ek_4]; decide) (by rw [ek_4]; rfl) (by decide) ?_
    refine lv_aload_n hx hb dX7_sum_49 rfl (lv_at hl 1 rfl) ?_
    refine va_get (D := D) (ci := 7) (v := .long (w 38)) (C := RX7) (T := TX7) (N := 56) hx hb hts (fun _ h => List.mem_cons_of_mem _ (List.mem_append_right _ h)) hown hK hP 0 rfl rfl 38 (by decide) (hts (.fieldLink RX7 335 "CrownTableModel" "chest" "J") (mem_i 1 rfl)) (fun _ h9 => h9) rfl dX7_sum_50 ?_
    exact W.lret (v := (w 38)) hx hb hr (fun t ht hW => ⟨_, rfl, trivial, ht⟩) (fun _ h => by cases h) dX7_sum_53
  by_cases k_5 : i_a1 = 2
  · have ek_5 : a1.toInt = 2 := hi_a1.trans k_5
    refine lv_tableIn (tgt := 54) hx hb dX7_sum_3 (by rw [ek_5]; decide) (by rw [ek_5]; decide) (by rw [ek_5]; rfl) (by decide) ?_
    refine lv_iconst (v := 0) hx hb dX7_sum_54 (by decide) ?_
    refine lv_istore (lv' := [(4, .int 0), (2, .long 0), (0, .ref A_self), (1, .int a1)]) hx hb dX7_sum_55 hl (by decide) rfl (fun ls hl => ?_)
    have lp_57 : ∀ (N : Nat) (L2 : Int64) (L4 : Int32) (hf57_0 : 0 ≤ L4.toInt) (hf57_1 : L4.toInt ≤ 16) (hN57 : (16 - L4.toInt).toNat = N) (ls : Array Slot), lv_has ls 5 [(0, .ref A_self), (1, .int a1), (2, .long L2), (4, .int L4)] → W p l e (headSpec wsX7_sum ({ frames := 2, cells := 0, slots := 0, locals := 43 })).room s m (([.ref A_self, .int a1] : List Value).toArray) below meth cd s.heap [] 0 0 (MQ below (vp_Sl (fun r : Int64 => True)) ([.ref A_self, .int a1] : List Value).toArray s 0 0 (fun _ => False)) (F0 m 57 ls []) := by
      refine st_ind (fun N ih57 => ?_)
      intro L2 L4 hf57_0 hf57_1 hN57 ls hl
      refine lv_iload hx hb dX7_sum_57 (lv_at hl 3 rfl) ?_
      refine lv_bipush (v := 16) hx hb dX7_sum_59 (by decide) ?_
      refine iicmp_ge (a := L4.toInt) (b := 16) (tgt := 80) hx hb rfl (by decide) dX7_sum_61 (by decide) (fun k_6 => ?_) (fun k_6 => ?_)
      · skip
        refine lv_lload_n hx hb dX7_sum_80 rfl (lv_at hl 2 rfl) ?_
        exact W.lret (v := L2) hx hb hr (fun t ht hW => ⟨_, rfl, trivial, ht⟩) (fun _ h => by cases h) dX7_sum_81
      · skip
        refine lv_lload_n hx hb dX7_sum_64 rfl (lv_at hl 2 rfl) ?_
        refine lv_aload_n hx hb dX7_sum_65 rfl (lv_at hl 0 rfl) ?_
        refine va_get (D := D) (ci := 7) (v := .ref (q 35)) (C := RX7) (T := TX7) (N := 56) hx hb hts (fun _ h => List.mem_cons_of_mem _ (List.mem_append_right _ h)) hown hK hP 0 rfl rfl 35 (by decide) (hts (.fieldLink RX7 71 "CrownTableModel" "credit" "[J") (mem_i 2 rfl)) (fun _ h9 => h9) rfl dX7_sum_66 ?_
        refine lv_iload hx hb dX7_sum_69 (lv_at hl 3 rfl) ?_
        refine va_lald hx hb hK hP 2 2 rfl rfl (vin (a := L4.toInt) rfl (by omega) (by omega)) dX7_sum_71 ?_
        refine lv_topl (fun x_7 ex_7 => ?_)
        refine lv_ladd hx hb dX7_sum_72 ?_
        refine lv_topl (fun x_8 ex_8 => ?_)
        refine lv_lstore_n (lv' := [(2, .long x_8), (0, .ref A_self), (1, .int a1), (4, .int L4)]) hx hb dX7_sum_73 rfl hl (by decide) rfl (fun ls hl => ?_)
        obtain ⟨x_9, ex_9⟩ : ∃ y : Int32, y = L4 + 1 := ⟨_, rfl⟩
        have tx_9 : x_9.toInt = L4.toInt + 1 := by rw [ex_9]; exact add_ti (a := L4.toInt) (b := 1) rfl (by decide) (by omega) (by omega)
        refine lv_iinc (v := x_9) (lv' := [(4, .int x_9), (2, .long x_8), (0, .ref A_self), (1, .int a1)]) hx hb dX7_sum_74 hl (k := 3) rfl (by rw [ex_9]; rfl) (by decide) rfl (fun ls hl => ?_)
        refine lv_goto (tgt := 57) hx hb dX7_sum_77 (by decide) ?_
        have hl := lv_sub hl [2, 3, 1, 0] rfl
        exact (ih57 ((16 - x_9.toInt).toNat) (by omega) x_8 x_9 (by omega) (by omega) rfl _ hl)
    have kzz_10 : (0 : Int32).toInt = 0 := by decide
    have hl := lv_sub hl [2, 3, 1, 0] rfl
    exact (lp_57 _ 0 0 (by omega) (by omega) rfl _ hl)
  by_cases k_11 : i_a1 = 3
  · have ek_11 : a1.toInt = 3 := hi_a1.trans k_11
    refine lv_tableIn (tgt := 82) hx hb dX7_sum_3 (by rw [ek_11]; decide) (by rw [ek_11]; decide) (by rw [ek_11]; rfl) (by decide) ?_
    refine lv_iconst (v := 0) hx hb dX7_sum_82 (by decide) ?_
    refine lv_istore (lv' := [(4, .int 0), (2, .long 0), (0, .ref A_self), (1, .int a1)]) hx hb dX7_sum_83 hl (by decide) rfl (fun ls hl => ?_)
    have lp_85 : ∀ (N : Nat) (L2 : Int64) (L4 : Int32) (hf85_0 : 0 ≤ L4.toInt) (hf85_1 : L4.toInt ≤ 400) (hf85_2 : L4.toInt ≤ (v 27).toInt) (hN85 : (400 - L4.toInt).toNat = N) (ls : Array Slot), lv_has ls 5 [(0, .ref A_self), (1, .int a1), (2, .long L2), (4, .int L4)] → W p l e (headSpec wsX7_sum ({ frames := 2, cells := 0, slots := 0, locals := 43 })).room s m (([.ref A_self, .int a1] : List Value).toArray) below meth cd s.heap [] 0 0 (MQ below (vp_Sl (fun r : Int64 => True)) ([.ref A_self, .int a1] : List Value).toArray s 0 0 (fun _ => False)) (F0 m 85 ls []) := by
      refine st_ind (fun N ih85 => ?_)
      intro L2 L4 hf85_0 hf85_1 hf85_2 hN85 ls hl
      refine lv_iload hx hb dX7_sum_85 (lv_at hl 3 rfl) ?_
      refine lv_aload_n hx hb dX7_sum_87 rfl (lv_at hl 0 rfl) ?_
      refine va_get (D := D) (ci := 7) (v := .int (v 27)) (C := RX7) (T := TX7) (N := 56) hx hb hts (fun _ h => List.mem_cons_of_mem _ (List.mem_append_right _ h)) hown hK hP 0 rfl rfl 27 (by decide) (hts (.fieldLink RX7 277 "CrownTableModel" "debts" "I") (mem_i 3 rfl)) (fun _ h9 => h9) rfl dX7_sum_88 ?_
      refine iicmp_ge (a := L4.toInt) (b := (v 27).toInt) (tgt := 111) hx hb rfl rfl dX7_sum_91 (by decide) (fun k_12 => ?_) (fun k_12 => ?_)
      · skip
        refine lv_lload_n hx hb dX7_sum_111 rfl (lv_at hl 2 rfl) ?_
        exact W.lret (v := L2) hx hb hr (fun t ht hW => ⟨_, rfl, trivial, ht⟩) (fun _ h => by cases h) dX7_sum_112
      · skip
        refine lv_lload_n hx hb dX7_sum_94 rfl (lv_at hl 2 rfl) ?_
        refine lv_aload_n hx hb dX7_sum_95 rfl (lv_at hl 0 rfl) ?_
        refine va_get (D := D) (ci := 7) (v := .ref (q 31)) (C := RX7) (T := TX7) (N := 56) hx hb hts (fun _ h => List.mem_cons_of_mem _ (List.mem_append_right _ h)) hown hK hP 0 rfl rfl 31 (by decide) (hts (.fieldLink RX7 59 "CrownTableModel" "left" "[I") (mem_i 4 rfl)) (fun _ h9 => h9) rfl dX7_sum_96 ?_
        refine lv_iload hx hb dX7_sum_99 (lv_at hl 3 rfl) ?_
        refine va_iald hx hb hK hP 3 1 rfl rfl (vin (a := L4.toInt) rfl (by omega) (by omega)) dX7_sum_101 ?_
        refine lv_topi (fun x_13 ex_13 => ?_)
        refine lv_i2l hx hb dX7_sum_102 rfl ?_
        refine lv_ladd hx hb dX7_sum_103 ?_
        refine lv_topl (fun x_14 ex_14 => ?_)
        refine lv_lstore_n (lv' := [(2, .long x_14), (0, .ref A_self), (1, .int a1), (4, .int L4)]) hx hb dX7_sum_104 rfl hl (by decide) rfl (fun ls hl => ?_)
        obtain ⟨x_15, ex_15⟩ : ∃ y : Int32, y = L4 + 1 := ⟨_, rfl⟩
        have tx_15 : x_15.toInt = L4.toInt + 1 := by rw [ex_15]; exact add_ti (a := L4.toInt) (b := 1) rfl (by decide) (by omega) (by omega)
        refine lv_iinc (v := x_15) (lv' := [(4, .int x_15), (2, .long x_14), (0, .ref A_self), (1, .int a1)]) hx hb dX7_sum_105 hl (k := 3) rfl (by rw [ex_15]; rfl) (by decide) rfl (fun ls hl => ?_)
        refine lv_goto (tgt := 85) hx hb dX7_sum_108 (by decide) ?_
        have hl := lv_sub hl [2, 3, 1, 0] rfl
        exact (ih85 ((400 - x_15.toInt).toNat) (by omega) x_14 x_15 (by omega) (by omega) (by omega) rfl _ hl)
    have kzz_16 : (0 : Int32).toInt = 0 := by decide
    have hl := lv_sub hl [2, 3, 1, 0] rfl
    exact (lp_85 _ 0 0 (by omega) (by omega) (by omega) rfl _ hl)
  by_cases k_17 : i_a1 = 4
  · have ek_17 : a1.toInt = 4 := hi_a1.trans k_17
    refine lv_tableIn (tgt := 113) hx hb dX7_sum_3 (by rw [ek_17]; decide) (by rw [ek_17]; decide) (by rw [ek_17]; rfl) (by decide) ?_
    refine lv_iconst (v := 0) hx hb dX7_sum_113 (by decide) ?_
    refine lv_istore (lv' := [(4, .int 0), (2, .long 0), (0, .ref A_self), (1, .int a1)]) hx hb dX7_sum_114 hl (by decide) rfl (fun ls hl => ?_)
    have lp_116 : ∀ (N : Nat) (L2 : Int64) (L4 : Int32) (hf116_0 : 0 ≤ L4.toInt) (hf116_1 : L4.toInt ≤ 400) (hf116_2 : L4.toInt ≤ (v 27).toInt) (hN116 : (400 - L4.toInt).toNat = N) (ls : Array Slot), lv_has ls 5 [(0, .ref A_self), (1, .int a1), (2, .long L2), (4, .int L4)] → W p l e (headSpec wsX7_sum ({ frames := 2, cells := 0, slots := 0, locals := 43 })).room s m (([.ref A_self, .int a1] : List Value).toArray) below meth cd s.heap [] 0 0 (MQ below (vp_Sl (fun r : Int64 => True)) ([.ref A_self, .int a1] : List Value).toArray s 0 0 (fun _ => False)) (F0 m 116 ls []) := by
      refine st_ind (fun N ih116 => ?_)
      intro L2 L4 hf116_0 hf116_1 hf116_2 hN116 ls hl
      refine lv_iload hx hb dX7_sum_116 (lv_at hl 3 rfl) ?_
      refine lv_aload_n hx hb dX7_sum_118 rfl (lv_at hl 0 rfl) ?_
      refine va_get (D := D) (ci := 7) (v := .int (v 27)) (C := RX7) (T := TX7) (N := 56) hx hb hts (fun _ h => List.mem_cons_of_mem _ (List.mem_append_right _ h)) hown hK hP 0 rfl rfl 27 (by decide) (hts (.fieldLink RX7 277 "CrownTableModel" "debts" "I") (mem_i 3 rfl)) (fun _ h9 => h9) rfl dX7_sum_119 ?_
      refine iicmp_ge (a := L4.toInt) (b := (v 27).toInt) (tgt := 142) hx hb rfl rfl dX7_sum_122 (by decide) (fun k_18 => ?_) (fun k_18 => ?_)
      · skip
        refine lv_lload_n hx hb dX7_sum_142 rfl (lv_at hl 2 rfl) ?_
        exact W.lret (v := L2) hx hb hr (fun t ht hW => ⟨_, rfl, trivial, ht⟩) (fun _ h => by cases h) dX7_sum_143
      · skip
        refine lv_lload_n hx hb dX7_sum_125 rfl (lv_at hl 2 rfl) ?_
        refine lv_aload_n hx hb dX7_sum_126 rfl (lv_at hl 0 rfl) ?_
        refine va_get (D := D) (ci := 7) (v := .ref (q 34)) (C := RX7) (T := TX7) (N := 56) hx hb hts (fun _ h => List.mem_cons_of_mem _ (List.mem_append_right _ h)) hown hK hP 0 rfl rfl 34 (by decide) (hts (.fieldLink RX7 68 "CrownTableModel" "pardoned" "[I") (mem_i 5 rfl)) (fun _ h9 => h9) rfl dX7_sum_127 ?_
        refine lv_iload hx hb dX7_sum_130 (lv_at hl 3 rfl) ?_
        refine va_iald hx hb hK hP 4 1 rfl rfl (vin (a := L4.toInt) rfl (by omega) (by omega)) dX7_sum_132 ?_
        refine lv_topi (fun x_19 ex_19 => ?_)
        refine lv_i2l hx hb dX7_sum_133 rfl ?_
        refine lv_ladd hx hb dX7_sum_134 ?_
        refine lv_topl (fun x_20 ex_20 => ?_)
        refine lv_lstore_n (lv' := [(2, .long x_20), (0, .ref A_self), (1, .int a1), (4, .int L4)]) hx hb dX7_sum_135 rfl hl (by decide) rfl (fun ls hl => ?_)
        obtain ⟨x_21, ex_21⟩ : ∃ y : Int32, y = L4 + 1 := ⟨_, rfl⟩
        have tx_21 : x_21.toInt = L4.toInt + 1 := by rw [ex_21]; exact add_ti (a := L4.toInt) (b := 1) rfl (by decide) (by omega) (by omega)
        refine lv_iinc (v := x_21) (lv' := [(4, .int x_21), (2, .long x_20), (0, .ref A_self), (1, .int a1)]) hx hb dX7_sum_136 hl (k := 3) rfl (by rw [ex_21]; rfl) (by decide) rfl (fun ls hl => ?_)
        refine lv_goto (tgt := 116) hx hb dX7_sum_139 (by decide) ?_
        have hl := lv_sub hl [2, 3, 1, 0] rfl
        exact (ih116 ((400 - x_21.toInt).toNat) (by omega) x_20 x_21 (by omega) (by omega) (by omega) rfl _ hl)
    have kzz_22 : (0 : Int32).toInt = 0 := by decide
    have hl := lv_sub hl [2, 3, 1, 0] rfl
    exact (lp_116 _ 0 0 (by omega) (by omega) (by omega) rfl _ hl)
  by_cases k_23 : i_a1 = 5
  · have ek_23 : a1.toInt = 5 := hi_a1.trans k_23
    refine lv_tableIn (tgt := 144) hx hb dX7_sum_3 (by rw [ek_23]; decide) (by rw [ek_23]; decide) (by rw [ek_23]; rfl) (by decide) ?_
    refine lv_iconst (v := 0) hx hb dX7_sum_144 (by decide) ?_
    refine lv_istore (lv' := [(4, .int 0), (2, .long 0), (0, .ref A_self), (1, .int a1)]) hx hb dX7_sum_145 hl (by decide) rfl (fun ls hl => ?_)
    have lp_147 : ∀ (N : Nat) (L2 : Int64) (L4 : Int32) (hf147_0 : 0 ≤ L4.toInt) (hf147_1 : L4.toInt ≤ 400) (hf147_2 : L4.toInt ≤ (v 27).toInt) (hN147 : (400 - L4.toInt).toNat = N) (ls : Array Slot), lv_has ls 5 [(0, .ref A_self), (1, .int a1), (2, .long L2), (4, .int L4)] → W p l e (headSpec wsX7_sum ({ frames := 2, cells := 0, slots := 0, locals := 43 })).room s m (([.ref A_self, .int a1] : List Value).toArray) below meth cd s.heap [] 0 0 (MQ below (vp_Sl (fun r : Int64 => True)) ([.ref A_self, .int a1] : List Value).toArray s 0 0 (fun _ => False)) (F0 m 147 ls []) := by
      refine st_ind (fun N ih147 => ?_)
      intro L2 L4 hf147_0 hf147_1 hf147_2 hN147 ls hl
      refine lv_iload hx hb dX7_sum_147 (lv_at hl 3 rfl) ?_
      refine lv_aload_n hx hb dX7_sum_149 rfl (lv_at hl 0 rfl) ?_
      refine va_get (D := D) (ci := 7) (v := .int (v 27)) (C := RX7) (T := TX7) (N := 56) hx hb hts (fun _ h => List.mem_cons_of_mem _ (List.mem_append_right _ h)) hown hK hP 0 rfl rfl 27 (by decide) (hts (.fieldLink RX7 277 "CrownTableModel" "debts" "I") (mem_i 3 rfl)) (fun _ h9 => h9) rfl dX7_sum_150 ?_
      refine iicmp_ge (a := L4.toInt) (b := (v 27).toInt) (tgt := 173) hx hb rfl rfl dX7_sum_153 (by decide) (fun k_24 => ?_) (fun k_24 => ?_)
      · skip
        refine lv_lload_n hx hb dX7_sum_173 rfl (lv_at hl 2 rfl) ?_
        exact W.lret (v := L2) hx hb hr (fun t ht hW => ⟨_, rfl, trivial, ht⟩) (fun _ h => by cases h) dX7_sum_174
      · skip
        refine lv_lload_n hx hb dX7_sum_156 rfl (lv_at hl 2 rfl) ?_
        refine lv_aload_n hx hb dX7_sum_157 rfl (lv_at hl 0 rfl) ?_
        refine va_get (D := D) (ci := 7) (v := .ref (q 30)) (C := RX7) (T := TX7) (N := 56) hx hb hts (fun _ h => List.mem_cons_of_mem _ (List.mem_append_right _ h)) hown hK hP 0 rfl rfl 30 (by decide) (hts (.fieldLink RX7 56 "CrownTableModel" "whole" "[I") (mem_i 6 rfl)) (fun _ h9 => h9) rfl dX7_sum_158 ?_
        refine lv_iload hx hb dX7_sum_161 (lv_at hl 3 rfl) ?_
        refine va_iald hx hb hK hP 5 1 rfl rfl (vin (a := L4.toInt) rfl (by omega) (by omega)) dX7_sum_163 ?_
        refine lv_topi (fun x_25 ex_25 => ?_)
        refine lv_i2l hx hb dX7_sum_164 rfl ?_
        refine lv_ladd hx hb dX7_sum_165 ?_
        refine lv_topl (fun x_26 ex_26 => ?_)
        refine lv_lstore_n (lv' := [(2, .long x_26), (0, .ref A_self), (1, .int a1), (4, .int L4)]) hx hb dX7_sum_166 rfl hl (by decide) rfl (fun ls hl => ?_)
        obtain ⟨x_27, ex_27⟩ : ∃ y : Int32, y = L4 + 1 := ⟨_, rfl⟩
        have tx_27 : x_27.toInt = L4.toInt + 1 := by rw [ex_27]; exact add_ti (a := L4.toInt) (b := 1) rfl (by decide) (by omega) (by omega)
        refine lv_iinc (v := x_27) (lv' := [(4, .int x_27), (2, .long x_26), (0, .ref A_self), (1, .int a1)]) hx hb dX7_sum_167 hl (k := 3) rfl (by rw [ex_27]; rfl) (by decide) rfl (fun ls hl => ?_)
        refine lv_goto (tgt := 147) hx hb dX7_sum_170 (by decide) ?_
        have hl := lv_sub hl [2, 3, 1, 0] rfl
        exact (ih147 ((400 - x_27.toInt).toNat) (by omega) x_26 x_27 (by omega) (by omega) (by omega) rfl _ hl)
    have kzz_28 : (0 : Int32).toInt = 0 := by decide
    have hl := lv_sub hl [2, 3, 1, 0] rfl
    exact (lp_147 _ 0 0 (by omega) (by omega) (by omega) rfl _ hl)
  by_cases k_29 : i_a1 = 6
  · have ek_29 : a1.toInt = 6 := hi_a1.trans k_29
    refine lv_tableIn (tgt := 175) hx hb dX7_sum_3 (by rw [ek_29]; decide) (by rw [ek_29]; decide) (by rw [ek_29]; rfl) (by decide) ?_
    refine lv_aload_n hx hb dX7_sum_175 rfl (lv_at hl 1 rfl) ?_
    refine va_get (D := D) (ci := 7) (v := .long (w 39)) (C := RX7) (T := TX7) (N := 56) hx hb hts (fun _ h => List.mem_cons_of_mem _ (List.mem_append_right _ h)) hown hK hP 0 rfl rfl 39 (by decide) (hts (.fieldLink RX7 325 "CrownTableModel" "brought" "J") (mem_i 7 rfl)) (fun _ h9 => h9) rfl dX7_sum_176 ?_
    exact W.lret (v := (w 39)) hx hb hr (fun t ht hW => ⟨_, rfl, trivial, ht⟩) (fun _ h => by cases h) dX7_sum_179
  refine lv_tableOut (tgt := 180) hx hb dX7_sum_3 (by rw [hi_a1]; omega) (by decide) ?_
  refine lv_ldc2 (v := (-1)) hx hb hown (hts (.constantLong RX7 338 (-1)) (mem_i 8 rfl)) dX7_sum_180 ?_
  exact W.lret (v := (-1)) hx hb hr (fun t ht hW => ⟨_, rfl, trivial, ht⟩) (fun _ h => by cases h) dX7_sum_183
