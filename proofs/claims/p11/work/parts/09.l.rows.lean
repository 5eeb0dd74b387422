set_option maxHeartbeats 4000000 in
set_option maxRecDepth 100000 in
theorem k_X7_take (l : Launch) (D : va_G) (c : Nat → ClassId) (ts : Nat × Nat) (sz : Nat) (A_self : Nat) (q : Nat → Nat) (v : Nat → Int32) (w : Nat → Int64) (f_cloth : Nat → Int32) (cb : Int) (a1 : Int32) (i_a1 : Int) (hi_a1 : a1.toInt = i_a1) (hv_2 : 0 ≤ (v 2).toInt ∧ (v 2).toInt ≤ 800) (hv_8 : 0 ≤ (v 8).toInt ∧ (v 8).toInt ≤ 10) (hv_21 : 0 ≤ (v 21).toInt ∧ (v 21).toInt ≤ 40) (hv_24 : 0 ≤ (v 24).toInt ∧ (v 24).toInt ≤ 1000) (hv_27 : 0 ≤ (v 27).toInt ∧ (v 27).toInt ≤ 400) (hv_42 : 0 ≤ (v 42).toInt ∧ (v 42).toInt ≤ 4000) (hv_52 : 0 ≤ (v 52).toInt ∧ (v 52).toInt ≤ 2000) (hq0 : 0 ≤ (f_cloth 0).toInt ∧ (f_cloth 0).toInt ≤ 11) (hq1 : 0 ≤ (f_cloth 1).toInt ∧ (f_cloth 1).toInt ≤ 19) (hq2 : 0 ≤ (f_cloth 2).toInt ∧ (f_cloth 2).toInt ≤ 19) (hq3 : 0 ≤ (f_cloth 3).toInt ∧ (f_cloth 3).toInt ≤ 4) (hq4 : 0 ≤ (f_cloth 4).toInt ∧ (f_cloth 4).toInt ≤ 9) (hq5 : 0 ≤ (f_cloth 5).toInt ∧ (f_cloth 5).toInt ≤ 1000000) (hq6 : (f_cloth 5).toInt ≤ cb ∧ cb ≤ 900000) : Met l yX7_take wsX7_take ({ frames := 2, cells := 0, slots := 0, locals := 43 }) (va_Pc [.ref A_self, .int a1] (Pre0 D c ts [(A_self, .inr (7, o7 q v w)), (q 55, .inl (c 1, 6, .inl f_cloth))] sz)) (va_Qi (fun (r : Int32) (u : (Nat → Int32) × Unit) => (0 ≤ (u.1 0).toInt ∧ (u.1 0).toInt ≤ 11) ∧ (0 ≤ (u.1 1).toInt ∧ (u.1 1).toInt ≤ 19) ∧ (0 ≤ (u.1 2).toInt ∧ (u.1 2).toInt ≤ 19) ∧ (0 ≤ (u.1 3).toInt ∧ (u.1 3).toInt ≤ 4) ∧ (0 ≤ (u.1 4).toInt ∧ (u.1 4).toInt ≤ 9) ∧ (0 ≤ (u.1 5).toInt ∧ (u.1 5).toInt ≤ cb)) (fun u t => va_P D vwCl [(A_self, .inr (7, o7 q v w)), (q 55, .inl (c 1, 6, .inl u.1))] t.heap ∧ va_D (va_A [(A_self, .inr (7, o7 q v w)), (q 55, .inl (c 1, 6, .inl f_cloth))] sz) [(A_self, .inr (7, o7 q v w)), (q 55, .inl (c 1, 6, .inl u.1))]) (va_A [(A_self, .inr (7, o7 q v w)), (q 55, .inl (c 1, 6, .inl f_cloth))] sz)) 0 0 (va_A [(A_self, .inr (7, o7 q v w)), (q 55, .inl (c 1, 6, .inl f_cloth))] sz) := by
  refine Met.ofW (cc := cX7_take) (maxL := 6) (ret := (some .int)) (by decide) rfl ?_
  intro p e s m args below meth cd s₁ B hml hv
  obtain ⟨rfl, hsz, hP, hD0, hAm, hSt⟩ := hv
  have hx := B.exec
  have hb := B.bytes
  have hr := B.returns
  have hts := atoms_spec (ws := wsX7_take) B.pre
  have hown : s.vm.findClass RX7 = some m.cls := findClass_of_methodNamed B.named
  have hlocks := B.notSynchronized
  have hK := hAm.1
  subst hsz
  have hD := hD0.self (sz := s.heap.size)
  generalize hAe : va_A [(A_self, .inr (7, o7 q v w)), (q 55, .inl (c 1, 6, .inl f_cloth))] s.heap.size = A at hD hSt ⊢
  have hA : ∀ q : Nat, s.heap.size ≤ q → A q := fun q h => by rw [← hAe]; exact Or.inr h
  have hS : va_S A s.heap s.heap [] := va_S.rf
  clear hD0 hAe
  have hl := lv_entry ([.ref A_self, .int a1]) (n := 6) (Nat.le_of_ble_eq_true rfl)
  rw [lg_entry_eq]
  generalize (lg_sl ([.ref A_self, .int a1]) ++ List.replicate (6 - (lg_sl ([.ref A_self, .int a1])).length) Slot.unset).toArray = ls at hl ⊢
  have hl : lv_has ls 6 [(0, .ref A_self), (1, .int a1)] := hl
  have rg_a1 := i32r a1
  refine lv_iload_n hx hb dX7_take_0 rfl (lv_at hl 1 rfl) ?_
  refine lv_iconst (v := 1) hx hb dX7_take_1 (by decide) ?_
  refine lv_ldcw (v := 1000000) hx hb hown (hts (.constant RX7 284 (1000000)) (mem_i 1 rfl)) dX7_take_2 ?_
  have hPc := hP.sub (ws' := []) [] rfl
  have hDc := hD.sub (ws' := []) [] (by decide) rfl
  have hFc := va_free (wc := []) hD hS hA [] rfl
  have kzz_1 : (1 : Int32).toInt = 1 := by decide
  have kzz_2 : (1000000 : Int32).toInt = 1000000 := by decide
  refine va_csi (va_runS (As := [.int a1, .int 1, .int 1000000]) (rest := []) ⟨hx, hb, hml, hown, hts⟩ (k_X7_in l D c ts s.heap.size a1 i_a1 hi_a1 1 1 (by decide) 1000000 1000000 (by decide)) (cwS 3 hts gX7_take_X7_in rfl rfl rfl ⟨rfl, hdX7_in⟩ ⟨(show 0 + 1 ≤ 2 by decide), (show 8 + (3 + 11) + 0 ≤ 43 by decide)⟩) ⟨Pre0.blind, Pre0.at hPc hDc hAm hSt hS hFc⟩ rfl rfl hl.1 rfl (lv_room (Nat.le_of_ble_eq_true rfl)) dX7_take_5 ⟨(show 0 + 0 ≤ 0 by decide), (show 0 + 0 ≤ 0 by decide)⟩) (fun r_4 hw_3 => ?_)
  rcases hw_3 with ⟨hw_3, rfl⟩ | ⟨hw_3, rfl⟩
  · skip
    refine iif_neT (a := 1) (tgt := 13) hx hb (by decide) dX7_take_8 (by decide) (by decide) ?_
    refine lv_iload_n hx hb dX7_take_13 rfl (lv_at hl 1 rfl) ?_
    refine lv_i2l hx hb dX7_take_14 rfl ?_
    refine lv_aload_n hx hb dX7_take_15 rfl (lv_at hl 0 rfl) ?_
    have hPc := hP.sub (ws' := [(A_self, .inr (7, o7 q v w)), (q 55, .inl (c 1, 6, .inl f_cloth))]) [0, 1] rfl
    have hDc := hD.sub (ws' := [(A_self, .inr (7, o7 q v w)), (q 55, .inl (c 1, 6, .inl f_cloth))]) [0, 1] (by decide) rfl
    have hFc := va_free (wc := [(A_self, .inr (7, o7 q v w)), (q 55, .inl (c 1, 6, .inl f_cloth))]) hD hS hA [0, 1] rfl
    refine va_csl (va_runV (As := []) (rest := [.long a1.toInt64]) ⟨hx, hb, hml, hown, hts⟩ (k_X7_lies l D c ts s.heap.size A_self q v w f_cloth (show 0 ≤ (v 2).toInt ∧ (v 2).toInt ≤ 800 by omega) (show 0 ≤ (v 8).toInt ∧ (v 8).toInt ≤ 10 by omega) (show 0 ≤ (v 21).toInt ∧ (v 21).toInt ≤ 40 by omega) (show 0 ≤ (v 24).toInt ∧ (v 24).toInt ≤ 1000 by omega) (show 0 ≤ (v 27).toInt ∧ (v 27).toInt ≤ 400 by omega) (show 0 ≤ (v 42).toInt ∧ (v 42).toInt ≤ 4000 by omega) (show 0 ≤ (v 52).toInt ∧ (v 52).toInt ≤ 2000 by omega) (show 0 ≤ (f_cloth 0).toInt ∧ (f_cloth 0).toInt ≤ 11 by omega) (show 0 ≤ (f_cloth 1).toInt ∧ (f_cloth 1).toInt ≤ 19 by omega) (show 0 ≤ (f_cloth 2).toInt ∧ (f_cloth 2).toInt ≤ 19 by omega) (show 0 ≤ (f_cloth 3).toInt ∧ (f_cloth 3).toInt ≤ 4 by omega) (show 0 ≤ (f_cloth 4).toInt ∧ (f_cloth 4).toInt ≤ 9 by omega) (show 0 ≤ (f_cloth 5).toInt ∧ (f_cloth 5).toInt ≤ 1000000 by omega)) (cwV 0 hts gX7_take_X7_lies rfl rfl rfl ⟨rfl, hdX7_lies⟩ ⟨(show 1 + 1 ≤ 2 by decide), (show 8 + (4 + 11) + 20 ≤ 43 by decide)⟩) ⟨Pre0.blind, va_recv hK hPc (ci := 7) (q0 := 0) rfl rfl, Pre0.at hPc hDc hAm hSt hS hFc⟩ rfl rfl hl.1 rfl (lv_room (Nat.le_of_ble_eq_true rfl)) dX7_take_16 ⟨(show 0 + 0 ≤ 0 by decide), (show 0 + 0 ≤ 0 by decide)⟩) (fun r_6 hw_5 => ?_)
    have hw_5 : (r_6.toInt = (f_cloth 0).toInt + 12 * (f_cloth 1).toInt + 240 * (f_cloth 2).toInt + 4800 * (f_cloth 3).toInt + 24000 * (f_cloth 4).toInt + 240000 * (f_cloth 5).toInt) := hw_5
    refine W.lcmp hx hb dX7_take_19 ?_
    refine lv_topi (fun x_7 ex_7 => ?_)
    have tx_7 := lcg_fact (n := x_7) ex_7 (show (a1.toInt64 : Int64).toInt = i_a1 from (ti_i2l hi_a1)) (show (r_6 : Int64).toInt = r_6.toInt from rfl)
    refine iif_le (a := x_7.toInt) (tgt := 26) hx hb rfl dX7_take_20 (by decide) (fun k_8 => ?_) (fun k_8 => ?_)
    · skip
      refine lv_iconst (v := 0) hx hb dX7_take_26 (by decide) ?_
      refine lv_istore_n (lv' := [(2, .int 0), (0, .ref A_self), (1, .int a1)]) hx hb dX7_take_27 rfl hl (by decide) rfl (fun ls hl => ?_)
      refine lv_iconst (v := 0) hx hb dX7_take_28 (by decide) ?_
      refine lv_istore_n (lv' := [(3, .int 0), (2, .int 0), (0, .ref A_self), (1, .int a1)]) hx hb dX7_take_29 rfl hl (by decide) rfl (fun ls hl => ?_)
      have lp_30_6 : ∀ (L2 : Int32) (M_cloth : Nat → Int32) (hf30_6_0 : 0 ≤ (M_cloth 0).toInt ∧ (M_cloth 0).toInt ≤ 11) (hf30_6_1 : 0 ≤ (M_cloth 1).toInt ∧ (M_cloth 1).toInt ≤ 19) (hf30_6_2 : 0 ≤ (M_cloth 2).toInt ∧ (M_cloth 2).toInt ≤ 19) (hf30_6_3 : 0 ≤ (M_cloth 3).toInt ∧ (M_cloth 3).toInt ≤ 4) (hf30_6_4 : 0 ≤ (M_cloth 4).toInt ∧ (M_cloth 4).toInt ≤ 9) (hf30_6_5 : 0 ≤ (M_cloth 5).toInt ∧ (M_cloth 5).toInt ≤ cb) (H : Heap) (locs : List Loc) (ls : Array Slot), va_P D vwCl [(A_self, .inr (7, o7 q v w)), (q 55, .inl (c 1, 6, .inl M_cloth))] H → va_D A [(A_self, .inr (7, o7 q v w)), (q 55, .inl (c 1, 6, .inl M_cloth))] → va_S A s.heap H locs → lv_has ls 6 [(3, .int 6), (0, .ref A_self), (1, .int a1), (2, .int L2)] → W p l e (headSpec wsX7_take ({ frames := 2, cells := 0, slots := 0, locals := 43 })).room s m (([.ref A_self, .int a1] : List Value).toArray) below meth cd H locs 0 0 (MQ below (va_Qi (fun (r : Int32) (u : (Nat → Int32) × Unit) => (0 ≤ (u.1 0).toInt ∧ (u.1 0).toInt ≤ 11) ∧ (0 ≤ (u.1 1).toInt ∧ (u.1 1).toInt ≤ 19) ∧ (0 ≤ (u.1 2).toInt ∧ (u.1 2).toInt ≤ 19) ∧ (0 ≤ (u.1 3).toInt ∧ (u.1 3).toInt ≤ 4) ∧ (0 ≤ (u.1 4).toInt ∧ (u.1 4).toInt ≤ 9) ∧ (0 ≤ (u.1 5).toInt ∧ (u.1 5).toInt ≤ cb)) (fun u t => va_P D vwCl [(A_self, .inr (7, o7 q v w)), (q 55, .inl (c 1, 6, .inl u.1))] t.heap ∧ va_D A [(A_self, .inr (7, o7 q v w)), (q 55, .inl (c 1, 6, .inl u.1))]) A) ([.ref A_self, .int a1] : List Value).toArray s 0 0 A) (F0 m 30 ls []) := by
        intro L2 M_cloth hf30_6_0 hf30_6_1 hf30_6_2 hf30_6_3 hf30_6_4 hf30_6_5 H locs ls hP hD hS hl
        have rg_L2 := i32r L2
        refine lv_iload_n hx hb dX7_take_30 rfl (lv_at hl 0 rfl) ?_
        refine lv_bipush (v := 6) hx hb dX7_take_31 (by decide) ?_
        refine iicmp_geT (a := 6) (b := 6) (tgt := 136) hx hb (by decide) (by decide) dX7_take_33 (by decide) (by decide) ?_
        refine lv_iload_n hx hb dX7_take_136 rfl (lv_at hl 3 rfl) ?_
        have hP9 := hP.sub (ws' := [(A_self, .inr (7, o7 q v w)), (q 55, .inl (c 1, 6, .inl M_cloth))]) [0, 1] rfl
        have hD9 := hD.sub (ws' := [(A_self, .inr (7, o7 q v w)), (q 55, .inl (c 1, 6, .inl M_cloth))]) [0, 1] (by decide) rfl
        refine W.widen (k := 0) (n := 0) (by omega) (by omega) ?_
        exact W.iret (v := L2) hx hb hr (fun t ht hW => ⟨⟨_, (M_cloth, ()), rfl, ⟨(show 0 ≤ (M_cloth 0).toInt ∧ (M_cloth 0).toInt ≤ 11 by omega), (show 0 ≤ (M_cloth 1).toInt ∧ (M_cloth 1).toInt ≤ 19 by omega), (show 0 ≤ (M_cloth 2).toInt ∧ (M_cloth 2).toInt ≤ 19 by omega), (show 0 ≤ (M_cloth 3).toInt ∧ (M_cloth 3).toInt ≤ 4 by omega), (show 0 ≤ (M_cloth 4).toInt ∧ (M_cloth 4).toInt ≤ 9 by omega), (show 0 ≤ (M_cloth 5).toInt ∧ (M_cloth 5).toInt ≤ cb by omega)⟩, ⟨by rw [ht]; exact hP9, hD9⟩⟩, hS.F ht⟩) hS.2.2 dX7_take_137
      have lp_30_5 : ∀ (L2 : Int32) (M_cloth : Nat → Int32) (hf30_5_0 : 0 ≤ (M_cloth 0).toInt ∧ (M_cloth 0).toInt ≤ 11) (hf30_5_1 : 0 ≤ (M_cloth 1).toInt ∧ (M_cloth 1).toInt ≤ 19) (hf30_5_2 : 0 ≤ (M_cloth 2).toInt ∧ (M_cloth 2).toInt ≤ 19) (hf30_5_3 : 0 ≤ (M_cloth 3).toInt ∧ (M_cloth 3).toInt ≤ 4) (hf30_5_4 : 0 ≤ (M_cloth 4).toInt ∧ (M_cloth 4).toInt ≤ 9) (hf30_5_5 : 0 ≤ (M_cloth 5).toInt ∧ (M_cloth 5).toInt ≤ cb) (hf30_5_6 : 240000 * (i_a1 / 240000) ≤ 240000 * (M_cloth 5).toInt) (H : Heap) (locs : List Loc) (ls : Array Slot), va_P D vwCl [(A_self, .inr (7, o7 q v w)), (q 55, .inl (c 1, 6, .inl M_cloth))] H → va_D A [(A_self, .inr (7, o7 q v w)), (q 55, .inl (c 1, 6, .inl M_cloth))] → va_S A s.heap H locs → lv_has ls 6 [(3, .int 5), (0, .ref A_self), (1, .int a1), (2, .int L2)] → W p l e (headSpec wsX7_take ({ frames := 2, cells := 0, slots := 0, locals := 43 })).room s m (([.ref A_self, .int a1] : List Value).toArray) below meth cd H locs 0 0 (MQ below (va_Qi (fun (r : Int32) (u : (Nat → Int32) × Unit) => (0 ≤ (u.1 0).toInt ∧ (u.1 0).toInt ≤ 11) ∧ (0 ≤ (u.1 1).toInt ∧ (u.1 1).toInt ≤ 19) ∧ (0 ≤ (u.1 2).toInt ∧ (u.1 2).toInt ≤ 19) ∧ (0 ≤ (u.1 3).toInt ∧ (u.1 3).toInt ≤ 4) ∧ (0 ≤ (u.1 4).toInt ∧ (u.1 4).toInt ≤ 9) ∧ (0 ≤ (u.1 5).toInt ∧ (u.1 5).toInt ≤ cb)) (fun u t => va_P D vwCl [(A_self, .inr (7, o7 q v w)), (q 55, .inl (c 1, 6, .inl u.1))] t.heap ∧ va_D A [(A_self, .inr (7, o7 q v w)), (q 55, .inl (c 1, 6, .inl u.1))]) A) ([.ref A_self, .int a1] : List Value).toArray s 0 0 A) (F0 m 30 ls []) := by
        intro L2 M_cloth hf30_5_0 hf30_5_1 hf30_5_2 hf30_5_3 hf30_5_4 hf30_5_5 hf30_5_6 H locs ls hP hD hS hl
        have rg_L2 := i32r L2
        refine lv_iload_n hx hb dX7_take_30 rfl (lv_at hl 0 rfl) ?_
        refine lv_bipush (v := 6) hx hb dX7_take_31 (by decide) ?_
        refine iicmp_geF (a := 5) (b := 6) (tgt := 136) hx hb (by decide) (by decide) dX7_take_33 (by decide) (by decide) ?_
        refine lv_iload_n hx hb dX7_take_36 rfl (lv_at hl 2 rfl) ?_
        refine lv_iload_n hx hb dX7_take_37 rfl (lv_at hl 0 rfl) ?_
        have hPc := hP.sub (ws' := []) [] rfl
        have hDc := hD.sub (ws' := []) [] (by decide) rfl
        have hFc := va_free (wc := []) hD hS hA [] rfl
        have kzz_9 : (5 : Int32).toInt = 5 := by decide
        refine va_csi (va_runS (As := [.int a1, .int 5]) (rest := []) ⟨hx, hb, hml, hown, hts⟩ (k_X7_notch_P l D c ts H.size a1 i_a1 hi_a1 5 5 (by decide) (by omega) (by omega)) (cwS 2 hts gX7_take_X7_notch rfl rfl rfl ⟨rfl, hdX7_notch⟩ ⟨(show 1 + 1 ≤ 2 by decide), (show 8 + (2 + 11) + 20 ≤ 43 by decide)⟩) ⟨Pre0.blind, Pre0.at hPc hDc hAm hSt hS hFc⟩ rfl rfl hl.1 rfl (lv_room (Nat.le_of_ble_eq_true rfl)) dX7_take_38 ⟨(show 0 + 0 ≤ 0 by decide), (show 0 + 0 ≤ 0 by decide)⟩) (fun r_11 hw_10 => ?_)
        have nf_12 := hw_10.2.2.2.2.2.2 rfl
        have nf_13 := hw_10.1
        clear hw_10
        have rg_r_11 := i32r r_11
        refine lv_istore (lv' := [(4, .int r_11), (3, .int 5), (0, .ref A_self), (1, .int a1), (2, .int L2)]) hx hb dX7_take_41 hl (by decide) rfl (fun ls hl => ?_)
        refine lv_aload_n hx hb dX7_take_43 rfl (lv_at hl 2 rfl) ?_
        refine va_get (D := D) (ci := 7) (v := .ref (q 55)) (C := RX7) (T := TX7) (N := 56) hx hb hts (fun _ h => List.mem_cons_of_mem _ (List.mem_append_right _ h)) hown hK hP 0 rfl rfl 55 (by decide) (hts (.fieldLink RX7 118 "CrownTableModel" "cloth" "[I") (mem_i 2 rfl)) (fun _ h9 => h9) rfl dX7_take_44 ?_
        refine lv_iload_n hx hb dX7_take_47 rfl (lv_at hl 1 rfl) ?_
        refine va_iald hx hb hK hP 1 1 rfl rfl (vin (a := 5) (by decide) (by decide) (by decide)) dX7_take_48 ?_
        refine lv_topi (fun x_14 ex_14 => ?_)
        have lf_15 : (M_cloth 5).toInt = x_14.toInt := by rw [ex_14]; rfl
        refine lv_iload hx hb dX7_take_49 (lv_at hl 0 rfl) ?_
        refine iicmp_ge (a := x_14.toInt) (b := r_11.toInt) (tgt := 119) hx hb rfl rfl dX7_take_51 (by decide) (fun k_16 => ?_) (fun k_16 => ?_)
        · skip
          refine lv_aload_n hx hb dX7_take_119 rfl (lv_at hl 2 rfl) ?_
          refine va_get (D := D) (ci := 7) (v := .ref (q 55)) (C := RX7) (T := TX7) (N := 56) hx hb hts (fun _ h => List.mem_cons_of_mem _ (List.mem_append_right _ h)) hown hK hP 0 rfl rfl 55 (by decide) (hts (.fieldLink RX7 118 "CrownTableModel" "cloth" "[I") (mem_i 2 rfl)) (fun _ h9 => h9) rfl dX7_take_120 ?_
          refine lv_iload_n hx hb dX7_take_123 rfl (lv_at hl 1 rfl) ?_
          refine lv_dup2_11 hx hb dX7_take_124 rfl rfl ?_
          refine va_iald hx hb hK hP 1 1 rfl rfl (vin (a := 5) (by decide) (by decide) (by decide)) dX7_take_125 ?_
          refine lv_topi (fun x_17 ex_17 => ?_)
          have lf_18 : (M_cloth 5).toInt = x_17.toInt := by rw [ex_17]; rfl
          refine lv_iload hx hb dX7_take_126 (lv_at hl 0 rfl) ?_
          refine lv_isub hx hb dX7_take_128 ?_
          refine lv_topi (fun x_19 ex_19 => ?_)
          have tx_19 : x_19.toInt = (x_17.toInt - r_11.toInt) := by rw [ex_19]; exact sub_ti (a := x_17.toInt) (b := r_11.toInt) rfl rfl (by omega) (by omega)
          refine va_iast hx hb hK hP hD hS 1 1 rfl rfl (vin (a := 5) (by decide) (by decide) (by decide)) dX7_take_129 (fun H locs hP hD hS => ?_)
          obtain ⟨f_20, ef_20, hP, hD⟩ : ∃ f_20 : Nat → Int32, f_20 = upd M_cloth (5 : Int32).toNatClampNeg x_19 ∧ va_P D vwCl [(A_self, .inr (7, o7 q v w)), (q 55, .inl (c 1, 6, .inl f_20))] H ∧ va_D A [(A_self, .inr (7, o7 q v w)), (q 55, .inl (c 1, 6, .inl f_20))] := ⟨_, rfl, hP, hD⟩
          have cl_21 : (f_20 0).toInt = (M_cloth 0).toInt := by rw [ef_20]; rfl
          have cl_22 : (f_20 1).toInt = (M_cloth 1).toInt := by rw [ef_20]; rfl
          have cl_23 : (f_20 2).toInt = (M_cloth 2).toInt := by rw [ef_20]; rfl
          have cl_24 : (f_20 3).toInt = (M_cloth 3).toInt := by rw [ef_20]; rfl
          have cl_25 : (f_20 4).toInt = (M_cloth 4).toInt := by rw [ef_20]; rfl
          have cl_26 : (f_20 5).toInt = x_19.toInt := by rw [ef_20]; rfl
          refine lv_iinc (v := 6) (lv' := [(3, .int 6), (4, .int r_11), (0, .ref A_self), (1, .int a1), (2, .int L2)]) hx hb dX7_take_130 hl (k := 1) rfl (by decide) (by decide) rfl (fun ls hl => ?_)
          refine lv_goto (tgt := 30) hx hb dX7_take_133 (by decide) ?_
          have hl := lv_sub hl [0, 2, 3, 4] rfl
          exact lp_30_6 L2 f_20 (by omega) (by omega) (by omega) (by omega) (by omega) (by omega) _ _ _ hP hD hS hl
        · skip
          exfalso; omega
      have lp_30_4 : ∀ (L2 : Int32) (M_cloth : Nat → Int32) (hf30_4_0 : 0 ≤ (M_cloth 0).toInt ∧ (M_cloth 0).toInt ≤ 11) (hf30_4_1 : 0 ≤ (M_cloth 1).toInt ∧ (M_cloth 1).toInt ≤ 19) (hf30_4_2 : 0 ≤ (M_cloth 2).toInt ∧ (M_cloth 2).toInt ≤ 19) (hf30_4_3 : 0 ≤ (M_cloth 3).toInt ∧ (M_cloth 3).toInt ≤ 4) (hf30_4_4 : 0 ≤ (M_cloth 4).toInt ∧ (M_cloth 4).toInt ≤ 9) (hf30_4_5 : 0 ≤ (M_cloth 5).toInt ∧ (M_cloth 5).toInt ≤ cb) (hf30_4_6 : 24000 * (i_a1 / 24000) ≤ 24000 * (M_cloth 4).toInt + 240000 * (M_cloth 5).toInt) (H : Heap) (locs : List Loc) (ls : Array Slot), va_P D vwCl [(A_self, .inr (7, o7 q v w)), (q 55, .inl (c 1, 6, .inl M_cloth))] H → va_D A [(A_self, .inr (7, o7 q v w)), (q 55, .inl (c 1, 6, .inl M_cloth))] → va_S A s.heap H locs → lv_has ls 6 [(3, .int 4), (0, .ref A_self), (1, .int a1), (2, .int L2)] → W p l e (headSpec wsX7_take ({ frames := 2, cells := 0, slots := 0, locals := 43 })).room s m (([.ref A_self, .int a1] : List Value).toArray) below meth cd H locs 0 0 (MQ below (va_Qi (fun (r : Int32) (u : (Nat → Int32) × Unit) => (0 ≤ (u.1 0).toInt ∧ (u.1 0).toInt ≤ 11) ∧ (0 ≤ (u.1 1).toInt ∧ (u.1 1).toInt ≤ 19) ∧ (0 ≤ (u.1 2).toInt ∧ (u.1 2).toInt ≤ 19) ∧ (0 ≤ (u.1 3).toInt ∧ (u.1 3).toInt ≤ 4) ∧ (0 ≤ (u.1 4).toInt ∧ (u.1 4).toInt ≤ 9) ∧ (0 ≤ (u.1 5).toInt ∧ (u.1 5).toInt ≤ cb)) (fun u t => va_P D vwCl [(A_self, .inr (7, o7 q v w)), (q 55, .inl (c 1, 6, .inl u.1))] t.heap ∧ va_D A [(A_self, .inr (7, o7 q v w)), (q 55, .inl (c 1, 6, .inl u.1))]) A) ([.ref A_self, .int a1] : List Value).toArray s 0 0 A) (F0 m 30 ls []) := by
        intro L2 M_cloth hf30_4_0 hf30_4_1 hf30_4_2 hf30_4_3 hf30_4_4 hf30_4_5 hf30_4_6 H locs ls hP hD hS hl
        have rg_L2 := i32r L2
        refine lv_iload_n hx hb dX7_take_30 rfl (lv_at hl 0 rfl) ?_
        refine lv_bipush (v := 6) hx hb dX7_take_31 (by decide) ?_
        refine iicmp_geF (a := 4) (b := 6) (tgt := 136) hx hb (by decide) (by decide) dX7_take_33 (by decide) (by decide) ?_
        refine lv_iload_n hx hb dX7_take_36 rfl (lv_at hl 2 rfl) ?_
        refine lv_iload_n hx hb dX7_take_37 rfl (lv_at hl 0 rfl) ?_
        have hPc := hP.sub (ws' := []) [] rfl
        have hDc := hD.sub (ws' := []) [] (by decide) rfl
        have hFc := va_free (wc := []) hD hS hA [] rfl
        have kzz_27 : (4 : Int32).toInt = 4 := by decide
        refine va_csi (va_runS (As := [.int a1, .int 4]) (rest := []) ⟨hx, hb, hml, hown, hts⟩ (k_X7_notch_P l D c ts H.size a1 i_a1 hi_a1 4 4 (by decide) (by omega) (by omega)) (cwS 2 hts gX7_take_X7_notch rfl rfl rfl ⟨rfl, hdX7_notch⟩ ⟨(show 1 + 1 ≤ 2 by decide), (show 8 + (2 + 11) + 20 ≤ 43 by decide)⟩) ⟨Pre0.blind, Pre0.at hPc hDc hAm hSt hS hFc⟩ rfl rfl hl.1 rfl (lv_room (Nat.le_of_ble_eq_true rfl)) dX7_take_38 ⟨(show 0 + 0 ≤ 0 by decide), (show 0 + 0 ≤ 0 by decide)⟩) (fun r_29 hw_28 => ?_)
        have nf_30 := hw_28.2.2.2.2.2.1 rfl
        have nf_31 := hw_28.1
        clear hw_28
        have rg_r_29 := i32r r_29
        refine lv_istore (lv' := [(4, .int r_29), (3, .int 4), (0, .ref A_self), (1, .int a1), (2, .int L2)]) hx hb dX7_take_41 hl (by decide) rfl (fun ls hl => ?_)
        refine lv_aload_n hx hb dX7_take_43 rfl (lv_at hl 2 rfl) ?_
        refine va_get (D := D) (ci := 7) (v := .ref (q 55)) (C := RX7) (T := TX7) (N := 56) hx hb hts (fun _ h => List.mem_cons_of_mem _ (List.mem_append_right _ h)) hown hK hP 0 rfl rfl 55 (by decide) (hts (.fieldLink RX7 118 "CrownTableModel" "cloth" "[I") (mem_i 2 rfl)) (fun _ h9 => h9) rfl dX7_take_44 ?_
        refine lv_iload_n hx hb dX7_take_47 rfl (lv_at hl 1 rfl) ?_
        refine va_iald hx hb hK hP 1 1 rfl rfl (vin (a := 4) (by decide) (by decide) (by decide)) dX7_take_48 ?_
        refine lv_topi (fun x_32 ex_32 => ?_)
        have lf_33 : (M_cloth 4).toInt = x_32.toInt := by rw [ex_32]; rfl
        refine lv_iload hx hb dX7_take_49 (lv_at hl 0 rfl) ?_
        refine iicmp_ge (a := x_32.toInt) (b := r_29.toInt) (tgt := 119) hx hb rfl rfl dX7_take_51 (by decide) (fun k_34 => ?_) (fun k_34 => ?_)
        · skip
          refine lv_aload_n hx hb dX7_take_119 rfl (lv_at hl 2 rfl) ?_
          refine va_get (D := D) (ci := 7) (v := .ref (q 55)) (C := RX7) (T := TX7) (N := 56) hx hb hts (fun _ h => List.mem_cons_of_mem _ (List.mem_append_right _ h)) hown hK hP 0 rfl rfl 55 (by decide) (hts (.fieldLink RX7 118 "CrownTableModel" "cloth" "[I") (mem_i 2 rfl)) (fun _ h9 => h9) rfl dX7_take_120 ?_
          refine lv_iload_n hx hb dX7_take_123 rfl (lv_at hl 1 rfl) ?_
          refine lv_dup2_11 hx hb dX7_take_124 rfl rfl ?_
          refine va_iald hx hb hK hP 1 1 rfl rfl (vin (a := 4) (by decide) (by decide) (by decide)) dX7_take_125 ?_
          refine lv_topi (fun x_35 ex_35 => ?_)
          have lf_36 : (M_cloth 4).toInt = x_35.toInt := by rw [ex_35]; rfl
          refine lv_iload hx hb dX7_take_126 (lv_at hl 0 rfl) ?_
          refine lv_isub hx hb dX7_take_128 ?_
          refine lv_topi (fun x_37 ex_37 => ?_)
          have tx_37 : x_37.toInt = (x_35.toInt - r_29.toInt) := by rw [ex_37]; exact sub_ti (a := x_35.toInt) (b := r_29.toInt) rfl rfl (by omega) (by omega)
          refine va_iast hx hb hK hP hD hS 1 1 rfl rfl (vin (a := 4) (by decide) (by decide) (by decide)) dX7_take_129 (fun H locs hP hD hS => ?_)
          obtain ⟨f_38, ef_38, hP, hD⟩ : ∃ f_38 : Nat → Int32, f_38 = upd M_cloth (4 : Int32).toNatClampNeg x_37 ∧ va_P D vwCl [(A_self, .inr (7, o7 q v w)), (q 55, .inl (c 1, 6, .inl f_38))] H ∧ va_D A [(A_self, .inr (7, o7 q v w)), (q 55, .inl (c 1, 6, .inl f_38))] := ⟨_, rfl, hP, hD⟩
          have cl_39 : (f_38 0).toInt = (M_cloth 0).toInt := by rw [ef_38]; rfl
          have cl_40 : (f_38 1).toInt = (M_cloth 1).toInt := by rw [ef_38]; rfl
          have cl_41 : (f_38 2).toInt = (M_cloth 2).toInt := by rw [ef_38]; rfl
          have cl_42 : (f_38 3).toInt = (M_cloth 3).toInt := by rw [ef_38]; rfl
          have cl_43 : (f_38 4).toInt = x_37.toInt := by rw [ef_38]; rfl
          have cl_44 : (f_38 5).toInt = (M_cloth 5).toInt := by rw [ef_38]; rfl
          refine lv_iinc (v := 5) (lv' := [(3, .int 5), (4, .int r_29), (0, .ref A_self), (1, .int a1), (2, .int L2)]) hx hb dX7_take_130 hl (k := 1) rfl (by decide) (by decide) rfl (fun ls hl => ?_)
          refine lv_goto (tgt := 30) hx hb dX7_take_133 (by decide) ?_
          have hl := lv_sub hl [0, 2, 3, 4] rfl
          exact lp_30_5 L2 f_38 (by omega) (by omega) (by omega) (by omega) (by omega) (by omega) (by omega) _ _ _ hP hD hS hl
        · skip
          refine lv_iload_n hx hb dX7_take_54 rfl (lv_at hl 1 rfl) ?_
          refine lv_iconst (v := 1) hx hb dX7_take_55 (by decide) ?_
          refine lv_iadd hx hb dX7_take_56 ?_
          refine lk_i (y := 5) (by decide) ?_
          refine lv_istore (lv' := [(5, .int 5), (4, .int r_29), (3, .int 4), (0, .ref A_self), (1, .int a1), (2, .int L2)]) hx hb dX7_take_57 hl (by decide) rfl (fun ls hl => ?_)
          refine lv_aload_n hx hb dX7_take_59 rfl (lv_at hl 3 rfl) ?_
          refine va_get (D := D) (ci := 7) (v := .ref (q 55)) (C := RX7) (T := TX7) (N := 56) hx hb hts (fun _ h => List.mem_cons_of_mem _ (List.mem_append_right _ h)) hown hK hP 0 rfl rfl 55 (by decide) (hts (.fieldLink RX7 118 "CrownTableModel" "cloth" "[I") (mem_i 2 rfl)) (fun _ h9 => h9) rfl dX7_take_60 ?_
          refine lv_iload hx hb dX7_take_63 (lv_at hl 0 rfl) ?_
          refine va_iald hx hb hK hP 1 1 rfl rfl (vin (a := 5) (by decide) (by decide) (by decide)) dX7_take_65 ?_
          refine lv_topi (fun x_45 ex_45 => ?_)
          have lf_46 : (M_cloth 5).toInt = x_45.toInt := by rw [ex_45]; rfl
          refine iif_ne (a := x_45.toInt) (tgt := 75) hx hb rfl dX7_take_66 (by decide) (fun k_47 => ?_) (fun k_47 => ?_)
          · skip
            refine lv_iload hx hb dX7_take_75 (lv_at hl 0 rfl) ?_
            refine lv_iload_n hx hb dX7_take_77 rfl (lv_at hl 2 rfl) ?_
            refine iicmp_leF (a := 5) (b := 4) (tgt := 116) hx hb (by decide) (by decide) dX7_take_78 (by decide) (by decide) ?_
            refine lv_aload_n hx hb dX7_take_81 rfl (lv_at hl 3 rfl) ?_
            refine va_get (D := D) (ci := 7) (v := .ref (q 55)) (C := RX7) (T := TX7) (N := 56) hx hb hts (fun _ h => List.mem_cons_of_mem _ (List.mem_append_right _ h)) hown hK hP 0 rfl rfl 55 (by decide) (hts (.fieldLink RX7 118 "CrownTableModel" "cloth" "[I") (mem_i 2 rfl)) (fun _ h9 => h9) rfl dX7_take_82 ?_
            refine lv_iload hx hb dX7_take_85 (lv_at hl 0 rfl) ?_
            refine lv_dup2_11 hx hb dX7_take_87 rfl rfl ?_
            refine va_iald hx hb hK hP 1 1 rfl rfl (vin (a := 5) (by decide) (by decide) (by decide)) dX7_take_88 ?_
            refine lv_topi (fun x_48 ex_48 => ?_)
            have lf_49 : (M_cloth 5).toInt = x_48.toInt := by rw [ex_48]; rfl
            refine lv_iconst (v := 1) hx hb dX7_take_89 (by decide) ?_
            refine lv_isub hx hb dX7_take_90 ?_
            refine lv_topi (fun x_50 ex_50 => ?_)
            have tx_50 : x_50.toInt = (x_48.toInt - 1) := by rw [ex_50]; exact sub_ti (a := x_48.toInt) (b := 1) rfl (by decide) (by omega) (by omega)
            refine va_iast hx hb hK hP hD hS 1 1 rfl rfl (vin (a := 5) (by decide) (by decide) (by decide)) dX7_take_91 (fun H locs hP hD hS => ?_)
            obtain ⟨f_51, ef_51, hP, hD⟩ : ∃ f_51 : Nat → Int32, f_51 = upd M_cloth (5 : Int32).toNatClampNeg x_50 ∧ va_P D vwCl [(A_self, .inr (7, o7 q v w)), (q 55, .inl (c 1, 6, .inl f_51))] H ∧ va_D A [(A_self, .inr (7, o7 q v w)), (q 55, .inl (c 1, 6, .inl f_51))] := ⟨_, rfl, hP, hD⟩
            have cl_52 : (f_51 0).toInt = (M_cloth 0).toInt := by rw [ef_51]; rfl
            have cl_53 : (f_51 1).toInt = (M_cloth 1).toInt := by rw [ef_51]; rfl
            have cl_54 : (f_51 2).toInt = (M_cloth 2).toInt := by rw [ef_51]; rfl
            have cl_55 : (f_51 3).toInt = (M_cloth 3).toInt := by rw [ef_51]; rfl
            have cl_56 : (f_51 4).toInt = (M_cloth 4).toInt := by rw [ef_51]; rfl
            have cl_57 : (f_51 5).toInt = x_50.toInt := by rw [ef_51]; rfl
            refine lv_iinc (v := 4) (lv' := [(5, .int 4), (4, .int r_29), (3, .int 4), (0, .ref A_self), (1, .int a1), (2, .int L2)]) hx hb dX7_take_92 hl (k := 0) rfl (by decide) (by decide) rfl (fun ls hl => ?_)
            refine lv_aload_n hx hb dX7_take_95 rfl (lv_at hl 3 rfl) ?_
            refine va_get (D := D) (ci := 7) (v := .ref (q 55)) (C := RX7) (T := TX7) (N := 56) hx hb hts (fun _ h => List.mem_cons_of_mem _ (List.mem_append_right _ h)) hown hK hP 0 rfl rfl 55 (by decide) (hts (.fieldLink RX7 118 "CrownTableModel" "cloth" "[I") (mem_i 2 rfl)) (fun _ h9 => h9) rfl dX7_take_96 ?_
            refine lv_iload hx hb dX7_take_99 (lv_at hl 0 rfl) ?_
            refine lv_dup2_11 hx hb dX7_take_101 rfl rfl ?_
            refine va_iald hx hb hK hP 1 1 rfl rfl (vin (a := 4) (by decide) (by decide) (by decide)) dX7_take_102 ?_
            refine lv_topi (fun x_58 ex_58 => ?_)
            have lf_59 : (f_51 4).toInt = x_58.toInt := by rw [ex_58]; rfl
            refine lv_iload hx hb dX7_take_103 (lv_at hl 0 rfl) ?_
            have hPc := hP.sub (ws' := []) [] rfl
            have hDc := hD.sub (ws' := []) [] (by decide) rfl
            have hFc := va_free (wc := []) hD hS hA [] rfl
            have kzz_60 : (4 : Int32).toInt = 4 := by decide
            refine va_csi (va_runS (As := [.int 4]) (rest := [.int x_58, .int 4, .ref (q 55)]) ⟨hx, hb, hml, hown, hts⟩ (k_X7_next l D c ts H.size 4 4 (by decide) (by omega)) (cwS 1 hts gX7_take_X7_next rfl rfl rfl ⟨rfl, hdX7_next⟩ ⟨(show 1 + 1 ≤ 2 by decide), (show 8 + (1 + 11) + 20 ≤ 43 by decide)⟩) ⟨Pre0.blind, Pre0.at hPc hDc hAm hSt hS hFc⟩ rfl rfl hl.1 rfl (lv_room (Nat.le_of_ble_eq_true rfl)) dX7_take_105 ⟨(show 0 + 0 ≤ 0 by decide), (show 0 + 0 ≤ 0 by decide)⟩) (fun r_62 hw_61 => ?_)
            rcases hw_61 with ⟨hw_61, rfl⟩ | ⟨hw_61, rfl⟩ | ⟨hw_61, rfl⟩ | ⟨hw_61, rfl⟩
            · exfalso; omega
            · exfalso; omega
            · exfalso; omega
            · skip
              refine lv_iadd hx hb dX7_take_108 ?_
              refine lv_topi (fun x_63 ex_63 => ?_)
              have tx_63 : x_63.toInt = (x_58.toInt + 10) := by rw [ex_63]; exact add_ti (a := x_58.toInt) (b := 10) rfl (by decide) (by omega) (by omega)
              refine va_iast hx hb hK hP hD hS 1 1 rfl rfl (vin (a := 4) (by decide) (by decide) (by decide)) dX7_take_109 (fun H locs hP hD hS => ?_)
              obtain ⟨f_64, ef_64, hP, hD⟩ : ∃ f_64 : Nat → Int32, f_64 = upd f_51 (4 : Int32).toNatClampNeg x_63 ∧ va_P D vwCl [(A_self, .inr (7, o7 q v w)), (q 55, .inl (c 1, 6, .inl f_64))] H ∧ va_D A [(A_self, .inr (7, o7 q v w)), (q 55, .inl (c 1, 6, .inl f_64))] := ⟨_, rfl, hP, hD⟩
              have cl_65 : (f_64 0).toInt = (f_51 0).toInt := by rw [ef_64]; rfl
              have cl_66 : (f_64 1).toInt = (f_51 1).toInt := by rw [ef_64]; rfl
              have cl_67 : (f_64 2).toInt = (f_51 2).toInt := by rw [ef_64]; rfl
              have cl_68 : (f_64 3).toInt = (f_51 3).toInt := by rw [ef_64]; rfl
              have cl_69 : (f_64 4).toInt = x_63.toInt := by rw [ef_64]; rfl
              have cl_70 : (f_64 5).toInt = (f_51 5).toInt := by rw [ef_64]; rfl
              obtain ⟨x_71, ex_71⟩ : ∃ y : Int32, y = L2 + 1 := ⟨_, rfl⟩
              refine lv_iinc (v := x_71) (lv' := [(2, .int x_71), (5, .int 4), (4, .int r_29), (3, .int 4), (0, .ref A_self), (1, .int a1)]) hx hb dX7_take_110 hl (k := 5) rfl (by rw [ex_71]; rfl) (by decide) rfl (fun ls hl => ?_)
              refine lv_goto (tgt := 75) hx hb dX7_take_113 (by decide) ?_
              refine lv_iload hx hb dX7_take_75 (lv_at hl 1 rfl) ?_
              refine lv_iload_n hx hb dX7_take_77 rfl (lv_at hl 3 rfl) ?_
              refine iicmp_leT (a := 4) (b := 4) (tgt := 116) hx hb (by decide) (by decide) dX7_take_78 (by decide) (by decide) ?_
              refine lv_goto (tgt := 43) hx hb dX7_take_116 (by decide) ?_
              refine lv_aload_n hx hb dX7_take_43 rfl (lv_at hl 4 rfl) ?_
              refine va_get (D := D) (ci := 7) (v := .ref (q 55)) (C := RX7) (T := TX7) (N := 56) hx hb hts (fun _ h => List.mem_cons_of_mem _ (List.mem_append_right _ h)) hown hK hP 0 rfl rfl 55 (by decide) (hts (.fieldLink RX7 118 "CrownTableModel" "cloth" "[I") (mem_i 2 rfl)) (fun _ h9 => h9) rfl dX7_take_44 ?_
              refine lv_iload_n hx hb dX7_take_47 rfl (lv_at hl 3 rfl) ?_
              refine va_iald hx hb hK hP 1 1 rfl rfl (vin (a := 4) (by decide) (by decide) (by decide)) dX7_take_48 ?_
              refine lv_topi (fun x_72 ex_72 => ?_)
              have lf_73 : (f_64 4).toInt = x_72.toInt := by rw [ex_72]; rfl
              refine lv_iload hx hb dX7_take_49 (lv_at hl 2 rfl) ?_
              refine iicmp_ge (a := x_72.toInt) (b := r_29.toInt) (tgt := 119) hx hb rfl rfl dX7_take_51 (by decide) (fun k_74 => ?_) (fun k_74 => ?_)
              · skip
                refine lv_aload_n hx hb dX7_take_119 rfl (lv_at hl 4 rfl) ?_
                refine va_get (D := D) (ci := 7) (v := .ref (q 55)) (C := RX7) (T := TX7) (N := 56) hx hb hts (fun _ h => List.mem_cons_of_mem _ (List.mem_append_right _ h)) hown hK hP 0 rfl rfl 55 (by decide) (hts (.fieldLink RX7 118 "CrownTableModel" "cloth" "[I") (mem_i 2 rfl)) (fun _ h9 => h9) rfl dX7_take_120 ?_
                refine lv_iload_n hx hb dX7_take_123 rfl (lv_at hl 3 rfl) ?_
                refine lv_dup2_11 hx hb dX7_take_124 rfl rfl ?_
                refine va_iald hx hb hK hP 1 1 rfl rfl (vin (a := 4) (by decide) (by decide) (by decide)) dX7_take_125 ?_
                refine lv_topi (fun x_75 ex_75 => ?_)
                have lf_76 : (f_64 4).toInt = x_75.toInt := by rw [ex_75]; rfl
                refine lv_iload hx hb dX7_take_126 (lv_at hl 2 rfl) ?_
                refine lv_isub hx hb dX7_take_128 ?_
                refine lv_topi (fun x_77 ex_77 => ?_)
                have tx_77 : x_77.toInt = (x_75.toInt - r_29.toInt) := by rw [ex_77]; exact sub_ti (a := x_75.toInt) (b := r_29.toInt) rfl rfl (by omega) (by omega)
                refine va_iast hx hb hK hP hD hS 1 1 rfl rfl (vin (a := 4) (by decide) (by decide) (by decide)) dX7_take_129 (fun H locs hP hD hS => ?_)
                obtain ⟨f_78, ef_78, hP, hD⟩ : ∃ f_78 : Nat → Int32, f_78 = upd f_64 (4 : Int32).toNatClampNeg x_77 ∧ va_P D vwCl [(A_self, .inr (7, o7 q v w)), (q 55, .inl (c 1, 6, .inl f_78))] H ∧ va_D A [(A_self, .inr (7, o7 q v w)), (q 55, .inl (c 1, 6, .inl f_78))] := ⟨_, rfl, hP, hD⟩
                have cl_79 : (f_78 0).toInt = (f_64 0).toInt := by rw [ef_78]; rfl
                have cl_80 : (f_78 1).toInt = (f_64 1).toInt := by rw [ef_78]; rfl
                have cl_81 : (f_78 2).toInt = (f_64 2).toInt := by rw [ef_78]; rfl
                have cl_82 : (f_78 3).toInt = (f_64 3).toInt := by rw [ef_78]; rfl
                have cl_83 : (f_78 4).toInt = x_77.toInt := by rw [ef_78]; rfl
                have cl_84 : (f_78 5).toInt = (f_64 5).toInt := by rw [ef_78]; rfl
                refine lv_iinc (v := 5) (lv' := [(3, .int 5), (2, .int x_71), (5, .int 4), (4, .int r_29), (0, .ref A_self), (1, .int a1)]) hx hb dX7_take_130 hl (k := 3) rfl (by decide) (by decide) rfl (fun ls hl => ?_)
                refine lv_goto (tgt := 30) hx hb dX7_take_133 (by decide) ?_
                have hl := lv_sub hl [0, 4, 5, 1] rfl
                exact lp_30_5 x_71 f_78 (by omega) (by omega) (by omega) (by omega) (by omega) (by omega) (by omega) _ _ _ hP hD hS hl
              · skip
                exfalso; omega
          · skip
            exfalso; omega
      have lp_30_3 : ∀ (L2 : Int32) (M_cloth : Nat → Int32) (hf30_3_0 : 0 ≤ (M_cloth 0).toInt ∧ (M_cloth 0).toInt ≤ 11) (hf30_3_1 : 0 ≤ (M_cloth 1).toInt ∧ (M_cloth 1).toInt ≤ 19) (hf30_3_2 : 0 ≤ (M_cloth 2).toInt ∧ (M_cloth 2).toInt ≤ 19) (hf30_3_3 : 0 ≤ (M_cloth 3).toInt ∧ (M_cloth 3).toInt ≤ 4) (hf30_3_4 : 0 ≤ (M_cloth 4).toInt ∧ (M_cloth 4).toInt ≤ 9) (hf30_3_5 : 0 ≤ (M_cloth 5).toInt ∧ (M_cloth 5).toInt ≤ cb) (hf30_3_6 : 4800 * (i_a1 / 4800) ≤ 4800 * (M_cloth 3).toInt + 24000 * (M_cloth 4).toInt + 240000 * (M_cloth 5).toInt) (H : Heap) (locs : List Loc) (ls : Array Slot), va_P D vwCl [(A_self, .inr (7, o7 q v w)), (q 55, .inl (c 1, 6, .inl M_cloth))] H → va_D A [(A_self, .inr (7, o7 q v w)), (q 55, .inl (c 1, 6, .inl M_cloth))] → va_S A s.heap H locs → lv_has ls 6 [(3, .int 3), (0, .ref A_self), (1, .int a1), (2, .int L2)] → W p l e (headSpec wsX7_take ({ frames := 2, cells := 0, slots := 0, locals := 43 })).room s m (([.ref A_self, .int a1] : List Value).toArray) below meth cd H locs 0 0 (MQ below (va_Qi (fun (r : Int32) (u : (Nat → Int32) × Unit) => (0 ≤ (u.1 0).toInt ∧ (u.1 0).toInt ≤ 11) ∧ (0 ≤ (u.1 1).toInt ∧ (u.1 1).toInt ≤ 19) ∧ (0 ≤ (u.1 2).toInt ∧ (u.1 2).toInt ≤ 19) ∧ (0 ≤ (u.1 3).toInt ∧ (u.1 3).toInt ≤ 4) ∧ (0 ≤ (u.1 4).toInt ∧ (u.1 4).toInt ≤ 9) ∧ (0 ≤ (u.1 5).toInt ∧ (u.1 5).toInt ≤ cb)) (fun u t => va_P D vwCl [(A_self, .inr (7, o7 q v w)), (q 55, .inl (c 1, 6, .inl u.1))] t.heap ∧ va_D A [(A_self, .inr (7, o7 q v w)), (q 55, .inl (c 1, 6, .inl u.1))]) A) ([.ref A_self, .int a1] : List Value).toArray s 0 0 A) (F0 m 30 ls []) := by
        intro L2 M_cloth hf30_3_0 hf30_3_1 hf30_3_2 hf30_3_3 hf30_3_4 hf30_3_5 hf30_3_6 H locs ls hP hD hS hl
        have rg_L2 := i32r L2
        refine lv_iload_n hx hb dX7_take_30 rfl (lv_at hl 0 rfl) ?_
        refine lv_bipush (v := 6) hx hb dX7_take_31 (by decide) ?_
        refine iicmp_geF (a := 3) (b := 6) (tgt := 136) hx hb (by decide) (by decide) dX7_take_33 (by decide) (by decide) ?_
        refine lv_iload_n hx hb dX7_take_36 rfl (lv_at hl 2 rfl) ?_
        refine lv_iload_n hx hb dX7_take_37 rfl (lv_at hl 0 rfl) ?_
        have hPc := hP.sub (ws' := []) [] rfl
        have hDc := hD.sub (ws' := []) [] (by decide) rfl
        have hFc := va_free (wc := []) hD hS hA [] rfl
        have kzz_85 : (3 : Int32).toInt = 3 := by decide
        refine va_csi (va_runS (As := [.int a1, .int 3]) (rest := []) ⟨hx, hb, hml, hown, hts⟩ (k_X7_notch_P l D c ts H.size a1 i_a1 hi_a1 3 3 (by decide) (by omega) (by omega)) (cwS 2 hts gX7_take_X7_notch rfl rfl rfl ⟨rfl, hdX7_notch⟩ ⟨(show 1 + 1 ≤ 2 by decide), (show 8 + (2 + 11) + 20 ≤ 43 by decide)⟩) ⟨Pre0.blind, Pre0.at hPc hDc hAm hSt hS hFc⟩ rfl rfl hl.1 rfl (lv_room (Nat.le_of_ble_eq_true rfl)) dX7_take_38 ⟨(show 0 + 0 ≤ 0 by decide), (show 0 + 0 ≤ 0 by decide)⟩) (fun r_87 hw_86 => ?_)
        have nf_88 := hw_86.2.2.2.2.1 rfl
        have nf_89 := hw_86.1
        clear hw_86
        have rg_r_87 := i32r r_87
        refine lv_istore (lv' := [(4, .int r_87), (3, .int 3), (0, .ref A_self), (1, .int a1), (2, .int L2)]) hx hb dX7_take_41 hl (by decide) rfl (fun ls hl => ?_)
        refine lv_aload_n hx hb dX7_take_43 rfl (lv_at hl 2 rfl) ?_
        refine va_get (D := D) (ci := 7) (v := .ref (q 55)) (C := RX7) (T := TX7) (N := 56) hx hb hts (fun _ h => List.mem_cons_of_mem _ (List.mem_append_right _ h)) hown hK hP 0 rfl rfl 55 (by decide) (hts (.fieldLink RX7 118 "CrownTableModel" "cloth" "[I") (mem_i 2 rfl)) (fun _ h9 => h9) rfl dX7_take_44 ?_
        refine lv_iload_n hx hb dX7_take_47 rfl (lv_at hl 1 rfl) ?_
        refine va_iald hx hb hK hP 1 1 rfl rfl (vin (a := 3) (by decide) (by decide) (by decide)) dX7_take_48 ?_
        refine lv_topi (fun x_90 ex_90 => ?_)
        have lf_91 : (M_cloth 3).toInt = x_90.toInt := by rw [ex_90]; rfl
        refine lv_iload hx hb dX7_take_49 (lv_at hl 0 rfl) ?_
        refine iicmp_ge (a := x_90.toInt) (b := r_87.toInt) (tgt := 119) hx hb rfl rfl dX7_take_51 (by decide) (fun k_92 => ?_) (fun k_92 => ?_)
        · skip
          refine lv_aload_n hx hb dX7_take_119 rfl (lv_at hl 2 rfl) ?_
          refine va_get (D := D) (ci := 7) (v := .ref (q 55)) (C := RX7) (T := TX7) (N := 56) hx hb hts (fun _ h => List.mem_cons_of_mem _ (List.mem_append_right _ h)) hown hK hP 0 rfl rfl 55 (by decide) (hts (.fieldLink RX7 118 "CrownTableModel" "cloth" "[I") (mem_i 2 rfl)) (fun _ h9 => h9) rfl dX7_take_120 ?_
          refine lv_iload_n hx hb dX7_take_123 rfl (lv_at hl 1 rfl) ?_
          refine lv_dup2_11 hx hb dX7_take_124 rfl rfl ?_
          refine va_iald hx hb hK hP 1 1 rfl rfl (vin (a := 3) (by decide) (by decide) (by decide)) dX7_take_125 ?_
          refine lv_topi (fun x_93 ex_93 => ?_)
          have lf_94 : (M_cloth 3).toInt = x_93.toInt := by rw [ex_93]; rfl
          refine lv_iload hx hb dX7_take_126 (lv_at hl 0 rfl) ?_
          refine lv_isub hx hb dX7_take_128 ?_
          refine lv_topi (fun x_95 ex_95 => ?_)
          have tx_95 : x_95.toInt = (x_93.toInt - r_87.toInt) := by rw [ex_95]; exact sub_ti (a := x_93.toInt) (b := r_87.toInt) rfl rfl (by omega) (by omega)
          refine va_iast hx hb hK hP hD hS 1 1 rfl rfl (vin (a := 3) (by decide) (by decide) (by decide)) dX7_take_129 (fun H locs hP hD hS => ?_)
          obtain ⟨f_96, ef_96, hP, hD⟩ : ∃ f_96 : Nat → Int32, f_96 = upd M_cloth (3 : Int32).toNatClampNeg x_95 ∧ va_P D vwCl [(A_self, .inr (7, o7 q v w)), (q 55, .inl (c 1, 6, .inl f_96))] H ∧ va_D A [(A_self, .inr (7, o7 q v w)), (q 55, .inl (c 1, 6, .inl f_96))] := ⟨_, rfl, hP, hD⟩
          have cl_97 : (f_96 0).toInt = (M_cloth 0).toInt := by rw [ef_96]; rfl
          have cl_98 : (f_96 1).toInt = (M_cloth 1).toInt := by rw [ef_96]; rfl
          have cl_99 : (f_96 2).toInt = (M_cloth 2).toInt := by rw [ef_96]; rfl
          have cl_100 : (f_96 3).toInt = x_95.toInt := by rw [ef_96]; rfl
          have cl_101 : (f_96 4).toInt = (M_cloth 4).toInt := by rw [ef_96]; rfl
          have cl_102 : (f_96 5).toInt = (M_cloth 5).toInt := by rw [ef_96]; rfl
          refine lv_iinc (v := 4) (lv' := [(3, .int 4), (4, .int r_87), (0, .ref A_self), (1, .int a1), (2, .int L2)]) hx hb dX7_take_130 hl (k := 1) rfl (by decide) (by decide) rfl (fun ls hl => ?_)
          refine lv_goto (tgt := 30) hx hb dX7_take_133 (by decide) ?_
          have hl := lv_sub hl [0, 2, 3, 4] rfl
          exact lp_30_4 L2 f_96 (by omega) (by omega) (by omega) (by omega) (by omega) (by omega) (by omega) _ _ _ hP hD hS hl
        · skip
          refine lv_iload_n hx hb dX7_take_54 rfl (lv_at hl 1 rfl) ?_
          refine lv_iconst (v := 1) hx hb dX7_take_55 (by decide) ?_
          refine lv_iadd hx hb dX7_take_56 ?_
          refine lk_i (y := 4) (by decide) ?_
          refine lv_istore (lv' := [(5, .int 4), (4, .int r_87), (3, .int 3), (0, .ref A_self), (1, .int a1), (2, .int L2)]) hx hb dX7_take_57 hl (by decide) rfl (fun ls hl => ?_)
          refine lv_aload_n hx hb dX7_take_59 rfl (lv_at hl 3 rfl) ?_
          refine va_get (D := D) (ci := 7) (v := .ref (q 55)) (C := RX7) (T := TX7) (N := 56) hx hb hts (fun _ h => List.mem_cons_of_mem _ (List.mem_append_right _ h)) hown hK hP 0 rfl rfl 55 (by decide) (hts (.fieldLink RX7 118 "CrownTableModel" "cloth" "[I") (mem_i 2 rfl)) (fun _ h9 => h9) rfl dX7_take_60 ?_
          refine lv_iload hx hb dX7_take_63 (lv_at hl 0 rfl) ?_
          refine va_iald hx hb hK hP 1 1 rfl rfl (vin (a := 4) (by decide) (by decide) (by decide)) dX7_take_65 ?_
          refine lv_topi (fun x_103 ex_103 => ?_)
          have lf_104 : (M_cloth 4).toInt = x_103.toInt := by rw [ex_103]; rfl
          refine iif_ne (a := x_103.toInt) (tgt := 75) hx hb rfl dX7_take_66 (by decide) (fun k_105 => ?_) (fun k_105 => ?_)
          · skip
            refine lv_iload hx hb dX7_take_75 (lv_at hl 0 rfl) ?_
            refine lv_iload_n hx hb dX7_take_77 rfl (lv_at hl 2 rfl) ?_
            refine iicmp_leF (a := 4) (b := 3) (tgt := 116) hx hb (by decide) (by decide) dX7_take_78 (by decide) (by decide) ?_
            refine lv_aload_n hx hb dX7_take_81 rfl (lv_at hl 3 rfl) ?_
            refine va_get (D := D) (ci := 7) (v := .ref (q 55)) (C := RX7) (T := TX7) (N := 56) hx hb hts (fun _ h => List.mem_cons_of_mem _ (List.mem_append_right _ h)) hown hK hP 0 rfl rfl 55 (by decide) (hts (.fieldLink RX7 118 "CrownTableModel" "cloth" "[I") (mem_i 2 rfl)) (fun _ h9 => h9) rfl dX7_take_82 ?_
            refine lv_iload hx hb dX7_take_85 (lv_at hl 0 rfl) ?_
            refine lv_dup2_11 hx hb dX7_take_87 rfl rfl ?_
            refine va_iald hx hb hK hP 1 1 rfl rfl (vin (a := 4) (by decide) (by decide) (by decide)) dX7_take_88 ?_
            refine lv_topi (fun x_106 ex_106 => ?_)
            have lf_107 : (M_cloth 4).toInt = x_106.toInt := by rw [ex_106]; rfl
            refine lv_iconst (v := 1) hx hb dX7_take_89 (by decide) ?_
            refine lv_isub hx hb dX7_take_90 ?_
            refine lv_topi (fun x_108 ex_108 => ?_)
            have tx_108 : x_108.toInt = (x_106.toInt - 1) := by rw [ex_108]; exact sub_ti (a := x_106.toInt) (b := 1) rfl (by decide) (by omega) (by omega)
            refine va_iast hx hb hK hP hD hS 1 1 rfl rfl (vin (a := 4) (by decide) (by decide) (by decide)) dX7_take_91 (fun H locs hP hD hS => ?_)
            obtain ⟨f_109, ef_109, hP, hD⟩ : ∃ f_109 : Nat → Int32, f_109 = upd M_cloth (4 : Int32).toNatClampNeg x_108 ∧ va_P D vwCl [(A_self, .inr (7, o7 q v w)), (q 55, .inl (c 1, 6, .inl f_109))] H ∧ va_D A [(A_self, .inr (7, o7 q v w)), (q 55, .inl (c 1, 6, .inl f_109))] := ⟨_, rfl, hP, hD⟩
            have cl_110 : (f_109 0).toInt = (M_cloth 0).toInt := by rw [ef_109]; rfl
            have cl_111 : (f_109 1).toInt = (M_cloth 1).toInt := by rw [ef_109]; rfl
            have cl_112 : (f_109 2).toInt = (M_cloth 2).toInt := by rw [ef_109]; rfl
            have cl_113 : (f_109 3).toInt = (M_cloth 3).toInt := by rw [ef_109]; rfl
            have cl_114 : (f_109 4).toInt = x_108.toInt := by rw [ef_109]; rfl
            have cl_115 : (f_109 5).toInt = (M_cloth 5).toInt := by rw [ef_109]; rfl
            refine lv_iinc (v := 3) (lv' := [(5, .int 3), (4, .int r_87), (3, .int 3), (0, .ref A_self), (1, .int a1), (2, .int L2)]) hx hb dX7_take_92 hl (k := 0) rfl (by decide) (by decide) rfl (fun ls hl => ?_)
            refine lv_aload_n hx hb dX7_take_95 rfl (lv_at hl 3 rfl) ?_
            refine va_get (D := D) (ci := 7) (v := .ref (q 55)) (C := RX7) (T := TX7) (N := 56) hx hb hts (fun _ h => List.mem_cons_of_mem _ (List.mem_append_right _ h)) hown hK hP 0 rfl rfl 55 (by decide) (hts (.fieldLink RX7 118 "CrownTableModel" "cloth" "[I") (mem_i 2 rfl)) (fun _ h9 => h9) rfl dX7_take_96 ?_
            refine lv_iload hx hb dX7_take_99 (lv_at hl 0 rfl) ?_
            refine lv_dup2_11 hx hb dX7_take_101 rfl rfl ?_
            refine va_iald hx hb hK hP 1 1 rfl rfl (vin (a := 3) (by decide) (by decide) (by decide)) dX7_take_102 ?_
            refine lv_topi (fun x_116 ex_116 => ?_)
            have lf_117 : (f_109 3).toInt = x_116.toInt := by rw [ex_116]; rfl
            refine lv_iload hx hb dX7_take_103 (lv_at hl 0 rfl) ?_
            have hPc := hP.sub (ws' := []) [] rfl
            have hDc := hD.sub (ws' := []) [] (by decide) rfl
            have hFc := va_free (wc := []) hD hS hA [] rfl
            have kzz_118 : (3 : Int32).toInt = 3 := by decide
            refine va_csi (va_runS (As := [.int 3]) (rest := [.int x_116, .int 3, .ref (q 55)]) ⟨hx, hb, hml, hown, hts⟩ (k_X7_next l D c ts H.size 3 3 (by decide) (by omega)) (cwS 1 hts gX7_take_X7_next rfl rfl rfl ⟨rfl, hdX7_next⟩ ⟨(show 1 + 1 ≤ 2 by decide), (show 8 + (1 + 11) + 20 ≤ 43 by decide)⟩) ⟨Pre0.blind, Pre0.at hPc hDc hAm hSt hS hFc⟩ rfl rfl hl.1 rfl (lv_room (Nat.le_of_ble_eq_true rfl)) dX7_take_105 ⟨(show 0 + 0 ≤ 0 by decide), (show 0 + 0 ≤ 0 by decide)⟩) (fun r_120 hw_119 => ?_)
            rcases hw_119 with ⟨hw_119, rfl⟩ | ⟨hw_119, rfl⟩ | ⟨hw_119, rfl⟩ | ⟨hw_119, rfl⟩
            · exfalso; omega
            · exfalso; omega
            · skip
              refine lv_iadd hx hb dX7_take_108 ?_
              refine lv_topi (fun x_121 ex_121 => ?_)
              have tx_121 : x_121.toInt = (x_116.toInt + 5) := by rw [ex_121]; exact add_ti (a := x_116.toInt) (b := 5) rfl (by decide) (by omega) (by omega)
              refine va_iast hx hb hK hP hD hS 1 1 rfl rfl (vin (a := 3) (by decide) (by decide) (by decide)) dX7_take_109 (fun H locs hP hD hS => ?_)
              obtain ⟨f_122, ef_122, hP, hD⟩ : ∃ f_122 : Nat → Int32, f_122 = upd f_109 (3 : Int32).toNatClampNeg x_121 ∧ va_P D vwCl [(A_self, .inr (7, o7 q v w)), (q 55, .inl (c 1, 6, .inl f_122))] H ∧ va_D A [(A_self, .inr (7, o7 q v w)), (q 55, .inl (c 1, 6, .inl f_122))] := ⟨_, rfl, hP, hD⟩
              have cl_123 : (f_122 0).toInt = (f_109 0).toInt := by rw [ef_122]; rfl
              have cl_124 : (f_122 1).toInt = (f_109 1).toInt := by rw [ef_122]; rfl
              have cl_125 : (f_122 2).toInt = (f_109 2).toInt := by rw [ef_122]; rfl
              have cl_126 : (f_122 3).toInt = x_121.toInt := by rw [ef_122]; rfl
              have cl_127 : (f_122 4).toInt = (f_109 4).toInt := by rw [ef_122]; rfl
              have cl_128 : (f_122 5).toInt = (f_109 5).toInt := by rw [ef_122]; rfl
              obtain ⟨x_129, ex_129⟩ : ∃ y : Int32, y = L2 + 1 := ⟨_, rfl⟩
              refine lv_iinc (v := x_129) (lv' := [(2, .int x_129), (5, .int 3), (4, .int r_87), (3, .int 3), (0, .ref A_self), (1, .int a1)]) hx hb dX7_take_110 hl (k := 5) rfl (by rw [ex_129]; rfl) (by decide) rfl (fun ls hl => ?_)
              refine lv_goto (tgt := 75) hx hb dX7_take_113 (by decide) ?_
              refine lv_iload hx hb dX7_take_75 (lv_at hl 1 rfl) ?_
              refine lv_iload_n hx hb dX7_take_77 rfl (lv_at hl 3 rfl) ?_
              refine iicmp_leT (a := 3) (b := 3) (tgt := 116) hx hb (by decide) (by decide) dX7_take_78 (by decide) (by decide) ?_
              refine lv_goto (tgt := 43) hx hb dX7_take_116 (by decide) ?_
              refine lv_aload_n hx hb dX7_take_43 rfl (lv_at hl 4 rfl) ?_
              refine va_get (D := D) (ci := 7) (v := .ref (q 55)) (C := RX7) (T := TX7) (N := 56) hx hb hts (fun _ h => List.mem_cons_of_mem _ (List.mem_append_right _ h)) hown hK hP 0 rfl rfl 55 (by decide) (hts (.fieldLink RX7 118 "CrownTableModel" "cloth" "[I") (mem_i 2 rfl)) (fun _ h9 => h9) rfl dX7_take_44 ?_
              refine lv_iload_n hx hb dX7_take_47 rfl (lv_at hl 3 rfl) ?_
              refine va_iald hx hb hK hP 1 1 rfl rfl (vin (a := 3) (by decide) (by decide) (by decide)) dX7_take_48 ?_
              refine lv_topi (fun x_130 ex_130 => ?_)
              have lf_131 : (f_122 3).toInt = x_130.toInt := by rw [ex_130]; rfl
              refine lv_iload hx hb dX7_take_49 (lv_at hl 2 rfl) ?_
              refine iicmp_ge (a := x_130.toInt) (b := r_87.toInt) (tgt := 119) hx hb rfl rfl dX7_take_51 (by decide) (fun k_132 => ?_) (fun k_132 => ?_)
              · skip
                refine lv_aload_n hx hb dX7_take_119 rfl (lv_at hl 4 rfl) ?_
                refine va_get (D := D) (ci := 7) (v := .ref (q 55)) (C := RX7) (T := TX7) (N := 56) hx hb hts (fun _ h => List.mem_cons_of_mem _ (List.mem_append_right _ h)) hown hK hP 0 rfl rfl 55 (by decide) (hts (.fieldLink RX7 118 "CrownTableModel" "cloth" "[I") (mem_i 2 rfl)) (fun _ h9 => h9) rfl dX7_take_120 ?_
                refine lv_iload_n hx hb dX7_take_123 rfl (lv_at hl 3 rfl) ?_
                refine lv_dup2_11 hx hb dX7_take_124 rfl rfl ?_
                refine va_iald hx hb hK hP 1 1 rfl rfl (vin (a := 3) (by decide) (by decide) (by decide)) dX7_take_125 ?_
                refine lv_topi (fun x_133 ex_133 => ?_)
                have lf_134 : (f_122 3).toInt = x_133.toInt := by rw [ex_133]; rfl
                refine lv_iload hx hb dX7_take_126 (lv_at hl 2 rfl) ?_
                refine lv_isub hx hb dX7_take_128 ?_
                refine lv_topi (fun x_135 ex_135 => ?_)
                have tx_135 : x_135.toInt = (x_133.toInt - r_87.toInt) := by rw [ex_135]; exact sub_ti (a := x_133.toInt) (b := r_87.toInt) rfl rfl (by omega) (by omega)
                refine va_iast hx hb hK hP hD hS 1 1 rfl rfl (vin (a := 3) (by decide) (by decide) (by decide)) dX7_take_129 (fun H locs hP hD hS => ?_)
                obtain ⟨f_136, ef_136, hP, hD⟩ : ∃ f_136 : Nat → Int32, f_136 = upd f_122 (3 : Int32).toNatClampNeg x_135 ∧ va_P D vwCl [(A_self, .inr (7, o7 q v w)), (q 55, .inl (c 1, 6, .inl f_136))] H ∧ va_D A [(A_self, .inr (7, o7 q v w)), (q 55, .inl (c 1, 6, .inl f_136))] := ⟨_, rfl, hP, hD⟩
                have cl_137 : (f_136 0).toInt = (f_122 0).toInt := by rw [ef_136]; rfl
                have cl_138 : (f_136 1).toInt = (f_122 1).toInt := by rw [ef_136]; rfl
                have cl_139 : (f_136 2).toInt = (f_122 2).toInt := by rw [ef_136]; rfl
                have cl_140 : (f_136 3).toInt = x_135.toInt := by rw [ef_136]; rfl
                have cl_141 : (f_136 4).toInt = (f_122 4).toInt := by rw [ef_136]; rfl
                have cl_142 : (f_136 5).toInt = (f_122 5).toInt := by rw [ef_136]; rfl
                refine lv_iinc (v := 4) (lv' := [(3, .int 4), (2, .int x_129), (5, .int 3), (4, .int r_87), (0, .ref A_self), (1, .int a1)]) hx hb dX7_take_130 hl (k := 3) rfl (by decide) (by decide) rfl (fun ls hl => ?_)
                refine lv_goto (tgt := 30) hx hb dX7_take_133 (by decide) ?_
                have hl := lv_sub hl [0, 4, 5, 1] rfl
                exact lp_30_4 x_129 f_136 (by omega) (by omega) (by omega) (by omega) (by omega) (by omega) (by omega) _ _ _ hP hD hS hl
              · skip
                exfalso; omega
            · exfalso; omega
          · skip
            refine lv_iinc (v := 5) (lv' := [(5, .int 5), (4, .int r_87), (3, .int 3), (0, .ref A_self), (1, .int a1), (2, .int L2)]) hx hb dX7_take_69 hl (k := 0) rfl (by decide) (by decide) rfl (fun ls hl => ?_)
            refine lv_goto (tgt := 59) hx hb dX7_take_72 (by decide) ?_
            refine lv_aload_n hx hb dX7_take_59 rfl (lv_at hl 3 rfl) ?_
            refine va_get (D := D) (ci := 7) (v := .ref (q 55)) (C := RX7) (T := TX7) (N := 56) hx hb hts (fun _ h => List.mem_cons_of_mem _ (List.mem_append_right _ h)) hown hK hP 0 rfl rfl 55 (by decide) (hts (.fieldLink RX7 118 "CrownTableModel" "cloth" "[I") (mem_i 2 rfl)) (fun _ h9 => h9) rfl dX7_take_60 ?_
            refine lv_iload hx hb dX7_take_63 (lv_at hl 0 rfl) ?_
            refine va_iald hx hb hK hP 1 1 rfl rfl (vin (a := 5) (by decide) (by decide) (by decide)) dX7_take_65 ?_
            refine lv_topi (fun x_143 ex_143 => ?_)
            have lf_144 : (M_cloth 5).toInt = x_143.toInt := by rw [ex_143]; rfl
            refine iif_ne (a := x_143.toInt) (tgt := 75) hx hb rfl dX7_take_66 (by decide) (fun k_145 => ?_) (fun k_145 => ?_)
            · skip
              refine lv_iload hx hb dX7_take_75 (lv_at hl 0 rfl) ?_
              refine lv_iload_n hx hb dX7_take_77 rfl (lv_at hl 2 rfl) ?_
              refine iicmp_leF (a := 5) (b := 3) (tgt := 116) hx hb (by decide) (by decide) dX7_take_78 (by decide) (by decide) ?_
              refine lv_aload_n hx hb dX7_take_81 rfl (lv_at hl 3 rfl) ?_
              refine va_get (D := D) (ci := 7) (v := .ref (q 55)) (C := RX7) (T := TX7) (N := 56) hx hb hts (fun _ h => List.mem_cons_of_mem _ (List.mem_append_right _ h)) hown hK hP 0 rfl rfl 55 (by decide) (hts (.fieldLink RX7 118 "CrownTableModel" "cloth" "[I") (mem_i 2 rfl)) (fun _ h9 => h9) rfl dX7_take_82 ?_
              refine lv_iload hx hb dX7_take_85 (lv_at hl 0 rfl) ?_
              refine lv_dup2_11 hx hb dX7_take_87 rfl rfl ?_
              refine va_iald hx hb hK hP 1 1 rfl rfl (vin (a := 5) (by decide) (by decide) (by decide)) dX7_take_88 ?_
              refine lv_topi (fun x_146 ex_146 => ?_)
              have lf_147 : (M_cloth 5).toInt = x_146.toInt := by rw [ex_146]; rfl
              refine lv_iconst (v := 1) hx hb dX7_take_89 (by decide) ?_
              refine lv_isub hx hb dX7_take_90 ?_
              refine lv_topi (fun x_148 ex_148 => ?_)
              have tx_148 : x_148.toInt = (x_146.toInt - 1) := by rw [ex_148]; exact sub_ti (a := x_146.toInt) (b := 1) rfl (by decide) (by omega) (by omega)
              refine va_iast hx hb hK hP hD hS 1 1 rfl rfl (vin (a := 5) (by decide) (by decide) (by decide)) dX7_take_91 (fun H locs hP hD hS => ?_)
              obtain ⟨f_149, ef_149, hP, hD⟩ : ∃ f_149 : Nat → Int32, f_149 = upd M_cloth (5 : Int32).toNatClampNeg x_148 ∧ va_P D vwCl [(A_self, .inr (7, o7 q v w)), (q 55, .inl (c 1, 6, .inl f_149))] H ∧ va_D A [(A_self, .inr (7, o7 q v w)), (q 55, .inl (c 1, 6, .inl f_149))] := ⟨_, rfl, hP, hD⟩
              have cl_150 : (f_149 0).toInt = (M_cloth 0).toInt := by rw [ef_149]; rfl
              have cl_151 : (f_149 1).toInt = (M_cloth 1).toInt := by rw [ef_149]; rfl
              have cl_152 : (f_149 2).toInt = (M_cloth 2).toInt := by rw [ef_149]; rfl
              have cl_153 : (f_149 3).toInt = (M_cloth 3).toInt := by rw [ef_149]; rfl
              have cl_154 : (f_149 4).toInt = (M_cloth 4).toInt := by rw [ef_149]; rfl
              have cl_155 : (f_149 5).toInt = x_148.toInt := by rw [ef_149]; rfl
              refine lv_iinc (v := 4) (lv' := [(5, .int 4), (4, .int r_87), (3, .int 3), (0, .ref A_self), (1, .int a1), (2, .int L2)]) hx hb dX7_take_92 hl (k := 0) rfl (by decide) (by decide) rfl (fun ls hl => ?_)
              refine lv_aload_n hx hb dX7_take_95 rfl (lv_at hl 3 rfl) ?_
              refine va_get (D := D) (ci := 7) (v := .ref (q 55)) (C := RX7) (T := TX7) (N := 56) hx hb hts (fun _ h => List.mem_cons_of_mem _ (List.mem_append_right _ h)) hown hK hP 0 rfl rfl 55 (by decide) (hts (.fieldLink RX7 118 "CrownTableModel" "cloth" "[I") (mem_i 2 rfl)) (fun _ h9 => h9) rfl dX7_take_96 ?_
              refine lv_iload hx hb dX7_take_99 (lv_at hl 0 rfl) ?_
              refine lv_dup2_11 hx hb dX7_take_101 rfl rfl ?_
              refine va_iald hx hb hK hP 1 1 rfl rfl (vin (a := 4) (by decide) (by decide) (by decide)) dX7_take_102 ?_
              refine lv_topi (fun x_156 ex_156 => ?_)
              have lf_157 : (f_149 4).toInt = x_156.toInt := by rw [ex_156]; rfl
              refine lv_iload hx hb dX7_take_103 (lv_at hl 0 rfl) ?_
              have hPc := hP.sub (ws' := []) [] rfl
              have hDc := hD.sub (ws' := []) [] (by decide) rfl
              have hFc := va_free (wc := []) hD hS hA [] rfl
              have kzz_158 : (4 : Int32).toInt = 4 := by decide
              refine va_csi (va_runS (As := [.int 4]) (rest := [.int x_156, .int 4, .ref (q 55)]) ⟨hx, hb, hml, hown, hts⟩ (k_X7_next l D c ts H.size 4 4 (by decide) (by omega)) (cwS 1 hts gX7_take_X7_next rfl rfl rfl ⟨rfl, hdX7_next⟩ ⟨(show 1 + 1 ≤ 2 by decide), (show 8 + (1 + 11) + 20 ≤ 43 by decide)⟩) ⟨Pre0.blind, Pre0.at hPc hDc hAm hSt hS hFc⟩ rfl rfl hl.1 rfl (lv_room (Nat.le_of_ble_eq_true rfl)) dX7_take_105 ⟨(show 0 + 0 ≤ 0 by decide), (show 0 + 0 ≤ 0 by decide)⟩) (fun r_160 hw_159 => ?_)
              rcases hw_159 with ⟨hw_159, rfl⟩ | ⟨hw_159, rfl⟩ | ⟨hw_159, rfl⟩ | ⟨hw_159, rfl⟩
              · exfalso; omega
              · exfalso; omega
              · exfalso; omega
              · skip
                refine lv_iadd hx hb dX7_take_108 ?_
                refine lv_topi (fun x_161 ex_161 => ?_)
                have tx_161 : x_161.toInt = (x_156.toInt + 10) := by rw [ex_161]; exact add_ti (a := x_156.toInt) (b := 10) rfl (by decide) (by omega) (by omega)
                refine va_iast hx hb hK hP hD hS 1 1 rfl rfl (vin (a := 4) (by decide) (by decide) (by decide)) dX7_take_109 (fun H locs hP hD hS => ?_)
                obtain ⟨f_162, ef_162, hP, hD⟩ : ∃ f_162 : Nat → Int32, f_162 = upd f_149 (4 : Int32).toNatClampNeg x_161 ∧ va_P D vwCl [(A_self, .inr (7, o7 q v w)), (q 55, .inl (c 1, 6, .inl f_162))] H ∧ va_D A [(A_self, .inr (7, o7 q v w)), (q 55, .inl (c 1, 6, .inl f_162))] := ⟨_, rfl, hP, hD⟩
                have cl_163 : (f_162 0).toInt = (f_149 0).toInt := by rw [ef_162]; rfl
                have cl_164 : (f_162 1).toInt = (f_149 1).toInt := by rw [ef_162]; rfl
                have cl_165 : (f_162 2).toInt = (f_149 2).toInt := by rw [ef_162]; rfl
                have cl_166 : (f_162 3).toInt = (f_149 3).toInt := by rw [ef_162]; rfl
                have cl_167 : (f_162 4).toInt = x_161.toInt := by rw [ef_162]; rfl
                have cl_168 : (f_162 5).toInt = (f_149 5).toInt := by rw [ef_162]; rfl
                obtain ⟨x_169, ex_169⟩ : ∃ y : Int32, y = L2 + 1 := ⟨_, rfl⟩
                refine lv_iinc (v := x_169) (lv' := [(2, .int x_169), (5, .int 4), (4, .int r_87), (3, .int 3), (0, .ref A_self), (1, .int a1)]) hx hb dX7_take_110 hl (k := 5) rfl (by rw [ex_169]; rfl) (by decide) rfl (fun ls hl => ?_)
                refine lv_goto (tgt := 75) hx hb dX7_take_113 (by decide) ?_
                refine lv_iload hx hb dX7_take_75 (lv_at hl 1 rfl) ?_
                refine lv_iload_n hx hb dX7_take_77 rfl (lv_at hl 3 rfl) ?_
                refine iicmp_leF (a := 4) (b := 3) (tgt := 116) hx hb (by decide) (by decide) dX7_take_78 (by decide) (by decide) ?_
                refine lv_aload_n hx hb dX7_take_81 rfl (lv_at hl 4 rfl) ?_
                refine va_get (D := D) (ci := 7) (v := .ref (q 55)) (C := RX7) (T := TX7) (N := 56) hx hb hts (fun _ h => List.mem_cons_of_mem _ (List.mem_append_right _ h)) hown hK hP 0 rfl rfl 55 (by decide) (hts (.fieldLink RX7 118 "CrownTableModel" "cloth" "[I") (mem_i 2 rfl)) (fun _ h9 => h9) rfl dX7_take_82 ?_
                refine lv_iload hx hb dX7_take_85 (lv_at hl 1 rfl) ?_
                refine lv_dup2_11 hx hb dX7_take_87 rfl rfl ?_
                refine va_iald hx hb hK hP 1 1 rfl rfl (vin (a := 4) (by decide) (by decide) (by decide)) dX7_take_88 ?_
                refine lv_topi (fun x_170 ex_170 => ?_)
                have lf_171 : (f_162 4).toInt = x_170.toInt := by rw [ex_170]; rfl
                refine lv_iconst (v := 1) hx hb dX7_take_89 (by decide) ?_
                refine lv_isub hx hb dX7_take_90 ?_
                refine lv_topi (fun x_172 ex_172 => ?_)
                have tx_172 : x_172.toInt = (x_170.toInt - 1) := by rw [ex_172]; exact sub_ti (a := x_170.toInt) (b := 1) rfl (by decide) (by omega) (by omega)
                refine va_iast hx hb hK hP hD hS 1 1 rfl rfl (vin (a := 4) (by decide) (by decide) (by decide)) dX7_take_91 (fun H locs hP hD hS => ?_)
                obtain ⟨f_173, ef_173, hP, hD⟩ : ∃ f_173 : Nat → Int32, f_173 = upd f_162 (4 : Int32).toNatClampNeg x_172 ∧ va_P D vwCl [(A_self, .inr (7, o7 q v w)), (q 55, .inl (c 1, 6, .inl f_173))] H ∧ va_D A [(A_self, .inr (7, o7 q v w)), (q 55, .inl (c 1, 6, .inl f_173))] := ⟨_, rfl, hP, hD⟩
                have cl_174 : (f_173 0).toInt = (f_162 0).toInt := by rw [ef_173]; rfl
                have cl_175 : (f_173 1).toInt = (f_162 1).toInt := by rw [ef_173]; rfl
                have cl_176 : (f_173 2).toInt = (f_162 2).toInt := by rw [ef_173]; rfl
                have cl_177 : (f_173 3).toInt = (f_162 3).toInt := by rw [ef_173]; rfl
                have cl_178 : (f_173 4).toInt = x_172.toInt := by rw [ef_173]; rfl
                have cl_179 : (f_173 5).toInt = (f_162 5).toInt := by rw [ef_173]; rfl
                refine lv_iinc (v := 3) (lv' := [(5, .int 3), (2, .int x_169), (4, .int r_87), (3, .int 3), (0, .ref A_self), (1, .int a1)]) hx hb dX7_take_92 hl (k := 1) rfl (by decide) (by decide) rfl (fun ls hl => ?_)
                refine lv_aload_n hx hb dX7_take_95 rfl (lv_at hl 4 rfl) ?_
                refine va_get (D := D) (ci := 7) (v := .ref (q 55)) (C := RX7) (T := TX7) (N := 56) hx hb hts (fun _ h => List.mem_cons_of_mem _ (List.mem_append_right _ h)) hown hK hP 0 rfl rfl 55 (by decide) (hts (.fieldLink RX7 118 "CrownTableModel" "cloth" "[I") (mem_i 2 rfl)) (fun _ h9 => h9) rfl dX7_take_96 ?_
                refine lv_iload hx hb dX7_take_99 (lv_at hl 0 rfl) ?_
                refine lv_dup2_11 hx hb dX7_take_101 rfl rfl ?_
                refine va_iald hx hb hK hP 1 1 rfl rfl (vin (a := 3) (by decide) (by decide) (by decide)) dX7_take_102 ?_
                refine lv_topi (fun x_180 ex_180 => ?_)
                have lf_181 : (f_173 3).toInt = x_180.toInt := by rw [ex_180]; rfl
                refine lv_iload hx hb dX7_take_103 (lv_at hl 0 rfl) ?_
                have hPc := hP.sub (ws' := []) [] rfl
                have hDc := hD.sub (ws' := []) [] (by decide) rfl
                have hFc := va_free (wc := []) hD hS hA [] rfl
                have kzz_182 : (3 : Int32).toInt = 3 := by decide
                refine va_csi (va_runS (As := [.int 3]) (rest := [.int x_180, .int 3, .ref (q 55)]) ⟨hx, hb, hml, hown, hts⟩ (k_X7_next l D c ts H.size 3 3 (by decide) (by omega)) (cwS 1 hts gX7_take_X7_next rfl rfl rfl ⟨rfl, hdX7_next⟩ ⟨(show 1 + 1 ≤ 2 by decide), (show 8 + (1 + 11) + 20 ≤ 43 by decide)⟩) ⟨Pre0.blind, Pre0.at hPc hDc hAm hSt hS hFc⟩ rfl rfl hl.1 rfl (lv_room (Nat.le_of_ble_eq_true rfl)) dX7_take_105 ⟨(show 0 + 0 ≤ 0 by decide), (show 0 + 0 ≤ 0 by decide)⟩) (fun r_184 hw_183 => ?_)
                rcases hw_183 with ⟨hw_183, rfl⟩ | ⟨hw_183, rfl⟩ | ⟨hw_183, rfl⟩ | ⟨hw_183, rfl⟩
                · exfalso; omega
                · exfalso; omega
                · skip
                  refine lv_iadd hx hb dX7_take_108 ?_
                  refine lv_topi (fun x_185 ex_185 => ?_)
                  have tx_185 : x_185.toInt = (x_180.toInt + 5) := by rw [ex_185]; exact add_ti (a := x_180.toInt) (b := 5) rfl (by decide) (by omega) (by omega)
                  refine va_iast hx hb hK hP hD hS 1 1 rfl rfl (vin (a := 3) (by decide) (by decide) (by decide)) dX7_take_109 (fun H locs hP hD hS => ?_)
                  obtain ⟨f_186, ef_186, hP, hD⟩ : ∃ f_186 : Nat → Int32, f_186 = upd f_173 (3 : Int32).toNatClampNeg x_185 ∧ va_P D vwCl [(A_self, .inr (7, o7 q v w)), (q 55, .inl (c 1, 6, .inl f_186))] H ∧ va_D A [(A_self, .inr (7, o7 q v w)), (q 55, .inl (c 1, 6, .inl f_186))] := ⟨_, rfl, hP, hD⟩
                  have cl_187 : (f_186 0).toInt = (f_173 0).toInt := by rw [ef_186]; rfl
                  have cl_188 : (f_186 1).toInt = (f_173 1).toInt := by rw [ef_186]; rfl
                  have cl_189 : (f_186 2).toInt = (f_173 2).toInt := by rw [ef_186]; rfl
                  have cl_190 : (f_186 3).toInt = x_185.toInt := by rw [ef_186]; rfl
                  have cl_191 : (f_186 4).toInt = (f_173 4).toInt := by rw [ef_186]; rfl
                  have cl_192 : (f_186 5).toInt = (f_173 5).toInt := by rw [ef_186]; rfl
                  obtain ⟨x_193, ex_193⟩ : ∃ y : Int32, y = x_169 + 1 := ⟨_, rfl⟩
                  refine lv_iinc (v := x_193) (lv' := [(2, .int x_193), (5, .int 3), (4, .int r_87), (3, .int 3), (0, .ref A_self), (1, .int a1)]) hx hb dX7_take_110 hl (k := 1) rfl (by rw [ex_193]; rfl) (by decide) rfl (fun ls hl => ?_)
                  refine lv_goto (tgt := 75) hx hb dX7_take_113 (by decide) ?_
                  refine lv_iload hx hb dX7_take_75 (lv_at hl 1 rfl) ?_
                  refine lv_iload_n hx hb dX7_take_77 rfl (lv_at hl 3 rfl) ?_
                  refine iicmp_leT (a := 3) (b := 3) (tgt := 116) hx hb (by decide) (by decide) dX7_take_78 (by decide) (by decide) ?_
                  refine lv_goto (tgt := 43) hx hb dX7_take_116 (by decide) ?_
                  refine lv_aload_n hx hb dX7_take_43 rfl (lv_at hl 4 rfl) ?_
                  refine va_get (D := D) (ci := 7) (v := .ref (q 55)) (C := RX7) (T := TX7) (N := 56) hx hb hts (fun _ h => List.mem_cons_of_mem _ (List.mem_append_right _ h)) hown hK hP 0 rfl rfl 55 (by decide) (hts (.fieldLink RX7 118 "CrownTableModel" "cloth" "[I") (mem_i 2 rfl)) (fun _ h9 => h9) rfl dX7_take_44 ?_
                  refine lv_iload_n hx hb dX7_take_47 rfl (lv_at hl 3 rfl) ?_
                  refine va_iald hx hb hK hP 1 1 rfl rfl (vin (a := 3) (by decide) (by decide) (by decide)) dX7_take_48 ?_
                  refine lv_topi (fun x_194 ex_194 => ?_)
                  have lf_195 : (f_186 3).toInt = x_194.toInt := by rw [ex_194]; rfl
                  refine lv_iload hx hb dX7_take_49 (lv_at hl 2 rfl) ?_
                  refine iicmp_ge (a := x_194.toInt) (b := r_87.toInt) (tgt := 119) hx hb rfl rfl dX7_take_51 (by decide) (fun k_196 => ?_) (fun k_196 => ?_)
                  · skip
                    refine lv_aload_n hx hb dX7_take_119 rfl (lv_at hl 4 rfl) ?_
                    refine va_get (D := D) (ci := 7) (v := .ref (q 55)) (C := RX7) (T := TX7) (N := 56) hx hb hts (fun _ h => List.mem_cons_of_mem _ (List.mem_append_right _ h)) hown hK hP 0 rfl rfl 55 (by decide) (hts (.fieldLink RX7 118 "CrownTableModel" "cloth" "[I") (mem_i 2 rfl)) (fun _ h9 => h9) rfl dX7_take_120 ?_
                    refine lv_iload_n hx hb dX7_take_123 rfl (lv_at hl 3 rfl) ?_
                    refine lv_dup2_11 hx hb dX7_take_124 rfl rfl ?_
                    refine va_iald hx hb hK hP 1 1 rfl rfl (vin (a := 3) (by decide) (by decide) (by decide)) dX7_take_125 ?_
                    refine lv_topi (fun x_197 ex_197 => ?_)
                    have lf_198 : (f_186 3).toInt = x_197.toInt := by rw [ex_197]; rfl
                    refine lv_iload hx hb dX7_take_126 (lv_at hl 2 rfl) ?_
                    refine lv_isub hx hb dX7_take_128 ?_
                    refine lv_topi (fun x_199 ex_199 => ?_)
                    have tx_199 : x_199.toInt = (x_197.toInt - r_87.toInt) := by rw [ex_199]; exact sub_ti (a := x_197.toInt) (b := r_87.toInt) rfl rfl (by omega) (by omega)
                    refine va_iast hx hb hK hP hD hS 1 1 rfl rfl (vin (a := 3) (by decide) (by decide) (by decide)) dX7_take_129 (fun H locs hP hD hS => ?_)
                    obtain ⟨f_200, ef_200, hP, hD⟩ : ∃ f_200 : Nat → Int32, f_200 = upd f_186 (3 : Int32).toNatClampNeg x_199 ∧ va_P D vwCl [(A_self, .inr (7, o7 q v w)), (q 55, .inl (c 1, 6, .inl f_200))] H ∧ va_D A [(A_self, .inr (7, o7 q v w)), (q 55, .inl (c 1, 6, .inl f_200))] := ⟨_, rfl, hP, hD⟩
                    have cl_201 : (f_200 0).toInt = (f_186 0).toInt := by rw [ef_200]; rfl
                    have cl_202 : (f_200 1).toInt = (f_186 1).toInt := by rw [ef_200]; rfl
                    have cl_203 : (f_200 2).toInt = (f_186 2).toInt := by rw [ef_200]; rfl
                    have cl_204 : (f_200 3).toInt = x_199.toInt := by rw [ef_200]; rfl
                    have cl_205 : (f_200 4).toInt = (f_186 4).toInt := by rw [ef_200]; rfl
                    have cl_206 : (f_200 5).toInt = (f_186 5).toInt := by rw [ef_200]; rfl
                    refine lv_iinc (v := 4) (lv' := [(3, .int 4), (2, .int x_193), (5, .int 3), (4, .int r_87), (0, .ref A_self), (1, .int a1)]) hx hb dX7_take_130 hl (k := 3) rfl (by decide) (by decide) rfl (fun ls hl => ?_)
                    refine lv_goto (tgt := 30) hx hb dX7_take_133 (by decide) ?_
                    have hl := lv_sub hl [0, 4, 5, 1] rfl
                    exact lp_30_4 x_193 f_200 (by omega) (by omega) (by omega) (by omega) (by omega) (by omega) (by omega) _ _ _ hP hD hS hl
                  · skip
                    exfalso; omega
                · exfalso; omega
            · skip
              exfalso; omega
      have lp_30_2 : ∀ (L2 : Int32) (M_cloth : Nat → Int32) (hf30_2_0 : 0 ≤ (M_cloth 0).toInt ∧ (M_cloth 0).toInt ≤ 11) (hf30_2_1 : 0 ≤ (M_cloth 1).toInt ∧ (M_cloth 1).toInt ≤ 19) (hf30_2_2 : 0 ≤ (M_cloth 2).toInt ∧ (M_cloth 2).toInt ≤ 19) (hf30_2_3 : 0 ≤ (M_cloth 3).toInt ∧ (M_cloth 3).toInt ≤ 4) (hf30_2_4 : 0 ≤ (M_cloth 4).toInt ∧ (M_cloth 4).toInt ≤ 9) (hf30_2_5 : 0 ≤ (M_cloth 5).toInt ∧ (M_cloth 5).toInt ≤ cb) (hf30_2_6 : 240 * (i_a1 / 240) ≤ 240 * (M_cloth 2).toInt + 4800 * (M_cloth 3).toInt + 24000 * (M_cloth 4).toInt + 240000 * (M_cloth 5).toInt) (H : Heap) (locs : List Loc) (ls : Array Slot), va_P D vwCl [(A_self, .inr (7, o7 q v w)), (q 55, .inl (c 1, 6, .inl M_cloth))] H → va_D A [(A_self, .inr (7, o7 q v w)), (q 55, .inl (c 1, 6, .inl M_cloth))] → va_S A s.heap H locs → lv_has ls 6 [(3, .int 2), (0, .ref A_self), (1, .int a1), (2, .int L2)] → W p l e (headSpec wsX7_take ({ frames := 2, cells := 0, slots := 0, locals := 43 })).room s m (([.ref A_self, .int a1] : List Value).toArray) below meth cd H locs 0 0 (MQ below (va_Qi (fun (r : Int32) (u : (Nat → Int32) × Unit) => (0 ≤ (u.1 0).toInt ∧ (u.1 0).toInt ≤ 11) ∧ (0 ≤ (u.1 1).toInt ∧ (u.1 1).toInt ≤ 19) ∧ (0 ≤ (u.1 2).toInt ∧ (u.1 2).toInt ≤ 19) ∧ (0 ≤ (u.1 3).toInt ∧ (u.1 3).toInt ≤ 4) ∧ (0 ≤ (u.1 4).toInt ∧ (u.1 4).toInt ≤ 9) ∧ (0 ≤ (u.1 5).toInt ∧ (u.1 5).toInt ≤ cb)) (fun u t => va_P D vwCl [(A_self, .inr (7, o7 q v w)), (q 55, .inl (c 1, 6, .inl u.1))] t.heap ∧ va_D A [(A_self, .inr (7, o7 q v w)), (q 55, .inl (c 1, 6, .inl u.1))]) A) ([.ref A_self, .int a1] : List Value).toArray s 0 0 A) (F0 m 30 ls []) := by
        intro L2 M_cloth hf30_2_0 hf30_2_1 hf30_2_2 hf30_2_3 hf30_2_4 hf30_2_5 hf30_2_6 H locs ls hP hD hS hl
        have rg_L2 := i32r L2
        refine lv_iload_n hx hb dX7_take_30 rfl (lv_at hl 0 rfl) ?_
        refine lv_bipush (v := 6) hx hb dX7_take_31 (by decide) ?_
        refine iicmp_geF (a := 2) (b := 6) (tgt := 136) hx hb (by decide) (by decide) dX7_take_33 (by decide) (by decide) ?_
        refine lv_iload_n hx hb dX7_take_36 rfl (lv_at hl 2 rfl) ?_
        refine lv_iload_n hx hb dX7_take_37 rfl (lv_at hl 0 rfl) ?_
        have hPc := hP.sub (ws' := []) [] rfl
        have hDc := hD.sub (ws' := []) [] (by decide) rfl
        have hFc := va_free (wc := []) hD hS hA [] rfl
        have kzz_207 : (2 : Int32).toInt = 2 := by decide
        refine va_csi (va_runS (As := [.int a1, .int 2]) (rest := []) ⟨hx, hb, hml, hown, hts⟩ (k_X7_notch_P l D c ts H.size a1 i_a1 hi_a1 2 2 (by decide) (by omega) (by omega)) (cwS 2 hts gX7_take_X7_notch rfl rfl rfl ⟨rfl, hdX7_notch⟩ ⟨(show 1 + 1 ≤ 2 by decide), (show 8 + (2 + 11) + 20 ≤ 43 by decide)⟩) ⟨Pre0.blind, Pre0.at hPc hDc hAm hSt hS hFc⟩ rfl rfl hl.1 rfl (lv_room (Nat.le_of_ble_eq_true rfl)) dX7_take_38 ⟨(show 0 + 0 ≤ 0 by decide), (show 0 + 0 ≤ 0 by decide)⟩) (fun r_209 hw_208 => ?_)
        have nf_210 := hw_208.2.2.2.1 rfl
        have nf_211 := hw_208.1
        clear hw_208
        have rg_r_209 := i32r r_209
        refine lv_istore (lv' := [(4, .int r_209), (3, .int 2), (0, .ref A_self), (1, .int a1), (2, .int L2)]) hx hb dX7_take_41 hl (by decide) rfl (fun ls hl => ?_)
        refine lv_aload_n hx hb dX7_take_43 rfl (lv_at hl 2 rfl) ?_
        refine va_get (D := D) (ci := 7) (v := .ref (q 55)) (C := RX7) (T := TX7) (N := 56) hx hb hts (fun _ h => List.mem_cons_of_mem _ (List.mem_append_right _ h)) hown hK hP 0 rfl rfl 55 (by decide) (hts (.fieldLink RX7 118 "CrownTableModel" "cloth" "[I") (mem_i 2 rfl)) (fun _ h9 => h9) rfl dX7_take_44 ?_
        refine lv_iload_n hx hb dX7_take_47 rfl (lv_at hl 1 rfl) ?_
        refine va_iald hx hb hK hP 1 1 rfl rfl (vin (a := 2) (by decide) (by decide) (by decide)) dX7_take_48 ?_
        refine lv_topi (fun x_212 ex_212 => ?_)
        have lf_213 : (M_cloth 2).toInt = x_212.toInt := by rw [ex_212]; rfl
        refine lv_iload hx hb dX7_take_49 (lv_at hl 0 rfl) ?_
        refine iicmp_ge (a := x_212.toInt) (b := r_209.toInt) (tgt := 119) hx hb rfl rfl dX7_take_51 (by decide) (fun k_214 => ?_) (fun k_214 => ?_)
        · skip
          refine lv_aload_n hx hb dX7_take_119 rfl (lv_at hl 2 rfl) ?_
          refine va_get (D := D) (ci := 7) (v := .ref (q 55)) (C := RX7) (T := TX7) (N := 56) hx hb hts (fun _ h => List.mem_cons_of_mem _ (List.mem_append_right _ h)) hown hK hP 0 rfl rfl 55 (by decide) (hts (.fieldLink RX7 118 "CrownTableModel" "cloth" "[I") (mem_i 2 rfl)) (fun _ h9 => h9) rfl dX7_take_120 ?_
          refine lv_iload_n hx hb dX7_take_123 rfl (lv_at hl 1 rfl) ?_
          refine lv_dup2_11 hx hb dX7_take_124 rfl rfl ?_
          refine va_iald hx hb hK hP 1 1 rfl rfl (vin (a := 2) (by decide) (by decide) (by decide)) dX7_take_125 ?_
          refine lv_topi (fun x_215 ex_215 => ?_)
          have lf_216 : (M_cloth 2).toInt = x_215.toInt := by rw [ex_215]; rfl
          refine lv_iload hx hb dX7_take_126 (lv_at hl 0 rfl) ?_
          refine lv_isub hx hb dX7_take_128 ?_
          refine lv_topi (fun x_217 ex_217 => ?_)
          have tx_217 : x_217.toInt = (x_215.toInt - r_209.toInt) := by rw [ex_217]; exact sub_ti (a := x_215.toInt) (b := r_209.toInt) rfl rfl (by omega) (by omega)
          refine va_iast hx hb hK hP hD hS 1 1 rfl rfl (vin (a := 2) (by decide) (by decide) (by decide)) dX7_take_129 (fun H locs hP hD hS => ?_)
          obtain ⟨f_218, ef_218, hP, hD⟩ : ∃ f_218 : Nat → Int32, f_218 = upd M_cloth (2 : Int32).toNatClampNeg x_217 ∧ va_P D vwCl [(A_self, .inr (7, o7 q v w)), (q 55, .inl (c 1, 6, .inl f_218))] H ∧ va_D A [(A_self, .inr (7, o7 q v w)), (q 55, .inl (c 1, 6, .inl f_218))] := ⟨_, rfl, hP, hD⟩
          have cl_219 : (f_218 0).toInt = (M_cloth 0).toInt := by rw [ef_218]; rfl
          have cl_220 : (f_218 1).toInt = (M_cloth 1).toInt := by rw [ef_218]; rfl
          have cl_221 : (f_218 2).toInt = x_217.toInt := by rw [ef_218]; rfl
          have cl_222 : (f_218 3).toInt = (M_cloth 3).toInt := by rw [ef_218]; rfl
          have cl_223 : (f_218 4).toInt = (M_cloth 4).toInt := by rw [ef_218]; rfl
          have cl_224 : (f_218 5).toInt = (M_cloth 5).toInt := by rw [ef_218]; rfl
          refine lv_iinc (v := 3) (lv' := [(3, .int 3), (4, .int r_209), (0, .ref A_self), (1, .int a1), (2, .int L2)]) hx hb dX7_take_130 hl (k := 1) rfl (by decide) (by decide) rfl (fun ls hl => ?_)
          refine lv_goto (tgt := 30) hx hb dX7_take_133 (by decide) ?_
          have hl := lv_sub hl [0, 2, 3, 4] rfl
          exact lp_30_3 L2 f_218 (by omega) (by omega) (by omega) (by omega) (by omega) (by omega) (by omega) _ _ _ hP hD hS hl
        · skip
          refine lv_iload_n hx hb dX7_take_54 rfl (lv_at hl 1 rfl) ?_
          refine lv_iconst (v := 1) hx hb dX7_take_55 (by decide) ?_
          refine lv_iadd hx hb dX7_take_56 ?_
          refine lk_i (y := 3) (by decide) ?_
          refine lv_istore (lv' := [(5, .int 3), (4, .int r_209), (3, .int 2), (0, .ref A_self), (1, .int a1), (2, .int L2)]) hx hb dX7_take_57 hl (by decide) rfl (fun ls hl => ?_)
          refine lv_aload_n hx hb dX7_take_59 rfl (lv_at hl 3 rfl) ?_
          refine va_get (D := D) (ci := 7) (v := .ref (q 55)) (C := RX7) (T := TX7) (N := 56) hx hb hts (fun _ h => List.mem_cons_of_mem _ (List.mem_append_right _ h)) hown hK hP 0 rfl rfl 55 (by decide) (hts (.fieldLink RX7 118 "CrownTableModel" "cloth" "[I") (mem_i 2 rfl)) (fun _ h9 => h9) rfl dX7_take_60 ?_
          refine lv_iload hx hb dX7_take_63 (lv_at hl 0 rfl) ?_
          refine va_iald hx hb hK hP 1 1 rfl rfl (vin (a := 3) (by decide) (by decide) (by decide)) dX7_take_65 ?_
          refine lv_topi (fun x_225 ex_225 => ?_)
          have lf_226 : (M_cloth 3).toInt = x_225.toInt := by rw [ex_225]; rfl
          refine iif_ne (a := x_225.toInt) (tgt := 75) hx hb rfl dX7_take_66 (by decide) (fun k_227 => ?_) (fun k_227 => ?_)
          · skip
            refine lv_iload hx hb dX7_take_75 (lv_at hl 0 rfl) ?_
            refine lv_iload_n hx hb dX7_take_77 rfl (lv_at hl 2 rfl) ?_
            refine iicmp_leF (a := 3) (b := 2) (tgt := 116) hx hb (by decide) (by decide) dX7_take_78 (by decide) (by decide) ?_
            refine lv_aload_n hx hb dX7_take_81 rfl (lv_at hl 3 rfl) ?_
            refine va_get (D := D) (ci := 7) (v := .ref (q 55)) (C := RX7) (T := TX7) (N := 56) hx hb hts (fun _ h => List.mem_cons_of_mem _ (List.mem_append_right _ h)) hown hK hP 0 rfl rfl 55 (by decide) (hts (.fieldLink RX7 118 "CrownTableModel" "cloth" "[I") (mem_i 2 rfl)) (fun _ h9 => h9) rfl dX7_take_82 ?_
            refine lv_iload hx hb dX7_take_85 (lv_at hl 0 rfl) ?_
            refine lv_dup2_11 hx hb dX7_take_87 rfl rfl ?_
            refine va_iald hx hb hK hP 1 1 rfl rfl (vin (a := 3) (by decide) (by decide) (by decide)) dX7_take_88 ?_
            refine lv_topi (fun x_228 ex_228 => ?_)
            have lf_229 : (M_cloth 3).toInt = x_228.toInt := by rw [ex_228]; rfl
            refine lv_iconst (v := 1) hx hb dX7_take_89 (by decide) ?_
            refine lv_isub hx hb dX7_take_90 ?_
            refine lv_topi (fun x_230 ex_230 => ?_)
            have tx_230 : x_230.toInt = (x_228.toInt - 1) := by rw [ex_230]; exact sub_ti (a := x_228.toInt) (b := 1) rfl (by decide) (by omega) (by omega)
            refine va_iast hx hb hK hP hD hS 1 1 rfl rfl (vin (a := 3) (by decide) (by decide) (by decide)) dX7_take_91 (fun H locs hP hD hS => ?_)
            obtain ⟨f_231, ef_231, hP, hD⟩ : ∃ f_231 : Nat → Int32, f_231 = upd M_cloth (3 : Int32).toNatClampNeg x_230 ∧ va_P D vwCl [(A_self, .inr (7, o7 q v w)), (q 55, .inl (c 1, 6, .inl f_231))] H ∧ va_D A [(A_self, .inr (7, o7 q v w)), (q 55, .inl (c 1, 6, .inl f_231))] := ⟨_, rfl, hP, hD⟩
            have cl_232 : (f_231 0).toInt = (M_cloth 0).toInt := by rw [ef_231]; rfl
            have cl_233 : (f_231 1).toInt = (M_cloth 1).toInt := by rw [ef_231]; rfl
            have cl_234 : (f_231 2).toInt = (M_cloth 2).toInt := by rw [ef_231]; rfl
            have cl_235 : (f_231 3).toInt = x_230.toInt := by rw [ef_231]; rfl
            have cl_236 : (f_231 4).toInt = (M_cloth 4).toInt := by rw [ef_231]; rfl
            have cl_237 : (f_231 5).toInt = (M_cloth 5).toInt := by rw [ef_231]; rfl
            refine lv_iinc (v := 2) (lv' := [(5, .int 2), (4, .int r_209), (3, .int 2), (0, .ref A_self), (1, .int a1), (2, .int L2)]) hx hb dX7_take_92 hl (k := 0) rfl (by decide) (by decide) rfl (fun ls hl => ?_)
            refine lv_aload_n hx hb dX7_take_95 rfl (lv_at hl 3 rfl) ?_
            refine va_get (D := D) (ci := 7) (v := .ref (q 55)) (C := RX7) (T := TX7) (N := 56) hx hb hts (fun _ h => List.mem_cons_of_mem _ (List.mem_append_right _ h)) hown hK hP 0 rfl rfl 55 (by decide) (hts (.fieldLink RX7 118 "CrownTableModel" "cloth" "[I") (mem_i 2 rfl)) (fun _ h9 => h9) rfl dX7_take_96 ?_
            refine lv_iload hx hb dX7_take_99 (lv_at hl 0 rfl) ?_
            refine lv_dup2_11 hx hb dX7_take_101 rfl rfl ?_
            refine va_iald hx hb hK hP 1 1 rfl rfl (vin (a := 2) (by decide) (by decide) (by decide)) dX7_take_102 ?_
            refine lv_topi (fun x_238 ex_238 => ?_)
            have lf_239 : (f_231 2).toInt = x_238.toInt := by rw [ex_238]; rfl
            refine lv_iload hx hb dX7_take_103 (lv_at hl 0 rfl) ?_
            have hPc := hP.sub (ws' := []) [] rfl
            have hDc := hD.sub (ws' := []) [] (by decide) rfl
            have hFc := va_free (wc := []) hD hS hA [] rfl
            have kzz_240 : (2 : Int32).toInt = 2 := by decide
            refine va_csi (va_runS (As := [.int 2]) (rest := [.int x_238, .int 2, .ref (q 55)]) ⟨hx, hb, hml, hown, hts⟩ (k_X7_next l D c ts H.size 2 2 (by decide) (by omega)) (cwS 1 hts gX7_take_X7_next rfl rfl rfl ⟨rfl, hdX7_next⟩ ⟨(show 1 + 1 ≤ 2 by decide), (show 8 + (1 + 11) + 20 ≤ 43 by decide)⟩) ⟨Pre0.blind, Pre0.at hPc hDc hAm hSt hS hFc⟩ rfl rfl hl.1 rfl (lv_room (Nat.le_of_ble_eq_true rfl)) dX7_take_105 ⟨(show 0 + 0 ≤ 0 by decide), (show 0 + 0 ≤ 0 by decide)⟩) (fun r_242 hw_241 => ?_)
            rcases hw_241 with ⟨hw_241, rfl⟩ | ⟨hw_241, rfl⟩ | ⟨hw_241, rfl⟩ | ⟨hw_241, rfl⟩
            · exfalso; omega
            · skip
              refine lv_iadd hx hb dX7_take_108 ?_
              refine lv_topi (fun x_243 ex_243 => ?_)
              have tx_243 : x_243.toInt = (x_238.toInt + 20) := by rw [ex_243]; exact add_ti (a := x_238.toInt) (b := 20) rfl (by decide) (by omega) (by omega)
              refine va_iast hx hb hK hP hD hS 1 1 rfl rfl (vin (a := 2) (by decide) (by decide) (by decide)) dX7_take_109 (fun H locs hP hD hS => ?_)
              obtain ⟨f_244, ef_244, hP, hD⟩ : ∃ f_244 : Nat → Int32, f_244 = upd f_231 (2 : Int32).toNatClampNeg x_243 ∧ va_P D vwCl [(A_self, .inr (7, o7 q v w)), (q 55, .inl (c 1, 6, .inl f_244))] H ∧ va_D A [(A_self, .inr (7, o7 q v w)), (q 55, .inl (c 1, 6, .inl f_244))] := ⟨_, rfl, hP, hD⟩
              have cl_245 : (f_244 0).toInt = (f_231 0).toInt := by rw [ef_244]; rfl
              have cl_246 : (f_244 1).toInt = (f_231 1).toInt := by rw [ef_244]; rfl
              have cl_247 : (f_244 2).toInt = x_243.toInt := by rw [ef_244]; rfl
              have cl_248 : (f_244 3).toInt = (f_231 3).toInt := by rw [ef_244]; rfl
              have cl_249 : (f_244 4).toInt = (f_231 4).toInt := by rw [ef_244]; rfl
              have cl_250 : (f_244 5).toInt = (f_231 5).toInt := by rw [ef_244]; rfl
              obtain ⟨x_251, ex_251⟩ : ∃ y : Int32, y = L2 + 1 := ⟨_, rfl⟩
              refine lv_iinc (v := x_251) (lv' := [(2, .int x_251), (5, .int 2), (4, .int r_209), (3, .int 2), (0, .ref A_self), (1, .int a1)]) hx hb dX7_take_110 hl (k := 5) rfl (by rw [ex_251]; rfl) (by decide) rfl (fun ls hl => ?_)
              refine lv_goto (tgt := 75) hx hb dX7_take_113 (by decide) ?_
              refine lv_iload hx hb dX7_take_75 (lv_at hl 1 rfl) ?_
              refine lv_iload_n hx hb dX7_take_77 rfl (lv_at hl 3 rfl) ?_
              refine iicmp_leT (a := 2) (b := 2) (tgt := 116) hx hb (by decide) (by decide) dX7_take_78 (by decide) (by decide) ?_
              refine lv_goto (tgt := 43) hx hb dX7_take_116 (by decide) ?_
              refine lv_aload_n hx hb dX7_take_43 rfl (lv_at hl 4 rfl) ?_
              refine va_get (D := D) (ci := 7) (v := .ref (q 55)) (C := RX7) (T := TX7) (N := 56) hx hb hts (fun _ h => List.mem_cons_of_mem _ (List.mem_append_right _ h)) hown hK hP 0 rfl rfl 55 (by decide) (hts (.fieldLink RX7 118 "CrownTableModel" "cloth" "[I") (mem_i 2 rfl)) (fun _ h9 => h9) rfl dX7_take_44 ?_
              refine lv_iload_n hx hb dX7_take_47 rfl (lv_at hl 3 rfl) ?_
              refine va_iald hx hb hK hP 1 1 rfl rfl (vin (a := 2) (by decide) (by decide) (by decide)) dX7_take_48 ?_
              refine lv_topi (fun x_252 ex_252 => ?_)
              have lf_253 : (f_244 2).toInt = x_252.toInt := by rw [ex_252]; rfl
              refine lv_iload hx hb dX7_take_49 (lv_at hl 2 rfl) ?_
              refine iicmp_ge (a := x_252.toInt) (b := r_209.toInt) (tgt := 119) hx hb rfl rfl dX7_take_51 (by decide) (fun k_254 => ?_) (fun k_254 => ?_)
              · skip
                refine lv_aload_n hx hb dX7_take_119 rfl (lv_at hl 4 rfl) ?_
                refine va_get (D := D) (ci := 7) (v := .ref (q 55)) (C := RX7) (T := TX7) (N := 56) hx hb hts (fun _ h => List.mem_cons_of_mem _ (List.mem_append_right _ h)) hown hK hP 0 rfl rfl 55 (by decide) (hts (.fieldLink RX7 118 "CrownTableModel" "cloth" "[I") (mem_i 2 rfl)) (fun _ h9 => h9) rfl dX7_take_120 ?_
                refine lv_iload_n hx hb dX7_take_123 rfl (lv_at hl 3 rfl) ?_
                refine lv_dup2_11 hx hb dX7_take_124 rfl rfl ?_
                refine va_iald hx hb hK hP 1 1 rfl rfl (vin (a := 2) (by decide) (by decide) (by decide)) dX7_take_125 ?_
                refine lv_topi (fun x_255 ex_255 => ?_)
                have lf_256 : (f_244 2).toInt = x_255.toInt := by rw [ex_255]; rfl
                refine lv_iload hx hb dX7_take_126 (lv_at hl 2 rfl) ?_
                refine lv_isub hx hb dX7_take_128 ?_
                refine lv_topi (fun x_257 ex_257 => ?_)
                have tx_257 : x_257.toInt = (x_255.toInt - r_209.toInt) := by rw [ex_257]; exact sub_ti (a := x_255.toInt) (b := r_209.toInt) rfl rfl (by omega) (by omega)
                refine va_iast hx hb hK hP hD hS 1 1 rfl rfl (vin (a := 2) (by decide) (by decide) (by decide)) dX7_take_129 (fun H locs hP hD hS => ?_)
                obtain ⟨f_258, ef_258, hP, hD⟩ : ∃ f_258 : Nat → Int32, f_258 = upd f_244 (2 : Int32).toNatClampNeg x_257 ∧ va_P D vwCl [(A_self, .inr (7, o7 q v w)), (q 55, .inl (c 1, 6, .inl f_258))] H ∧ va_D A [(A_self, .inr (7, o7 q v w)), (q 55, .inl (c 1, 6, .inl f_258))] := ⟨_, rfl, hP, hD⟩
                have cl_259 : (f_258 0).toInt = (f_244 0).toInt := by rw [ef_258]; rfl
                have cl_260 : (f_258 1).toInt = (f_244 1).toInt := by rw [ef_258]; rfl
                have cl_261 : (f_258 2).toInt = x_257.toInt := by rw [ef_258]; rfl
                have cl_262 : (f_258 3).toInt = (f_244 3).toInt := by rw [ef_258]; rfl
                have cl_263 : (f_258 4).toInt = (f_244 4).toInt := by rw [ef_258]; rfl
                have cl_264 : (f_258 5).toInt = (f_244 5).toInt := by rw [ef_258]; rfl
                refine lv_iinc (v := 3) (lv' := [(3, .int 3), (2, .int x_251), (5, .int 2), (4, .int r_209), (0, .ref A_self), (1, .int a1)]) hx hb dX7_take_130 hl (k := 3) rfl (by decide) (by decide) rfl (fun ls hl => ?_)
                refine lv_goto (tgt := 30) hx hb dX7_take_133 (by decide) ?_
                have hl := lv_sub hl [0, 4, 5, 1] rfl
                exact lp_30_3 x_251 f_258 (by omega) (by omega) (by omega) (by omega) (by omega) (by omega) (by omega) _ _ _ hP hD hS hl
              · skip
                exfalso; omega
            · exfalso; omega
            · exfalso; omega
          · skip
            refine lv_iinc (v := 4) (lv' := [(5, .int 4), (4, .int r_209), (3, .int 2), (0, .ref A_self), (1, .int a1), (2, .int L2)]) hx hb dX7_take_69 hl (k := 0) rfl (by decide) (by decide) rfl (fun ls hl => ?_)
            refine lv_goto (tgt := 59) hx hb dX7_take_72 (by decide) ?_
            refine lv_aload_n hx hb dX7_take_59 rfl (lv_at hl 3 rfl) ?_
            refine va_get (D := D) (ci := 7) (v := .ref (q 55)) (C := RX7) (T := TX7) (N := 56) hx hb hts (fun _ h => List.mem_cons_of_mem _ (List.mem_append_right _ h)) hown hK hP 0 rfl rfl 55 (by decide) (hts (.fieldLink RX7 118 "CrownTableModel" "cloth" "[I") (mem_i 2 rfl)) (fun _ h9 => h9) rfl dX7_take_60 ?_
            refine lv_iload hx hb dX7_take_63 (lv_at hl 0 rfl) ?_
            refine va_iald hx hb hK hP 1 1 rfl rfl (vin (a := 4) (by decide) (by decide) (by decide)) dX7_take_65 ?_
            refine lv_topi (fun x_265 ex_265 => ?_)
            have lf_266 : (M_cloth 4).toInt = x_265.toInt := by rw [ex_265]; rfl
            refine iif_ne (a := x_265.toInt) (tgt := 75) hx hb rfl dX7_take_66 (by decide) (fun k_267 => ?_) (fun k_267 => ?_)
            · skip
              refine lv_iload hx hb dX7_take_75 (lv_at hl 0 rfl) ?_
              refine lv_iload_n hx hb dX7_take_77 rfl (lv_at hl 2 rfl) ?_
              refine iicmp_leF (a := 4) (b := 2) (tgt := 116) hx hb (by decide) (by decide) dX7_take_78 (by decide) (by decide) ?_
              refine lv_aload_n hx hb dX7_take_81 rfl (lv_at hl 3 rfl) ?_
              refine va_get (D := D) (ci := 7) (v := .ref (q 55)) (C := RX7) (T := TX7) (N := 56) hx hb hts (fun _ h => List.mem_cons_of_mem _ (List.mem_append_right _ h)) hown hK hP 0 rfl rfl 55 (by decide) (hts (.fieldLink RX7 118 "CrownTableModel" "cloth" "[I") (mem_i 2 rfl)) (fun _ h9 => h9) rfl dX7_take_82 ?_
              refine lv_iload hx hb dX7_take_85 (lv_at hl 0 rfl) ?_
              refine lv_dup2_11 hx hb dX7_take_87 rfl rfl ?_
              refine va_iald hx hb hK hP 1 1 rfl rfl (vin (a := 4) (by decide) (by decide) (by decide)) dX7_take_88 ?_
              refine lv_topi (fun x_268 ex_268 => ?_)
              have lf_269 : (M_cloth 4).toInt = x_268.toInt := by rw [ex_268]; rfl
              refine lv_iconst (v := 1) hx hb dX7_take_89 (by decide) ?_
              refine lv_isub hx hb dX7_take_90 ?_
              refine lv_topi (fun x_270 ex_270 => ?_)
              have tx_270 : x_270.toInt = (x_268.toInt - 1) := by rw [ex_270]; exact sub_ti (a := x_268.toInt) (b := 1) rfl (by decide) (by omega) (by omega)
              refine va_iast hx hb hK hP hD hS 1 1 rfl rfl (vin (a := 4) (by decide) (by decide) (by decide)) dX7_take_91 (fun H locs hP hD hS => ?_)
              obtain ⟨f_271, ef_271, hP, hD⟩ : ∃ f_271 : Nat → Int32, f_271 = upd M_cloth (4 : Int32).toNatClampNeg x_270 ∧ va_P D vwCl [(A_self, .inr (7, o7 q v w)), (q 55, .inl (c 1, 6, .inl f_271))] H ∧ va_D A [(A_self, .inr (7, o7 q v w)), (q 55, .inl (c 1, 6, .inl f_271))] := ⟨_, rfl, hP, hD⟩
              have cl_272 : (f_271 0).toInt = (M_cloth 0).toInt := by rw [ef_271]; rfl
              have cl_273 : (f_271 1).toInt = (M_cloth 1).toInt := by rw [ef_271]; rfl
              have cl_274 : (f_271 2).toInt = (M_cloth 2).toInt := by rw [ef_271]; rfl
              have cl_275 : (f_271 3).toInt = (M_cloth 3).toInt := by rw [ef_271]; rfl
              have cl_276 : (f_271 4).toInt = x_270.toInt := by rw [ef_271]; rfl
              have cl_277 : (f_271 5).toInt = (M_cloth 5).toInt := by rw [ef_271]; rfl
              refine lv_iinc (v := 3) (lv' := [(5, .int 3), (4, .int r_209), (3, .int 2), (0, .ref A_self), (1, .int a1), (2, .int L2)]) hx hb dX7_take_92 hl (k := 0) rfl (by decide) (by decide) rfl (fun ls hl => ?_)
              refine lv_aload_n hx hb dX7_take_95 rfl (lv_at hl 3 rfl) ?_
              refine va_get (D := D) (ci := 7) (v := .ref (q 55)) (C := RX7) (T := TX7) (N := 56) hx hb hts (fun _ h => List.mem_cons_of_mem _ (List.mem_append_right _ h)) hown hK hP 0 rfl rfl 55 (by decide) (hts (.fieldLink RX7 118 "CrownTableModel" "cloth" "[I") (mem_i 2 rfl)) (fun _ h9 => h9) rfl dX7_take_96 ?_
              refine lv_iload hx hb dX7_take_99 (lv_at hl 0 rfl) ?_
              refine lv_dup2_11 hx hb dX7_take_101 rfl rfl ?_
              refine va_iald hx hb hK hP 1 1 rfl rfl (vin (a := 3) (by decide) (by decide) (by decide)) dX7_take_102 ?_
              refine lv_topi (fun x_278 ex_278 => ?_)
              have lf_279 : (f_271 3).toInt = x_278.toInt := by rw [ex_278]; rfl
              refine lv_iload hx hb dX7_take_103 (lv_at hl 0 rfl) ?_
              have hPc := hP.sub (ws' := []) [] rfl
              have hDc := hD.sub (ws' := []) [] (by decide) rfl
              have hFc := va_free (wc := []) hD hS hA [] rfl
              have kzz_280 : (3 : Int32).toInt = 3 := by decide
              refine va_csi (va_runS (As := [.int 3]) (rest := [.int x_278, .int 3, .ref (q 55)]) ⟨hx, hb, hml, hown, hts⟩ (k_X7_next l D c ts H.size 3 3 (by decide) (by omega)) (cwS 1 hts gX7_take_X7_next rfl rfl rfl ⟨rfl, hdX7_next⟩ ⟨(show 1 + 1 ≤ 2 by decide), (show 8 + (1 + 11) + 20 ≤ 43 by decide)⟩) ⟨Pre0.blind, Pre0.at hPc hDc hAm hSt hS hFc⟩ rfl rfl hl.1 rfl (lv_room (Nat.le_of_ble_eq_true rfl)) dX7_take_105 ⟨(show 0 + 0 ≤ 0 by decide), (show 0 + 0 ≤ 0 by decide)⟩) (fun r_282 hw_281 => ?_)
              rcases hw_281 with ⟨hw_281, rfl⟩ | ⟨hw_281, rfl⟩ | ⟨hw_281, rfl⟩ | ⟨hw_281, rfl⟩
              · exfalso; omega
              · exfalso; omega
              · skip
                refine lv_iadd hx hb dX7_take_108 ?_
                refine lv_topi (fun x_283 ex_283 => ?_)
                have tx_283 : x_283.toInt = (x_278.toInt + 5) := by rw [ex_283]; exact add_ti (a := x_278.toInt) (b := 5) rfl (by decide) (by omega) (by omega)
                refine va_iast hx hb hK hP hD hS 1 1 rfl rfl (vin (a := 3) (by decide) (by decide) (by decide)) dX7_take_109 (fun H locs hP hD hS => ?_)
                obtain ⟨f_284, ef_284, hP, hD⟩ : ∃ f_284 : Nat → Int32, f_284 = upd f_271 (3 : Int32).toNatClampNeg x_283 ∧ va_P D vwCl [(A_self, .inr (7, o7 q v w)), (q 55, .inl (c 1, 6, .inl f_284))] H ∧ va_D A [(A_self, .inr (7, o7 q v w)), (q 55, .inl (c 1, 6, .inl f_284))] := ⟨_, rfl, hP, hD⟩
                have cl_285 : (f_284 0).toInt = (f_271 0).toInt := by rw [ef_284]; rfl
                have cl_286 : (f_284 1).toInt = (f_271 1).toInt := by rw [ef_284]; rfl
                have cl_287 : (f_284 2).toInt = (f_271 2).toInt := by rw [ef_284]; rfl
                have cl_288 : (f_284 3).toInt = x_283.toInt := by rw [ef_284]; rfl
                have cl_289 : (f_284 4).toInt = (f_271 4).toInt := by rw [ef_284]; rfl
                have cl_290 : (f_284 5).toInt = (f_271 5).toInt := by rw [ef_284]; rfl
                obtain ⟨x_291, ex_291⟩ : ∃ y : Int32, y = L2 + 1 := ⟨_, rfl⟩
                refine lv_iinc (v := x_291) (lv' := [(2, .int x_291), (5, .int 3), (4, .int r_209), (3, .int 2), (0, .ref A_self), (1, .int a1)]) hx hb dX7_take_110 hl (k := 5) rfl (by rw [ex_291]; rfl) (by decide) rfl (fun ls hl => ?_)
                refine lv_goto (tgt := 75) hx hb dX7_take_113 (by decide) ?_
                refine lv_iload hx hb dX7_take_75 (lv_at hl 1 rfl) ?_
                refine lv_iload_n hx hb dX7_take_77 rfl (lv_at hl 3 rfl) ?_
                refine iicmp_leF (a := 3) (b := 2) (tgt := 116) hx hb (by decide) (by decide) dX7_take_78 (by decide) (by decide) ?_
                refine lv_aload_n hx hb dX7_take_81 rfl (lv_at hl 4 rfl) ?_
                refine va_get (D := D) (ci := 7) (v := .ref (q 55)) (C := RX7) (T := TX7) (N := 56) hx hb hts (fun _ h => List.mem_cons_of_mem _ (List.mem_append_right _ h)) hown hK hP 0 rfl rfl 55 (by decide) (hts (.fieldLink RX7 118 "CrownTableModel" "cloth" "[I") (mem_i 2 rfl)) (fun _ h9 => h9) rfl dX7_take_82 ?_
                refine lv_iload hx hb dX7_take_85 (lv_at hl 1 rfl) ?_
                refine lv_dup2_11 hx hb dX7_take_87 rfl rfl ?_
                refine va_iald hx hb hK hP 1 1 rfl rfl (vin (a := 3) (by decide) (by decide) (by decide)) dX7_take_88 ?_
                refine lv_topi (fun x_292 ex_292 => ?_)
                have lf_293 : (f_284 3).toInt = x_292.toInt := by rw [ex_292]; rfl
                refine lv_iconst (v := 1) hx hb dX7_take_89 (by decide) ?_
                refine lv_isub hx hb dX7_take_90 ?_
                refine lv_topi (fun x_294 ex_294 => ?_)
                have tx_294 : x_294.toInt = (x_292.toInt - 1) := by rw [ex_294]; exact sub_ti (a := x_292.toInt) (b := 1) rfl (by decide) (by omega) (by omega)
                refine va_iast hx hb hK hP hD hS 1 1 rfl rfl (vin (a := 3) (by decide) (by decide) (by decide)) dX7_take_91 (fun H locs hP hD hS => ?_)
                obtain ⟨f_295, ef_295, hP, hD⟩ : ∃ f_295 : Nat → Int32, f_295 = upd f_284 (3 : Int32).toNatClampNeg x_294 ∧ va_P D vwCl [(A_self, .inr (7, o7 q v w)), (q 55, .inl (c 1, 6, .inl f_295))] H ∧ va_D A [(A_self, .inr (7, o7 q v w)), (q 55, .inl (c 1, 6, .inl f_295))] := ⟨_, rfl, hP, hD⟩
                have cl_296 : (f_295 0).toInt = (f_284 0).toInt := by rw [ef_295]; rfl
                have cl_297 : (f_295 1).toInt = (f_284 1).toInt := by rw [ef_295]; rfl
                have cl_298 : (f_295 2).toInt = (f_284 2).toInt := by rw [ef_295]; rfl
                have cl_299 : (f_295 3).toInt = x_294.toInt := by rw [ef_295]; rfl
                have cl_300 : (f_295 4).toInt = (f_284 4).toInt := by rw [ef_295]; rfl
                have cl_301 : (f_295 5).toInt = (f_284 5).toInt := by rw [ef_295]; rfl
                refine lv_iinc (v := 2) (lv' := [(5, .int 2), (2, .int x_291), (4, .int r_209), (3, .int 2), (0, .ref A_self), (1, .int a1)]) hx hb dX7_take_92 hl (k := 1) rfl (by decide) (by decide) rfl (fun ls hl => ?_)
                refine lv_aload_n hx hb dX7_take_95 rfl (lv_at hl 4 rfl) ?_
                refine va_get (D := D) (ci := 7) (v := .ref (q 55)) (C := RX7) (T := TX7) (N := 56) hx hb hts (fun _ h => List.mem_cons_of_mem _ (List.mem_append_right _ h)) hown hK hP 0 rfl rfl 55 (by decide) (hts (.fieldLink RX7 118 "CrownTableModel" "cloth" "[I") (mem_i 2 rfl)) (fun _ h9 => h9) rfl dX7_take_96 ?_
                refine lv_iload hx hb dX7_take_99 (lv_at hl 0 rfl) ?_
                refine lv_dup2_11 hx hb dX7_take_101 rfl rfl ?_
                refine va_iald hx hb hK hP 1 1 rfl rfl (vin (a := 2) (by decide) (by decide) (by decide)) dX7_take_102 ?_
                refine lv_topi (fun x_302 ex_302 => ?_)
                have lf_303 : (f_295 2).toInt = x_302.toInt := by rw [ex_302]; rfl
                refine lv_iload hx hb dX7_take_103 (lv_at hl 0 rfl) ?_
                have hPc := hP.sub (ws' := []) [] rfl
                have hDc := hD.sub (ws' := []) [] (by decide) rfl
                have hFc := va_free (wc := []) hD hS hA [] rfl
                have kzz_304 : (2 : Int32).toInt = 2 := by decide
                refine va_csi (va_runS (As := [.int 2]) (rest := [.int x_302, .int 2, .ref (q 55)]) ⟨hx, hb, hml, hown, hts⟩ (k_X7_next l D c ts H.size 2 2 (by decide) (by omega)) (cwS 1 hts gX7_take_X7_next rfl rfl rfl ⟨rfl, hdX7_next⟩ ⟨(show 1 + 1 ≤ 2 by decide), (show 8 + (1 + 11) + 20 ≤ 43 by decide)⟩) ⟨Pre0.blind, Pre0.at hPc hDc hAm hSt hS hFc⟩ rfl rfl hl.1 rfl (lv_room (Nat.le_of_ble_eq_true rfl)) dX7_take_105 ⟨(show 0 + 0 ≤ 0 by decide), (show 0 + 0 ≤ 0 by decide)⟩) (fun r_306 hw_305 => ?_)
                rcases hw_305 with ⟨hw_305, rfl⟩ | ⟨hw_305, rfl⟩ | ⟨hw_305, rfl⟩ | ⟨hw_305, rfl⟩
                · exfalso; omega
                · skip
                  refine lv_iadd hx hb dX7_take_108 ?_
                  refine lv_topi (fun x_307 ex_307 => ?_)
                  have tx_307 : x_307.toInt = (x_302.toInt + 20) := by rw [ex_307]; exact add_ti (a := x_302.toInt) (b := 20) rfl (by decide) (by omega) (by omega)
                  refine va_iast hx hb hK hP hD hS 1 1 rfl rfl (vin (a := 2) (by decide) (by decide) (by decide)) dX7_take_109 (fun H locs hP hD hS => ?_)
                  obtain ⟨f_308, ef_308, hP, hD⟩ : ∃ f_308 : Nat → Int32, f_308 = upd f_295 (2 : Int32).toNatClampNeg x_307 ∧ va_P D vwCl [(A_self, .inr (7, o7 q v w)), (q 55, .inl (c 1, 6, .inl f_308))] H ∧ va_D A [(A_self, .inr (7, o7 q v w)), (q 55, .inl (c 1, 6, .inl f_308))] := ⟨_, rfl, hP, hD⟩
                  have cl_309 : (f_308 0).toInt = (f_295 0).toInt := by rw [ef_308]; rfl
                  have cl_310 : (f_308 1).toInt = (f_295 1).toInt := by rw [ef_308]; rfl
                  have cl_311 : (f_308 2).toInt = x_307.toInt := by rw [ef_308]; rfl
                  have cl_312 : (f_308 3).toInt = (f_295 3).toInt := by rw [ef_308]; rfl
                  have cl_313 : (f_308 4).toInt = (f_295 4).toInt := by rw [ef_308]; rfl
                  have cl_314 : (f_308 5).toInt = (f_295 5).toInt := by rw [ef_308]; rfl
                  obtain ⟨x_315, ex_315⟩ : ∃ y : Int32, y = x_291 + 1 := ⟨_, rfl⟩
                  refine lv_iinc (v := x_315) (lv' := [(2, .int x_315), (5, .int 2), (4, .int r_209), (3, .int 2), (0, .ref A_self), (1, .int a1)]) hx hb dX7_take_110 hl (k := 1) rfl (by rw [ex_315]; rfl) (by decide) rfl (fun ls hl => ?_)
                  refine lv_goto (tgt := 75) hx hb dX7_take_113 (by decide) ?_
                  refine lv_iload hx hb dX7_take_75 (lv_at hl 1 rfl) ?_
                  refine lv_iload_n hx hb dX7_take_77 rfl (lv_at hl 3 rfl) ?_
                  refine iicmp_leT (a := 2) (b := 2) (tgt := 116) hx hb (by decide) (by decide) dX7_take_78 (by decide) (by decide) ?_
                  refine lv_goto (tgt := 43) hx hb dX7_take_116 (by decide) ?_
                  refine lv_aload_n hx hb dX7_take_43 rfl (lv_at hl 4 rfl) ?_
                  refine va_get (D := D) (ci := 7) (v := .ref (q 55)) (C := RX7) (T := TX7) (N := 56) hx hb hts (fun _ h => List.mem_cons_of_mem _ (List.mem_append_right _ h)) hown hK hP 0 rfl rfl 55 (by decide) (hts (.fieldLink RX7 118 "CrownTableModel" "cloth" "[I") (mem_i 2 rfl)) (fun _ h9 => h9) rfl dX7_take_44 ?_
                  refine lv_iload_n hx hb dX7_take_47 rfl (lv_at hl 3 rfl) ?_
                  refine va_iald hx hb hK hP 1 1 rfl rfl (vin (a := 2) (by decide) (by decide) (by decide)) dX7_take_48 ?_
                  refine lv_topi (fun x_316 ex_316 => ?_)
                  have lf_317 : (f_308 2).toInt = x_316.toInt := by rw [ex_316]; rfl
                  refine lv_iload hx hb dX7_take_49 (lv_at hl 2 rfl) ?_
                  refine iicmp_ge (a := x_316.toInt) (b := r_209.toInt) (tgt := 119) hx hb rfl rfl dX7_take_51 (by decide) (fun k_318 => ?_) (fun k_318 => ?_)
                  · skip
                    refine lv_aload_n hx hb dX7_take_119 rfl (lv_at hl 4 rfl) ?_
                    refine va_get (D := D) (ci := 7) (v := .ref (q 55)) (C := RX7) (T := TX7) (N := 56) hx hb hts (fun _ h => List.mem_cons_of_mem _ (List.mem_append_right _ h)) hown hK hP 0 rfl rfl 55 (by decide) (hts (.fieldLink RX7 118 "CrownTableModel" "cloth" "[I") (mem_i 2 rfl)) (fun _ h9 => h9) rfl dX7_take_120 ?_
                    refine lv_iload_n hx hb dX7_take_123 rfl (lv_at hl 3 rfl) ?_
                    refine lv_dup2_11 hx hb dX7_take_124 rfl rfl ?_
                    refine va_iald hx hb hK hP 1 1 rfl rfl (vin (a := 2) (by decide) (by decide) (by decide)) dX7_take_125 ?_
                    refine lv_topi (fun x_319 ex_319 => ?_)
                    have lf_320 : (f_308 2).toInt = x_319.toInt := by rw [ex_319]; rfl
                    refine lv_iload hx hb dX7_take_126 (lv_at hl 2 rfl) ?_
                    refine lv_isub hx hb dX7_take_128 ?_
                    refine lv_topi (fun x_321 ex_321 => ?_)
                    have tx_321 : x_321.toInt = (x_319.toInt - r_209.toInt) := by rw [ex_321]; exact sub_ti (a := x_319.toInt) (b := r_209.toInt) rfl rfl (by omega) (by omega)
                    refine va_iast hx hb hK hP hD hS 1 1 rfl rfl (vin (a := 2) (by decide) (by decide) (by decide)) dX7_take_129 (fun H locs hP hD hS => ?_)
                    obtain ⟨f_322, ef_322, hP, hD⟩ : ∃ f_322 : Nat → Int32, f_322 = upd f_308 (2 : Int32).toNatClampNeg x_321 ∧ va_P D vwCl [(A_self, .inr (7, o7 q v w)), (q 55, .inl (c 1, 6, .inl f_322))] H ∧ va_D A [(A_self, .inr (7, o7 q v w)), (q 55, .inl (c 1, 6, .inl f_322))] := ⟨_, rfl, hP, hD⟩
                    have cl_323 : (f_322 0).toInt = (f_308 0).toInt := by rw [ef_322]; rfl
                    have cl_324 : (f_322 1).toInt = (f_308 1).toInt := by rw [ef_322]; rfl
                    have cl_325 : (f_322 2).toInt = x_321.toInt := by rw [ef_322]; rfl
                    have cl_326 : (f_322 3).toInt = (f_308 3).toInt := by rw [ef_322]; rfl
                    have cl_327 : (f_322 4).toInt = (f_308 4).toInt := by rw [ef_322]; rfl
                    have cl_328 : (f_322 5).toInt = (f_308 5).toInt := by rw [ef_322]; rfl
                    refine lv_iinc (v := 3) (lv' := [(3, .int 3), (2, .int x_315), (5, .int 2), (4, .int r_209), (0, .ref A_self), (1, .int a1)]) hx hb dX7_take_130 hl (k := 3) rfl (by decide) (by decide) rfl (fun ls hl => ?_)
                    refine lv_goto (tgt := 30) hx hb dX7_take_133 (by decide) ?_
                    have hl := lv_sub hl [0, 4, 5, 1] rfl
                    exact lp_30_3 x_315 f_322 (by omega) (by omega) (by omega) (by omega) (by omega) (by omega) (by omega) _ _ _ hP hD hS hl
                  · skip
                    exfalso; omega
                · exfalso; omega
                · exfalso; omega
              · exfalso; omega
            · skip
              refine lv_iinc (v := 5) (lv' := [(5, .int 5), (4, .int r_209), (3, .int 2), (0, .ref A_self), (1, .int a1), (2, .int L2)]) hx hb dX7_take_69 hl (k := 0) rfl (by decide) (by decide) rfl (fun ls hl => ?_)
              refine lv_goto (tgt := 59) hx hb dX7_take_72 (by decide) ?_
              refine lv_aload_n hx hb dX7_take_59 rfl (lv_at hl 3 rfl) ?_
              refine va_get (D := D) (ci := 7) (v := .ref (q 55)) (C := RX7) (T := TX7) (N := 56) hx hb hts (fun _ h => List.mem_cons_of_mem _ (List.mem_append_right _ h)) hown hK hP 0 rfl rfl 55 (by decide) (hts (.fieldLink RX7 118 "CrownTableModel" "cloth" "[I") (mem_i 2 rfl)) (fun _ h9 => h9) rfl dX7_take_60 ?_
              refine lv_iload hx hb dX7_take_63 (lv_at hl 0 rfl) ?_
              refine va_iald hx hb hK hP 1 1 rfl rfl (vin (a := 5) (by decide) (by decide) (by decide)) dX7_take_65 ?_
              refine lv_topi (fun x_329 ex_329 => ?_)
              have lf_330 : (M_cloth 5).toInt = x_329.toInt := by rw [ex_329]; rfl
              refine iif_ne (a := x_329.toInt) (tgt := 75) hx hb rfl dX7_take_66 (by decide) (fun k_331 => ?_) (fun k_331 => ?_)
              · skip
                refine lv_iload hx hb dX7_take_75 (lv_at hl 0 rfl) ?_
                refine lv_iload_n hx hb dX7_take_77 rfl (lv_at hl 2 rfl) ?_
                refine iicmp_leF (a := 5) (b := 2) (tgt := 116) hx hb (by decide) (by decide) dX7_take_78 (by decide) (by decide) ?_
                refine lv_aload_n hx hb dX7_take_81 rfl (lv_at hl 3 rfl) ?_
                refine va_get (D := D) (ci := 7) (v := .ref (q 55)) (C := RX7) (T := TX7) (N := 56) hx hb hts (fun _ h => List.mem_cons_of_mem _ (List.mem_append_right _ h)) hown hK hP 0 rfl rfl 55 (by decide) (hts (.fieldLink RX7 118 "CrownTableModel" "cloth" "[I") (mem_i 2 rfl)) (fun _ h9 => h9) rfl dX7_take_82 ?_
                refine lv_iload hx hb dX7_take_85 (lv_at hl 0 rfl) ?_
                refine lv_dup2_11 hx hb dX7_take_87 rfl rfl ?_
                refine va_iald hx hb hK hP 1 1 rfl rfl (vin (a := 5) (by decide) (by decide) (by decide)) dX7_take_88 ?_
                refine lv_topi (fun x_332 ex_332 => ?_)
                have lf_333 : (M_cloth 5).toInt = x_332.toInt := by rw [ex_332]; rfl
                refine lv_iconst (v := 1) hx hb dX7_take_89 (by decide) ?_
                refine lv_isub hx hb dX7_take_90 ?_
                refine lv_topi (fun x_334 ex_334 => ?_)
                have tx_334 : x_334.toInt = (x_332.toInt - 1) := by rw [ex_334]; exact sub_ti (a := x_332.toInt) (b := 1) rfl (by decide) (by omega) (by omega)
                refine va_iast hx hb hK hP hD hS 1 1 rfl rfl (vin (a := 5) (by decide) (by decide) (by decide)) dX7_take_91 (fun H locs hP hD hS => ?_)
                obtain ⟨f_335, ef_335, hP, hD⟩ : ∃ f_335 : Nat → Int32, f_335 = upd M_cloth (5 : Int32).toNatClampNeg x_334 ∧ va_P D vwCl [(A_self, .inr (7, o7 q v w)), (q 55, .inl (c 1, 6, .inl f_335))] H ∧ va_D A [(A_self, .inr (7, o7 q v w)), (q 55, .inl (c 1, 6, .inl f_335))] := ⟨_, rfl, hP, hD⟩
                have cl_336 : (f_335 0).toInt = (M_cloth 0).toInt := by rw [ef_335]; rfl
                have cl_337 : (f_335 1).toInt = (M_cloth 1).toInt := by rw [ef_335]; rfl
                have cl_338 : (f_335 2).toInt = (M_cloth 2).toInt := by rw [ef_335]; rfl
                have cl_339 : (f_335 3).toInt = (M_cloth 3).toInt := by rw [ef_335]; rfl
                have cl_340 : (f_335 4).toInt = (M_cloth 4).toInt := by rw [ef_335]; rfl
                have cl_341 : (f_335 5).toInt = x_334.toInt := by rw [ef_335]; rfl
                refine lv_iinc (v := 4) (lv' := [(5, .int 4), (4, .int r_209), (3, .int 2), (0, .ref A_self), (1, .int a1), (2, .int L2)]) hx hb dX7_take_92 hl (k := 0) rfl (by decide) (by decide) rfl (fun ls hl => ?_)
                refine lv_aload_n hx hb dX7_take_95 rfl (lv_at hl 3 rfl) ?_
                refine va_get (D := D) (ci := 7) (v := .ref (q 55)) (C := RX7) (T := TX7) (N := 56) hx hb hts (fun _ h => List.mem_cons_of_mem _ (List.mem_append_right _ h)) hown hK hP 0 rfl rfl 55 (by decide) (hts (.fieldLink RX7 118 "CrownTableModel" "cloth" "[I") (mem_i 2 rfl)) (fun _ h9 => h9) rfl dX7_take_96 ?_
                refine lv_iload hx hb dX7_take_99 (lv_at hl 0 rfl) ?_
                refine lv_dup2_11 hx hb dX7_take_101 rfl rfl ?_
                refine va_iald hx hb hK hP 1 1 rfl rfl (vin (a := 4) (by decide) (by decide) (by decide)) dX7_take_102 ?_
                refine lv_topi (fun x_342 ex_342 => ?_)
                have lf_343 : (f_335 4).toInt = x_342.toInt := by rw [ex_342]; rfl
                refine lv_iload hx hb dX7_take_103 (lv_at hl 0 rfl) ?_
                have hPc := hP.sub (ws' := []) [] rfl
                have hDc := hD.sub (ws' := []) [] (by decide) rfl
                have hFc := va_free (wc := []) hD hS hA [] rfl
                have kzz_344 : (4 : Int32).toInt = 4 := by decide
                refine va_csi (va_runS (As := [.int 4]) (rest := [.int x_342, .int 4, .ref (q 55)]) ⟨hx, hb, hml, hown, hts⟩ (k_X7_next l D c ts H.size 4 4 (by decide) (by omega)) (cwS 1 hts gX7_take_X7_next rfl rfl rfl ⟨rfl, hdX7_next⟩ ⟨(show 1 + 1 ≤ 2 by decide), (show 8 + (1 + 11) + 20 ≤ 43 by decide)⟩) ⟨Pre0.blind, Pre0.at hPc hDc hAm hSt hS hFc⟩ rfl rfl hl.1 rfl (lv_room (Nat.le_of_ble_eq_true rfl)) dX7_take_105 ⟨(show 0 + 0 ≤ 0 by decide), (show 0 + 0 ≤ 0 by decide)⟩) (fun r_346 hw_345 => ?_)
                rcases hw_345 with ⟨hw_345, rfl⟩ | ⟨hw_345, rfl⟩ | ⟨hw_345, rfl⟩ | ⟨hw_345, rfl⟩
                · exfalso; omega
                · exfalso; omega
                · exfalso; omega
                · skip
                  refine lv_iadd hx hb dX7_take_108 ?_
                  refine lv_topi (fun x_347 ex_347 => ?_)
                  have tx_347 : x_347.toInt = (x_342.toInt + 10) := by rw [ex_347]; exact add_ti (a := x_342.toInt) (b := 10) rfl (by decide) (by omega) (by omega)
                  refine va_iast hx hb hK hP hD hS 1 1 rfl rfl (vin (a := 4) (by decide) (by decide) (by decide)) dX7_take_109 (fun H locs hP hD hS => ?_)
                  obtain ⟨f_348, ef_348, hP, hD⟩ : ∃ f_348 : Nat → Int32, f_348 = upd f_335 (4 : Int32).toNatClampNeg x_347 ∧ va_P D vwCl [(A_self, .inr (7, o7 q v w)), (q 55, .inl (c 1, 6, .inl f_348))] H ∧ va_D A [(A_self, .inr (7, o7 q v w)), (q 55, .inl (c 1, 6, .inl f_348))] := ⟨_, rfl, hP, hD⟩
                  have cl_349 : (f_348 0).toInt = (f_335 0).toInt := by rw [ef_348]; rfl
                  have cl_350 : (f_348 1).toInt = (f_335 1).toInt := by rw [ef_348]; rfl
                  have cl_351 : (f_348 2).toInt = (f_335 2).toInt := by rw [ef_348]; rfl
                  have cl_352 : (f_348 3).toInt = (f_335 3).toInt := by rw [ef_348]; rfl
                  have cl_353 : (f_348 4).toInt = x_347.toInt := by rw [ef_348]; rfl
                  have cl_354 : (f_348 5).toInt = (f_335 5).toInt := by rw [ef_348]; rfl
                  obtain ⟨x_355, ex_355⟩ : ∃ y : Int32, y = L2 + 1 := ⟨_, rfl⟩
                  refine lv_iinc (v := x_355) (lv' := [(2, .int x_355), (5, .int 4), (4, .int r_209), (3, .int 2), (0, .ref A_self), (1, .int a1)]) hx hb dX7_take_110 hl (k := 5) rfl (by rw [ex_355]; rfl) (by decide) rfl (fun ls hl => ?_)
                  refine lv_goto (tgt := 75) hx hb dX7_take_113 (by decide) ?_
                  refine lv_iload hx hb dX7_take_75 (lv_at hl 1 rfl) ?_
                  refine lv_iload_n hx hb dX7_take_77 rfl (lv_at hl 3 rfl) ?_
                  refine iicmp_leF (a := 4) (b := 2) (tgt := 116) hx hb (by decide) (by decide) dX7_take_78 (by decide) (by decide) ?_
                  refine lv_aload_n hx hb dX7_take_81 rfl (lv_at hl 4 rfl) ?_
                  refine va_get (D := D) (ci := 7) (v := .ref (q 55)) (C := RX7) (T := TX7) (N := 56) hx hb hts (fun _ h => List.mem_cons_of_mem _ (List.mem_append_right _ h)) hown hK hP 0 rfl rfl 55 (by decide) (hts (.fieldLink RX7 118 "CrownTableModel" "cloth" "[I") (mem_i 2 rfl)) (fun _ h9 => h9) rfl dX7_take_82 ?_
                  refine lv_iload hx hb dX7_take_85 (lv_at hl 1 rfl) ?_
                  refine lv_dup2_11 hx hb dX7_take_87 rfl rfl ?_
                  refine va_iald hx hb hK hP 1 1 rfl rfl (vin (a := 4) (by decide) (by decide) (by decide)) dX7_take_88 ?_
                  refine lv_topi (fun x_356 ex_356 => ?_)
                  have lf_357 : (f_348 4).toInt = x_356.toInt := by rw [ex_356]; rfl
                  refine lv_iconst (v := 1) hx hb dX7_take_89 (by decide) ?_
                  refine lv_isub hx hb dX7_take_90 ?_
                  refine lv_topi (fun x_358 ex_358 => ?_)
                  have tx_358 : x_358.toInt = (x_356.toInt - 1) := by rw [ex_358]; exact sub_ti (a := x_356.toInt) (b := 1) rfl (by decide) (by omega) (by omega)
                  refine va_iast hx hb hK hP hD hS 1 1 rfl rfl (vin (a := 4) (by decide) (by decide) (by decide)) dX7_take_91 (fun H locs hP hD hS => ?_)
                  obtain ⟨f_359, ef_359, hP, hD⟩ : ∃ f_359 : Nat → Int32, f_359 = upd f_348 (4 : Int32).toNatClampNeg x_358 ∧ va_P D vwCl [(A_self, .inr (7, o7 q v w)), (q 55, .inl (c 1, 6, .inl f_359))] H ∧ va_D A [(A_self, .inr (7, o7 q v w)), (q 55, .inl (c 1, 6, .inl f_359))] := ⟨_, rfl, hP, hD⟩
                  have cl_360 : (f_359 0).toInt = (f_348 0).toInt := by rw [ef_359]; rfl
                  have cl_361 : (f_359 1).toInt = (f_348 1).toInt := by rw [ef_359]; rfl
                  have cl_362 : (f_359 2).toInt = (f_348 2).toInt := by rw [ef_359]; rfl
                  have cl_363 : (f_359 3).toInt = (f_348 3).toInt := by rw [ef_359]; rfl
                  have cl_364 : (f_359 4).toInt = x_358.toInt := by rw [ef_359]; rfl
                  have cl_365 : (f_359 5).toInt = (f_348 5).toInt := by rw [ef_359]; rfl
                  refine lv_iinc (v := 3) (lv' := [(5, .int 3), (2, .int x_355), (4, .int r_209), (3, .int 2), (0, .ref A_self), (1, .int a1)]) hx hb dX7_take_92 hl (k := 1) rfl (by decide) (by decide) rfl (fun ls hl => ?_)
                  refine lv_aload_n hx hb dX7_take_95 rfl (lv_at hl 4 rfl) ?_
                  refine va_get (D := D) (ci := 7) (v := .ref (q 55)) (C := RX7) (T := TX7) (N := 56) hx hb hts (fun _ h => List.mem_cons_of_mem _ (List.mem_append_right _ h)) hown hK hP 0 rfl rfl 55 (by decide) (hts (.fieldLink RX7 118 "CrownTableModel" "cloth" "[I") (mem_i 2 rfl)) (fun _ h9 => h9) rfl dX7_take_96 ?_
                  refine lv_iload hx hb dX7_take_99 (lv_at hl 0 rfl) ?_
                  refine lv_dup2_11 hx hb dX7_take_101 rfl rfl ?_
                  refine va_iald hx hb hK hP 1 1 rfl rfl (vin (a := 3) (by decide) (by decide) (by decide)) dX7_take_102 ?_
                  refine lv_topi (fun x_366 ex_366 => ?_)
                  have lf_367 : (f_359 3).toInt = x_366.toInt := by rw [ex_366]; rfl
                  refine lv_iload hx hb dX7_take_103 (lv_at hl 0 rfl) ?_
                  have hPc := hP.sub (ws' := []) [] rfl
                  have hDc := hD.sub (ws' := []) [] (by decide) rfl
                  have hFc := va_free (wc := []) hD hS hA [] rfl
                  have kzz_368 : (3 : Int32).toInt = 3 := by decide
                  refine va_csi (va_runS (As := [.int 3]) (rest := [.int x_366, .int 3, .ref (q 55)]) ⟨hx, hb, hml, hown, hts⟩ (k_X7_next l D c ts H.size 3 3 (by decide) (by omega)) (cwS 1 hts gX7_take_X7_next rfl rfl rfl ⟨rfl, hdX7_next⟩ ⟨(show 1 + 1 ≤ 2 by decide), (show 8 + (1 + 11) + 20 ≤ 43 by decide)⟩) ⟨Pre0.blind, Pre0.at hPc hDc hAm hSt hS hFc⟩ rfl rfl hl.1 rfl (lv_room (Nat.le_of_ble_eq_true rfl)) dX7_take_105 ⟨(show 0 + 0 ≤ 0 by decide), (show 0 + 0 ≤ 0 by decide)⟩) (fun r_370 hw_369 => ?_)
                  rcases hw_369 with ⟨hw_369, rfl⟩ | ⟨hw_369, rfl⟩ | ⟨hw_369, rfl⟩ | ⟨hw_369, rfl⟩
                  · exfalso; omega
                  · exfalso; omega
                  · skip
                    refine lv_iadd hx hb dX7_take_108 ?_
                    refine lv_topi (fun x_371 ex_371 => ?_)
                    have tx_371 : x_371.toInt = (x_366.toInt + 5) := by rw [ex_371]; exact add_ti (a := x_366.toInt) (b := 5) rfl (by decide) (by omega) (by omega)
                    refine va_iast hx hb hK hP hD hS 1 1 rfl rfl (vin (a := 3) (by decide) (by decide) (by decide)) dX7_take_109 (fun H locs hP hD hS => ?_)
                    obtain ⟨f_372, ef_372, hP, hD⟩ : ∃ f_372 : Nat → Int32, f_372 = upd f_359 (3 : Int32).toNatClampNeg x_371 ∧ va_P D vwCl [(A_self, .inr (7, o7 q v w)), (q 55, .inl (c 1, 6, .inl f_372))] H ∧ va_D A [(A_self, .inr (7, o7 q v w)), (q 55, .inl (c 1, 6, .inl f_372))] := ⟨_, rfl, hP, hD⟩
                    have cl_373 : (f_372 0).toInt = (f_359 0).toInt := by rw [ef_372]; rfl
                    have cl_374 : (f_372 1).toInt = (f_359 1).toInt := by rw [ef_372]; rfl
                    have cl_375 : (f_372 2).toInt = (f_359 2).toInt := by rw [ef_372]; rfl
                    have cl_376 : (f_372 3).toInt = x_371.toInt := by rw [ef_372]; rfl
                    have cl_377 : (f_372 4).toInt = (f_359 4).toInt := by rw [ef_372]; rfl
                    have cl_378 : (f_372 5).toInt = (f_359 5).toInt := by rw [ef_372]; rfl
                    obtain ⟨x_379, ex_379⟩ : ∃ y : Int32, y = x_355 + 1 := ⟨_, rfl⟩
                    refine lv_iinc (v := x_379) (lv' := [(2, .int x_379), (5, .int 3), (4, .int r_209), (3, .int 2), (0, .ref A_self), (1, .int a1)]) hx hb dX7_take_110 hl (k := 1) rfl (by rw [ex_379]; rfl) (by decide) rfl (fun ls hl => ?_)
                    refine lv_goto (tgt := 75) hx hb dX7_take_113 (by decide) ?_
                    refine lv_iload hx hb dX7_take_75 (lv_at hl 1 rfl) ?_
                    refine lv_iload_n hx hb dX7_take_77 rfl (lv_at hl 3 rfl) ?_
                    refine iicmp_leF (a := 3) (b := 2) (tgt := 116) hx hb (by decide) (by decide) dX7_take_78 (by decide) (by decide) ?_
                    refine lv_aload_n hx hb dX7_take_81 rfl (lv_at hl 4 rfl) ?_
                    refine va_get (D := D) (ci := 7) (v := .ref (q 55)) (C := RX7) (T := TX7) (N := 56) hx hb hts (fun _ h => List.mem_cons_of_mem _ (List.mem_append_right _ h)) hown hK hP 0 rfl rfl 55 (by decide) (hts (.fieldLink RX7 118 "CrownTableModel" "cloth" "[I") (mem_i 2 rfl)) (fun _ h9 => h9) rfl dX7_take_82 ?_
                    refine lv_iload hx hb dX7_take_85 (lv_at hl 1 rfl) ?_
                    refine lv_dup2_11 hx hb dX7_take_87 rfl rfl ?_
                    refine va_iald hx hb hK hP 1 1 rfl rfl (vin (a := 3) (by decide) (by decide) (by decide)) dX7_take_88 ?_
                    refine lv_topi (fun x_380 ex_380 => ?_)
                    have lf_381 : (f_372 3).toInt = x_380.toInt := by rw [ex_380]; rfl
                    refine lv_iconst (v := 1) hx hb dX7_take_89 (by decide) ?_
                    refine lv_isub hx hb dX7_take_90 ?_
                    refine lv_topi (fun x_382 ex_382 => ?_)
                    have tx_382 : x_382.toInt = (x_380.toInt - 1) := by rw [ex_382]; exact sub_ti (a := x_380.toInt) (b := 1) rfl (by decide) (by omega) (by omega)
                    refine va_iast hx hb hK hP hD hS 1 1 rfl rfl (vin (a := 3) (by decide) (by decide) (by decide)) dX7_take_91 (fun H locs hP hD hS => ?_)
                    obtain ⟨f_383, ef_383, hP, hD⟩ : ∃ f_383 : Nat → Int32, f_383 = upd f_372 (3 : Int32).toNatClampNeg x_382 ∧ va_P D vwCl [(A_self, .inr (7, o7 q v w)), (q 55, .inl (c 1, 6, .inl f_383))] H ∧ va_D A [(A_self, .inr (7, o7 q v w)), (q 55, .inl (c 1, 6, .inl f_383))] := ⟨_, rfl, hP, hD⟩
                    have cl_384 : (f_383 0).toInt = (f_372 0).toInt := by rw [ef_383]; rfl
                    have cl_385 : (f_383 1).toInt = (f_372 1).toInt := by rw [ef_383]; rfl
                    have cl_386 : (f_383 2).toInt = (f_372 2).toInt := by rw [ef_383]; rfl
                    have cl_387 : (f_383 3).toInt = x_382.toInt := by rw [ef_383]; rfl
                    have cl_388 : (f_383 4).toInt = (f_372 4).toInt := by rw [ef_383]; rfl
                    have cl_389 : (f_383 5).toInt = (f_372 5).toInt := by rw [ef_383]; rfl
                    refine lv_iinc (v := 2) (lv' := [(5, .int 2), (2, .int x_379), (4, .int r_209), (3, .int 2), (0, .ref A_self), (1, .int a1)]) hx hb dX7_take_92 hl (k := 1) rfl (by decide) (by decide) rfl (fun ls hl => ?_)
                    refine lv_aload_n hx hb dX7_take_95 rfl (lv_at hl 4 rfl) ?_
                    refine va_get (D := D) (ci := 7) (v := .ref (q 55)) (C := RX7) (T := TX7) (N := 56) hx hb hts (fun _ h => List.mem_cons_of_mem _ (List.mem_append_right _ h)) hown hK hP 0 rfl rfl 55 (by decide) (hts (.fieldLink RX7 118 "CrownTableModel" "cloth" "[I") (mem_i 2 rfl)) (fun _ h9 => h9) rfl dX7_take_96 ?_
                    refine lv_iload hx hb dX7_take_99 (lv_at hl 0 rfl) ?_
                    refine lv_dup2_11 hx hb dX7_take_101 rfl rfl ?_
                    refine va_iald hx hb hK hP 1 1 rfl rfl (vin (a := 2) (by decide) (by decide) (by decide)) dX7_take_102 ?_
                    refine lv_topi (fun x_390 ex_390 => ?_)
                    have lf_391 : (f_383 2).toInt = x_390.toInt := by rw [ex_390]; rfl
                    refine lv_iload hx hb dX7_take_103 (lv_at hl 0 rfl) ?_
                    have hPc := hP.sub (ws' := []) [] rfl
                    have hDc := hD.sub (ws' := []) [] (by decide) rfl
                    have hFc := va_free (wc := []) hD hS hA [] rfl
                    have kzz_392 : (2 : Int32).toInt = 2 := by decide
                    refine va_csi (va_runS (As := [.int 2]) (rest := [.int x_390, .int 2, .ref (q 55)]) ⟨hx, hb, hml, hown, hts⟩ (k_X7_next l D c ts H.size 2 2 (by decide) (by omega)) (cwS 1 hts gX7_take_X7_next rfl rfl rfl ⟨rfl, hdX7_next⟩ ⟨(show 1 + 1 ≤ 2 by decide), (show 8 + (1 + 11) + 20 ≤ 43 by decide)⟩) ⟨Pre0.blind, Pre0.at hPc hDc hAm hSt hS hFc⟩ rfl rfl hl.1 rfl (lv_room (Nat.le_of_ble_eq_true rfl)) dX7_take_105 ⟨(show 0 + 0 ≤ 0 by decide), (show 0 + 0 ≤ 0 by decide)⟩) (fun r_394 hw_393 => ?_)
                    rcases hw_393 with ⟨hw_393, rfl⟩ | ⟨hw_393, rfl⟩ | ⟨hw_393, rfl⟩ | ⟨hw_393, rfl⟩
                    · exfalso; omega
                    · skip
                      refine lv_iadd hx hb dX7_take_108 ?_
                      refine lv_topi (fun x_395 ex_395 => ?_)
                      have tx_395 : x_395.toInt = (x_390.toInt + 20) := by rw [ex_395]; exact add_ti (a := x_390.toInt) (b := 20) rfl (by decide) (by omega) (by omega)
                      refine va_iast hx hb hK hP hD hS 1 1 rfl rfl (vin (a := 2) (by decide) (by decide) (by decide)) dX7_take_109 (fun H locs hP hD hS => ?_)
                      obtain ⟨f_396, ef_396, hP, hD⟩ : ∃ f_396 : Nat → Int32, f_396 = upd f_383 (2 : Int32).toNatClampNeg x_395 ∧ va_P D vwCl [(A_self, .inr (7, o7 q v w)), (q 55, .inl (c 1, 6, .inl f_396))] H ∧ va_D A [(A_self, .inr (7, o7 q v w)), (q 55, .inl (c 1, 6, .inl f_396))] := ⟨_, rfl, hP, hD⟩
                      have cl_397 : (f_396 0).toInt = (f_383 0).toInt := by rw [ef_396]; rfl
                      have cl_398 : (f_396 1).toInt = (f_383 1).toInt := by rw [ef_396]; rfl
                      have cl_399 : (f_396 2).toInt = x_395.toInt := by rw [ef_396]; rfl
                      have cl_400 : (f_396 3).toInt = (f_383 3).toInt := by rw [ef_396]; rfl
                      have cl_401 : (f_396 4).toInt = (f_383 4).toInt := by rw [ef_396]; rfl
                      have cl_402 : (f_396 5).toInt = (f_383 5).toInt := by rw [ef_396]; rfl
                      obtain ⟨x_403, ex_403⟩ : ∃ y : Int32, y = x_379 + 1 := ⟨_, rfl⟩
                      refine lv_iinc (v := x_403) (lv' := [(2, .int x_403), (5, .int 2), (4, .int r_209), (3, .int 2), (0, .ref A_self), (1, .int a1)]) hx hb dX7_take_110 hl (k := 1) rfl (by rw [ex_403]; rfl) (by decide) rfl (fun ls hl => ?_)
                      refine lv_goto (tgt := 75) hx hb dX7_take_113 (by decide) ?_
                      refine lv_iload hx hb dX7_take_75 (lv_at hl 1 rfl) ?_
                      refine lv_iload_n hx hb dX7_take_77 rfl (lv_at hl 3 rfl) ?_
                      refine iicmp_leT (a := 2) (b := 2) (tgt := 116) hx hb (by decide) (by decide) dX7_take_78 (by decide) (by decide) ?_
                      refine lv_goto (tgt := 43) hx hb dX7_take_116 (by decide) ?_
                      refine lv_aload_n hx hb dX7_take_43 rfl (lv_at hl 4 rfl) ?_
                      refine va_get (D := D) (ci := 7) (v := .ref (q 55)) (C := RX7) (T := TX7) (N := 56) hx hb hts (fun _ h => List.mem_cons_of_mem _ (List.mem_append_right _ h)) hown hK hP 0 rfl rfl 55 (by decide) (hts (.fieldLink RX7 118 "CrownTableModel" "cloth" "[I") (mem_i 2 rfl)) (fun _ h9 => h9) rfl dX7_take_44 ?_
                      refine lv_iload_n hx hb dX7_take_47 rfl (lv_at hl 3 rfl) ?_
                      refine va_iald hx hb hK hP 1 1 rfl rfl (vin (a := 2) (by decide) (by decide) (by decide)) dX7_take_48 ?_
                      refine lv_topi (fun x_404 ex_404 => ?_)
                      have lf_405 : (f_396 2).toInt = x_404.toInt := by rw [ex_404]; rfl
                      refine lv_iload hx hb dX7_take_49 (lv_at hl 2 rfl) ?_
                      refine iicmp_ge (a := x_404.toInt) (b := r_209.toInt) (tgt := 119) hx hb rfl rfl dX7_take_51 (by decide) (fun k_406 => ?_) (fun k_406 => ?_)
                      · skip
                        refine lv_aload_n hx hb dX7_take_119 rfl (lv_at hl 4 rfl) ?_
                        refine va_get (D := D) (ci := 7) (v := .ref (q 55)) (C := RX7) (T := TX7) (N := 56) hx hb hts (fun _ h => List.mem_cons_of_mem _ (List.mem_append_right _ h)) hown hK hP 0 rfl rfl 55 (by decide) (hts (.fieldLink RX7 118 "CrownTableModel" "cloth" "[I") (mem_i 2 rfl)) (fun _ h9 => h9) rfl dX7_take_120 ?_
                        refine lv_iload_n hx hb dX7_take_123 rfl (lv_at hl 3 rfl) ?_
                        refine lv_dup2_11 hx hb dX7_take_124 rfl rfl ?_
                        refine va_iald hx hb hK hP 1 1 rfl rfl (vin (a := 2) (by decide) (by decide) (by decide)) dX7_take_125 ?_
                        refine lv_topi (fun x_407 ex_407 => ?_)
                        have lf_408 : (f_396 2).toInt = x_407.toInt := by rw [ex_407]; rfl
                        refine lv_iload hx hb dX7_take_126 (lv_at hl 2 rfl) ?_
                        refine lv_isub hx hb dX7_take_128 ?_
                        refine lv_topi (fun x_409 ex_409 => ?_)
                        have tx_409 : x_409.toInt = (x_407.toInt - r_209.toInt) := by rw [ex_409]; exact sub_ti (a := x_407.toInt) (b := r_209.toInt) rfl rfl (by omega) (by omega)
                        refine va_iast hx hb hK hP hD hS 1 1 rfl rfl (vin (a := 2) (by decide) (by decide) (by decide)) dX7_take_129 (fun H locs hP hD hS => ?_)
                        obtain ⟨f_410, ef_410, hP, hD⟩ : ∃ f_410 : Nat → Int32, f_410 = upd f_396 (2 : Int32).toNatClampNeg x_409 ∧ va_P D vwCl [(A_self, .inr (7, o7 q v w)), (q 55, .inl (c 1, 6, .inl f_410))] H ∧ va_D A [(A_self, .inr (7, o7 q v w)), (q 55, .inl (c 1, 6, .inl f_410))] := ⟨_, rfl, hP, hD⟩
                        have cl_411 : (f_410 0).toInt = (f_396 0).toInt := by rw [ef_410]; rfl
                        have cl_412 : (f_410 1).toInt = (f_396 1).toInt := by rw [ef_410]; rfl
                        have cl_413 : (f_410 2).toInt = x_409.toInt := by rw [ef_410]; rfl
                        have cl_414 : (f_410 3).toInt = (f_396 3).toInt := by rw [ef_410]; rfl
                        have cl_415 : (f_410 4).toInt = (f_396 4).toInt := by rw [ef_410]; rfl
                        have cl_416 : (f_410 5).toInt = (f_396 5).toInt := by rw [ef_410]; rfl
                        refine lv_iinc (v := 3) (lv' := [(3, .int 3), (2, .int x_403), (5, .int 2), (4, .int r_209), (0, .ref A_self), (1, .int a1)]) hx hb dX7_take_130 hl (k := 3) rfl (by decide) (by decide) rfl (fun ls hl => ?_)
                        refine lv_goto (tgt := 30) hx hb dX7_take_133 (by decide) ?_
                        have hl := lv_sub hl [0, 4, 5, 1] rfl
                        exact lp_30_3 x_403 f_410 (by omega) (by omega) (by omega) (by omega) (by omega) (by omega) (by omega) _ _ _ hP hD hS hl
                      · skip
                        exfalso; omega
                    · exfalso; omega
                    · exfalso; omega
                  · exfalso; omega
              · skip
                exfalso; omega
      have lp_30_1 : ∀ (L2 : Int32) (M_cloth : Nat → Int32) (hf30_1_0 : 0 ≤ (M_cloth 0).toInt ∧ (M_cloth 0).toInt ≤ 11) (hf30_1_1 : 0 ≤ (M_cloth 1).toInt ∧ (M_cloth 1).toInt ≤ 19) (hf30_1_2 : 0 ≤ (M_cloth 2).toInt ∧ (M_cloth 2).toInt ≤ 19) (hf30_1_3 : 0 ≤ (M_cloth 3).toInt ∧ (M_cloth 3).toInt ≤ 4) (hf30_1_4 : 0 ≤ (M_cloth 4).toInt ∧ (M_cloth 4).toInt ≤ 9) (hf30_1_5 : 0 ≤ (M_cloth 5).toInt ∧ (M_cloth 5).toInt ≤ cb) (hf30_1_6 : 12 * (i_a1 / 12) ≤ 12 * (M_cloth 1).toInt + 240 * (M_cloth 2).toInt + 4800 * (M_cloth 3).toInt + 24000 * (M_cloth 4).toInt + 240000 * (M_cloth 5).toInt) (H : Heap) (locs : List Loc) (ls : Array Slot), va_P D vwCl [(A_self, .inr (7, o7 q v w)), (q 55, .inl (c 1, 6, .inl M_cloth))] H → va_D A [(A_self, .inr (7, o7 q v w)), (q 55, .inl (c 1, 6, .inl M_cloth))] → va_S A s.heap H locs → lv_has ls 6 [(3, .int 1), (0, .ref A_self), (1, .int a1), (2, .int L2)] → W p l e (headSpec wsX7_take ({ frames := 2, cells := 0, slots := 0, locals := 43 })).room s m (([.ref A_self, .int a1] : List Value).toArray) below meth cd H locs 0 0 (MQ below (va_Qi (fun (r : Int32) (u : (Nat → Int32) × Unit) => (0 ≤ (u.1 0).toInt ∧ (u.1 0).toInt ≤ 11) ∧ (0 ≤ (u.1 1).toInt ∧ (u.1 1).toInt ≤ 19) ∧ (0 ≤ (u.1 2).toInt ∧ (u.1 2).toInt ≤ 19) ∧ (0 ≤ (u.1 3).toInt ∧ (u.1 3).toInt ≤ 4) ∧ (0 ≤ (u.1 4).toInt ∧ (u.1 4).toInt ≤ 9) ∧ (0 ≤ (u.1 5).toInt ∧ (u.1 5).toInt ≤ cb)) (fun u t => va_P D vwCl [(A_self, .inr (7, o7 q v w)), (q 55, .inl (c 1, 6, .inl u.1))] t.heap ∧ va_D A [(A_self, .inr (7, o7 q v w)), (q 55, .inl (c 1, 6, .inl u.1))]) A) ([.ref A_self, .int a1] : List Value).toArray s 0 0 A) (F0 m 30 ls []) := by
        intro L2 M_cloth hf30_1_0 hf30_1_1 hf30_1_2 hf30_1_3 hf30_1_4 hf30_1_5 hf30_1_6 H locs ls hP hD hS hl
        have rg_L2 := i32r L2
        refine lv_iload_n hx hb dX7_take_30 rfl (lv_at hl 0 rfl) ?_
        refine lv_bipush (v := 6) hx hb dX7_take_31 (by decide) ?_
        refine iicmp_geF (a := 1) (b := 6) (tgt := 136) hx hb (by decide) (by decide) dX7_take_33 (by decide) (by decide) ?_
        refine lv_iload_n hx hb dX7_take_36 rfl (lv_at hl 2 rfl) ?_
        refine lv_iload_n hx hb dX7_take_37 rfl (lv_at hl 0 rfl) ?_
        have hPc := hP.sub (ws' := []) [] rfl
        have hDc := hD.sub (ws' := []) [] (by decide) rfl
        have hFc := va_free (wc := []) hD hS hA [] rfl
        have kzz_417 : (1 : Int32).toInt = 1 := by decide
        refine va_csi (va_runS (As := [.int a1, .int 1]) (rest := []) ⟨hx, hb, hml, hown, hts⟩ (k_X7_notch_P l D c ts H.size a1 i_a1 hi_a1 1 1 (by decide) (by omega) (by omega)) (cwS 2 hts gX7_take_X7_notch rfl rfl rfl ⟨rfl, hdX7_notch⟩ ⟨(show 1 + 1 ≤ 2 by decide), (show 8 + (2 + 11) + 20 ≤ 43 by decide)⟩) ⟨Pre0.blind, Pre0.at hPc hDc hAm hSt hS hFc⟩ rfl rfl hl.1 rfl (lv_room (Nat.le_of_ble_eq_true rfl)) dX7_take_38 ⟨(show 0 + 0 ≤ 0 by decide), (show 0 + 0 ≤ 0 by decide)⟩) (fun r_419 hw_418 => ?_)
        have nf_420 := hw_418.2.2.1 rfl
        have nf_421 := hw_418.1
        clear hw_418
        have rg_r_419 := i32r r_419
        refine lv_istore (lv' := [(4, .int r_419), (3, .int 1), (0, .ref A_self), (1, .int a1), (2, .int L2)]) hx hb dX7_take_41 hl (by decide) rfl (fun ls hl => ?_)
        refine lv_aload_n hx hb dX7_take_43 rfl (lv_at hl 2 rfl) ?_
        refine va_get (D := D) (ci := 7) (v := .ref (q 55)) (C := RX7) (T := TX7) (N := 56) hx hb hts (fun _ h => List.mem_cons_of_mem _ (List.mem_append_right _ h)) hown hK hP 0 rfl rfl 55 (by decide) (hts (.fieldLink RX7 118 "CrownTableModel" "cloth" "[I") (mem_i 2 rfl)) (fun _ h9 => h9) rfl dX7_take_44 ?_
        refine lv_iload_n hx hb dX7_take_47 rfl (lv_at hl 1 rfl) ?_
        refine va_iald hx hb hK hP 1 1 rfl rfl (vin (a := 1) (by decide) (by decide) (by decide)) dX7_take_48 ?_
        refine lv_topi (fun x_422 ex_422 => ?_)
        have lf_423 : (M_cloth 1).toInt = x_422.toInt := by rw [ex_422]; rfl
        refine lv_iload hx hb dX7_take_49 (lv_at hl 0 rfl) ?_
        refine iicmp_ge (a := x_422.toInt) (b := r_419.toInt) (tgt := 119) hx hb rfl rfl dX7_take_51 (by decide) (fun k_424 => ?_) (fun k_424 => ?_)
        · skip
          refine lv_aload_n hx hb dX7_take_119 rfl (lv_at hl 2 rfl) ?_
          refine va_get (D := D) (ci := 7) (v := .ref (q 55)) (C := RX7) (T := TX7) (N := 56) hx hb hts (fun _ h => List.mem_cons_of_mem _ (List.mem_append_right _ h)) hown hK hP 0 rfl rfl 55 (by decide) (hts (.fieldLink RX7 118 "CrownTableModel" "cloth" "[I") (mem_i 2 rfl)) (fun _ h9 => h9) rfl dX7_take_120 ?_
          refine lv_iload_n hx hb dX7_take_123 rfl (lv_at hl 1 rfl) ?_
          refine lv_dup2_11 hx hb dX7_take_124 rfl rfl ?_
          refine va_iald hx hb hK hP 1 1 rfl rfl (vin (a := 1) (by decide) (by decide) (by decide)) dX7_take_125 ?_
          refine lv_topi (fun x_425 ex_425 => ?_)
          have lf_426 : (M_cloth 1).toInt = x_425.toInt := by rw [ex_425]; rfl
          refine lv_iload hx hb dX7_take_126 (lv_at hl 0 rfl) ?_
          refine lv_isub hx hb dX7_take_128 ?_
          refine lv_topi (fun x_427 ex_427 => ?_)
          have tx_427 : x_427.toInt = (x_425.toInt - r_419.toInt) := by rw [ex_427]; exact sub_ti (a := x_425.toInt) (b := r_419.toInt) rfl rfl (by omega) (by omega)
          refine va_iast hx hb hK hP hD hS 1 1 rfl rfl (vin (a := 1) (by decide) (by decide) (by decide)) dX7_take_129 (fun H locs hP hD hS => ?_)
          obtain ⟨f_428, ef_428, hP, hD⟩ : ∃ f_428 : Nat → Int32, f_428 = upd M_cloth (1 : Int32).toNatClampNeg x_427 ∧ va_P D vwCl [(A_self, .inr (7, o7 q v w)), (q 55, .inl (c 1, 6, .inl f_428))] H ∧ va_D A [(A_self, .inr (7, o7 q v w)), (q 55, .inl (c 1, 6, .inl f_428))] := ⟨_, rfl, hP, hD⟩
          have cl_429 : (f_428 0).toInt = (M_cloth 0).toInt := by rw [ef_428]; rfl
          have cl_430 : (f_428 1).toInt = x_427.toInt := by rw [ef_428]; rfl
          have cl_431 : (f_428 2).toInt = (M_cloth 2).toInt := by rw [ef_428]; rfl
          have cl_432 : (f_428 3).toInt = (M_cloth 3).toInt := by rw [ef_428]; rfl
          have cl_433 : (f_428 4).toInt = (M_cloth 4).toInt := by rw [ef_428]; rfl
          have cl_434 : (f_428 5).toInt = (M_cloth 5).toInt := by rw [ef_428]; rfl
          refine lv_iinc (v := 2) (lv' := [(3, .int 2), (4, .int r_419), (0, .ref A_self), (1, .int a1), (2, .int L2)]) hx hb dX7_take_130 hl (k := 1) rfl (by decide) (by decide) rfl (fun ls hl => ?_)
          refine lv_goto (tgt := 30) hx hb dX7_take_133 (by decide) ?_
          have hl := lv_sub hl [0, 2, 3, 4] rfl
          exact lp_30_2 L2 f_428 (by omega) (by omega) (by omega) (by omega) (by omega) (by omega) (by omega) _ _ _ hP hD hS hl
        · skip
          refine lv_iload_n hx hb dX7_take_54 rfl (lv_at hl 1 rfl) ?_
          refine lv_iconst (v := 1) hx hb dX7_take_55 (by decide) ?_
          refine lv_iadd hx hb dX7_take_56 ?_
          refine lk_i (y := 2) (by decide) ?_
          refine lv_istore (lv' := [(5, .int 2), (4, .int r_419), (3, .int 1), (0, .ref A_self), (1, .int a1), (2, .int L2)]) hx hb dX7_take_57 hl (by decide) rfl (fun ls hl => ?_)
          refine lv_aload_n hx hb dX7_take_59 rfl (lv_at hl 3 rfl) ?_
          refine va_get (D := D) (ci := 7) (v := .ref (q 55)) (C := RX7) (T := TX7) (N := 56) hx hb hts (fun _ h => List.mem_cons_of_mem _ (List.mem_append_right _ h)) hown hK hP 0 rfl rfl 55 (by decide) (hts (.fieldLink RX7 118 "CrownTableModel" "cloth" "[I") (mem_i 2 rfl)) (fun _ h9 => h9) rfl dX7_take_60 ?_
          refine lv_iload hx hb dX7_take_63 (lv_at hl 0 rfl) ?_
          refine va_iald hx hb hK hP 1 1 rfl rfl (vin (a := 2) (by decide) (by decide) (by decide)) dX7_take_65 ?_
          refine lv_topi (fun x_435 ex_435 => ?_)
          have lf_436 : (M_cloth 2).toInt = x_435.toInt := by rw [ex_435]; rfl
          refine iif_ne (a := x_435.toInt) (tgt := 75) hx hb rfl dX7_take_66 (by decide) (fun k_437 => ?_) (fun k_437 => ?_)
          · skip
            refine lv_iload hx hb dX7_take_75 (lv_at hl 0 rfl) ?_
            refine lv_iload_n hx hb dX7_take_77 rfl (lv_at hl 2 rfl) ?_
            refine iicmp_leF (a := 2) (b := 1) (tgt := 116) hx hb (by decide) (by decide) dX7_take_78 (by decide) (by decide) ?_
            refine lv_aload_n hx hb dX7_take_81 rfl (lv_at hl 3 rfl) ?_
            refine va_get (D := D) (ci := 7) (v := .ref (q 55)) (C := RX7) (T := TX7) (N := 56) hx hb hts (fun _ h => List.mem_cons_of_mem _ (List.mem_append_right _ h)) hown hK hP 0 rfl rfl 55 (by decide) (hts (.fieldLink RX7 118 "CrownTableModel" "cloth" "[I") (mem_i 2 rfl)) (fun _ h9 => h9) rfl dX7_take_82 ?_
            refine lv_iload hx hb dX7_take_85 (lv_at hl 0 rfl) ?_
            refine lv_dup2_11 hx hb dX7_take_87 rfl rfl ?_
            refine va_iald hx hb hK hP 1 1 rfl rfl (vin (a := 2) (by decide) (by decide) (by decide)) dX7_take_88 ?_
            refine lv_topi (fun x_438 ex_438 => ?_)
            have lf_439 : (M_cloth 2).toInt = x_438.toInt := by rw [ex_438]; rfl
            refine lv_iconst (v := 1) hx hb dX7_take_89 (by decide) ?_
            refine lv_isub hx hb dX7_take_90 ?_
            refine lv_topi (fun x_440 ex_440 => ?_)
            have tx_440 : x_440.toInt = (x_438.toInt - 1) := by rw [ex_440]; exact sub_ti (a := x_438.toInt) (b := 1) rfl (by decide) (by omega) (by omega)
            refine va_iast hx hb hK hP hD hS 1 1 rfl rfl (vin (a := 2) (by decide) (by decide) (by decide)) dX7_take_91 (fun H locs hP hD hS => ?_)
            obtain ⟨f_441, ef_441, hP, hD⟩ : ∃ f_441 : Nat → Int32, f_441 = upd M_cloth (2 : Int32).toNatClampNeg x_440 ∧ va_P D vwCl [(A_self, .inr (7, o7 q v w)), (q 55, .inl (c 1, 6, .inl f_441))] H ∧ va_D A [(A_self, .inr (7, o7 q v w)), (q 55, .inl (c 1, 6, .inl f_441))] := ⟨_, rfl, hP, hD⟩
            have cl_442 : (f_441 0).toInt = (M_cloth 0).toInt := by rw [ef_441]; rfl
            have cl_443 : (f_441 1).toInt = (M_cloth 1).toInt := by rw [ef_441]; rfl
            have cl_444 : (f_441 2).toInt = x_440.toInt := by rw [ef_441]; rfl
            have cl_445 : (f_441 3).toInt = (M_cloth 3).toInt := by rw [ef_441]; rfl
            have cl_446 : (f_441 4).toInt = (M_cloth 4).toInt := by rw [ef_441]; rfl
            have cl_447 : (f_441 5).toInt = (M_cloth 5).toInt := by rw [ef_441]; rfl
            refine lv_iinc (v := 1) (lv' := [(5, .int 1), (4, .int r_419), (3, .int 1), (0, .ref A_self), (1, .int a1), (2, .int L2)]) hx hb dX7_take_92 hl (k := 0) rfl (by decide) (by decide) rfl (fun ls hl => ?_)
            refine lv_aload_n hx hb dX7_take_95 rfl (lv_at hl 3 rfl) ?_
            refine va_get (D := D) (ci := 7) (v := .ref (q 55)) (C := RX7) (T := TX7) (N := 56) hx hb hts (fun _ h => List.mem_cons_of_mem _ (List.mem_append_right _ h)) hown hK hP 0 rfl rfl 55 (by decide) (hts (.fieldLink RX7 118 "CrownTableModel" "cloth" "[I") (mem_i 2 rfl)) (fun _ h9 => h9) rfl dX7_take_96 ?_
            refine lv_iload hx hb dX7_take_99 (lv_at hl 0 rfl) ?_
            refine lv_dup2_11 hx hb dX7_take_101 rfl rfl ?_
            refine va_iald hx hb hK hP 1 1 rfl rfl (vin (a := 1) (by decide) (by decide) (by decide)) dX7_take_102 ?_
            refine lv_topi (fun x_448 ex_448 => ?_)
            have lf_449 : (f_441 1).toInt = x_448.toInt := by rw [ex_448]; rfl
            refine lv_iload hx hb dX7_take_103 (lv_at hl 0 rfl) ?_
            have hPc := hP.sub (ws' := []) [] rfl
            have hDc := hD.sub (ws' := []) [] (by decide) rfl
            have hFc := va_free (wc := []) hD hS hA [] rfl
            have kzz_450 : (1 : Int32).toInt = 1 := by decide
            refine va_csi (va_runS (As := [.int 1]) (rest := [.int x_448, .int 1, .ref (q 55)]) ⟨hx, hb, hml, hown, hts⟩ (k_X7_next l D c ts H.size 1 1 (by decide) (by omega)) (cwS 1 hts gX7_take_X7_next rfl rfl rfl ⟨rfl, hdX7_next⟩ ⟨(show 1 + 1 ≤ 2 by decide), (show 8 + (1 + 11) + 20 ≤ 43 by decide)⟩) ⟨Pre0.blind, Pre0.at hPc hDc hAm hSt hS hFc⟩ rfl rfl hl.1 rfl (lv_room (Nat.le_of_ble_eq_true rfl)) dX7_take_105 ⟨(show 0 + 0 ≤ 0 by decide), (show 0 + 0 ≤ 0 by decide)⟩) (fun r_452 hw_451 => ?_)
            rcases hw_451 with ⟨hw_451, rfl⟩ | ⟨hw_451, rfl⟩ | ⟨hw_451, rfl⟩ | ⟨hw_451, rfl⟩
            · exfalso; omega
            · skip
              refine lv_iadd hx hb dX7_take_108 ?_
              refine lv_topi (fun x_453 ex_453 => ?_)
              have tx_453 : x_453.toInt = (x_448.toInt + 20) := by rw [ex_453]; exact add_ti (a := x_448.toInt) (b := 20) rfl (by decide) (by omega) (by omega)
              refine va_iast hx hb hK hP hD hS 1 1 rfl rfl (vin (a := 1) (by decide) (by decide) (by decide)) dX7_take_109 (fun H locs hP hD hS => ?_)
              obtain ⟨f_454, ef_454, hP, hD⟩ : ∃ f_454 : Nat → Int32, f_454 = upd f_441 (1 : Int32).toNatClampNeg x_453 ∧ va_P D vwCl [(A_self, .inr (7, o7 q v w)), (q 55, .inl (c 1, 6, .inl f_454))] H ∧ va_D A [(A_self, .inr (7, o7 q v w)), (q 55, .inl (c 1, 6, .inl f_454))] := ⟨_, rfl, hP, hD⟩
              have cl_455 : (f_454 0).toInt = (f_441 0).toInt := by rw [ef_454]; rfl
              have cl_456 : (f_454 1).toInt = x_453.toInt := by rw [ef_454]; rfl
              have cl_457 : (f_454 2).toInt = (f_441 2).toInt := by rw [ef_454]; rfl
              have cl_458 : (f_454 3).toInt = (f_441 3).toInt := by rw [ef_454]; rfl
              have cl_459 : (f_454 4).toInt = (f_441 4).toInt := by rw [ef_454]; rfl
              have cl_460 : (f_454 5).toInt = (f_441 5).toInt := by rw [ef_454]; rfl
              obtain ⟨x_461, ex_461⟩ : ∃ y : Int32, y = L2 + 1 := ⟨_, rfl⟩
              refine lv_iinc (v := x_461) (lv' := [(2, .int x_461), (5, .int 1), (4, .int r_419), (3, .int 1), (0, .ref A_self), (1, .int a1)]) hx hb dX7_take_110 hl (k := 5) rfl (by rw [ex_461]; rfl) (by decide) rfl (fun ls hl => ?_)
              refine lv_goto (tgt := 75) hx hb dX7_take_113 (by decide) ?_
              refine lv_iload hx hb dX7_take_75 (lv_at hl 1 rfl) ?_
              refine lv_iload_n hx hb dX7_take_77 rfl (lv_at hl 3 rfl) ?_
              refine iicmp_leT (a := 1) (b := 1) (tgt := 116) hx hb (by decide) (by decide) dX7_take_78 (by decide) (by decide) ?_
              refine lv_goto (tgt := 43) hx hb dX7_take_116 (by decide) ?_
              refine lv_aload_n hx hb dX7_take_43 rfl (lv_at hl 4 rfl) ?_
              refine va_get (D := D) (ci := 7) (v := .ref (q 55)) (C := RX7) (T := TX7) (N := 56) hx hb hts (fun _ h => List.mem_cons_of_mem _ (List.mem_append_right _ h)) hown hK hP 0 rfl rfl 55 (by decide) (hts (.fieldLink RX7 118 "CrownTableModel" "cloth" "[I") (mem_i 2 rfl)) (fun _ h9 => h9) rfl dX7_take_44 ?_
              refine lv_iload_n hx hb dX7_take_47 rfl (lv_at hl 3 rfl) ?_
              refine va_iald hx hb hK hP 1 1 rfl rfl (vin (a := 1) (by decide) (by decide) (by decide)) dX7_take_48 ?_
              refine lv_topi (fun x_462 ex_462 => ?_)
              have lf_463 : (f_454 1).toInt = x_462.toInt := by rw [ex_462]; rfl
              refine lv_iload hx hb dX7_take_49 (lv_at hl 2 rfl) ?_
              refine iicmp_ge (a := x_462.toInt) (b := r_419.toInt) (tgt := 119) hx hb rfl rfl dX7_take_51 (by decide) (fun k_464 => ?_) (fun k_464 => ?_)
              · skip
                refine lv_aload_n hx hb dX7_take_119 rfl (lv_at hl 4 rfl) ?_
                refine va_get (D := D) (ci := 7) (v := .ref (q 55)) (C := RX7) (T := TX7) (N := 56) hx hb hts (fun _ h => List.mem_cons_of_mem _ (List.mem_append_right _ h)) hown hK hP 0 rfl rfl 55 (by decide) (hts (.fieldLink RX7 118 "CrownTableModel" "cloth" "[I") (mem_i 2 rfl)) (fun _ h9 => h9) rfl dX7_take_120 ?_
                refine lv_iload_n hx hb dX7_take_123 rfl (lv_at hl 3 rfl) ?_
                refine lv_dup2_11 hx hb dX7_take_124 rfl rfl ?_
                refine va_iald hx hb hK hP 1 1 rfl rfl (vin (a := 1) (by decide) (by decide) (by decide)) dX7_take_125 ?_
                refine lv_topi (fun x_465 ex_465 => ?_)
                have lf_466 : (f_454 1).toInt = x_465.toInt := by rw [ex_465]; rfl
                refine lv_iload hx hb dX7_take_126 (lv_at hl 2 rfl) ?_
                refine lv_isub hx hb dX7_take_128 ?_
                refine lv_topi (fun x_467 ex_467 => ?_)
                have tx_467 : x_467.toInt = (x_465.toInt - r_419.toInt) := by rw [ex_467]; exact sub_ti (a := x_465.toInt) (b := r_419.toInt) rfl rfl (by omega) (by omega)
                refine va_iast hx hb hK hP hD hS 1 1 rfl rfl (vin (a := 1) (by decide) (by decide) (by decide)) dX7_take_129 (fun H locs hP hD hS => ?_)
                obtain ⟨f_468, ef_468, hP, hD⟩ : ∃ f_468 : Nat → Int32, f_468 = upd f_454 (1 : Int32).toNatClampNeg x_467 ∧ va_P D vwCl [(A_self, .inr (7, o7 q v w)), (q 55, .inl (c 1, 6, .inl f_468))] H ∧ va_D A [(A_self, .inr (7, o7 q v w)), (q 55, .inl (c 1, 6, .inl f_468))] := ⟨_, rfl, hP, hD⟩
                have cl_469 : (f_468 0).toInt = (f_454 0).toInt := by rw [ef_468]; rfl
                have cl_470 : (f_468 1).toInt = x_467.toInt := by rw [ef_468]; rfl
                have cl_471 : (f_468 2).toInt = (f_454 2).toInt := by rw [ef_468]; rfl
                have cl_472 : (f_468 3).toInt = (f_454 3).toInt := by rw [ef_468]; rfl
                have cl_473 : (f_468 4).toInt = (f_454 4).toInt := by rw [ef_468]; rfl
                have cl_474 : (f_468 5).toInt = (f_454 5).toInt := by rw [ef_468]; rfl
                refine lv_iinc (v := 2) (lv' := [(3, .int 2), (2, .int x_461), (5, .int 1), (4, .int r_419), (0, .ref A_self), (1, .int a1)]) hx hb dX7_take_130 hl (k := 3) rfl (by decide) (by decide) rfl (fun ls hl => ?_)
                refine lv_goto (tgt := 30) hx hb dX7_take_133 (by decide) ?_
                have hl := lv_sub hl [0, 4, 5, 1] rfl
                exact lp_30_2 x_461 f_468 (by omega) (by omega) (by omega) (by omega) (by omega) (by omega) (by omega) _ _ _ hP hD hS hl
              · skip
                exfalso; omega
            · exfalso; omega
            · exfalso; omega
          · skip
            refine lv_iinc (v := 3) (lv' := [(5, .int 3), (4, .int r_419), (3, .int 1), (0, .ref A_self), (1, .int a1), (2, .int L2)]) hx hb dX7_take_69 hl (k := 0) rfl (by decide) (by decide) rfl (fun ls hl => ?_)
            refine lv_goto (tgt := 59) hx hb dX7_take_72 (by decide) ?_
            refine lv_aload_n hx hb dX7_take_59 rfl (lv_at hl 3 rfl) ?_
            refine va_get (D := D) (ci := 7) (v := .ref (q 55)) (C := RX7) (T := TX7) (N := 56) hx hb hts (fun _ h => List.mem_cons_of_mem _ (List.mem_append_right _ h)) hown hK hP 0 rfl rfl 55 (by decide) (hts (.fieldLink RX7 118 "CrownTableModel" "cloth" "[I") (mem_i 2 rfl)) (fun _ h9 => h9) rfl dX7_take_60 ?_
            refine lv_iload hx hb dX7_take_63 (lv_at hl 0 rfl) ?_
            refine va_iald hx hb hK hP 1 1 rfl rfl (vin (a := 3) (by decide) (by decide) (by decide)) dX7_take_65 ?_
            refine lv_topi (fun x_475 ex_475 => ?_)
            have lf_476 : (M_cloth 3).toInt = x_475.toInt := by rw [ex_475]; rfl
            refine iif_ne (a := x_475.toInt) (tgt := 75) hx hb rfl dX7_take_66 (by decide) (fun k_477 => ?_) (fun k_477 => ?_)
            · skip
              refine lv_iload hx hb dX7_take_75 (lv_at hl 0 rfl) ?_
              refine lv_iload_n hx hb dX7_take_77 rfl (lv_at hl 2 rfl) ?_
              refine iicmp_leF (a := 3) (b := 1) (tgt := 116) hx hb (by decide) (by decide) dX7_take_78 (by decide) (by decide) ?_
              refine lv_aload_n hx hb dX7_take_81 rfl (lv_at hl 3 rfl) ?_
              refine va_get (D := D) (ci := 7) (v := .ref (q 55)) (C := RX7) (T := TX7) (N := 56) hx hb hts (fun _ h => List.mem_cons_of_mem _ (List.mem_append_right _ h)) hown hK hP 0 rfl rfl 55 (by decide) (hts (.fieldLink RX7 118 "CrownTableModel" "cloth" "[I") (mem_i 2 rfl)) (fun _ h9 => h9) rfl dX7_take_82 ?_
              refine lv_iload hx hb dX7_take_85 (lv_at hl 0 rfl) ?_
              refine lv_dup2_11 hx hb dX7_take_87 rfl rfl ?_
              refine va_iald hx hb hK hP 1 1 rfl rfl (vin (a := 3) (by decide) (by decide) (by decide)) dX7_take_88 ?_
              refine lv_topi (fun x_478 ex_478 => ?_)
              have lf_479 : (M_cloth 3).toInt = x_478.toInt := by rw [ex_478]; rfl
              refine lv_iconst (v := 1) hx hb dX7_take_89 (by decide) ?_
              refine lv_isub hx hb dX7_take_90 ?_
              refine lv_topi (fun x_480 ex_480 => ?_)
              have tx_480 : x_480.toInt = (x_478.toInt - 1) := by rw [ex_480]; exact sub_ti (a := x_478.toInt) (b := 1) rfl (by decide) (by omega) (by omega)
              refine va_iast hx hb hK hP hD hS 1 1 rfl rfl (vin (a := 3) (by decide) (by decide) (by decide)) dX7_take_91 (fun H locs hP hD hS => ?_)
              obtain ⟨f_481, ef_481, hP, hD⟩ : ∃ f_481 : Nat → Int32, f_481 = upd M_cloth (3 : Int32).toNatClampNeg x_480 ∧ va_P D vwCl [(A_self, .inr (7, o7 q v w)), (q 55, .inl (c 1, 6, .inl f_481))] H ∧ va_D A [(A_self, .inr (7, o7 q v w)), (q 55, .inl (c 1, 6, .inl f_481))] := ⟨_, rfl, hP, hD⟩
              have cl_482 : (f_481 0).toInt = (M_cloth 0).toInt := by rw [ef_481]; rfl
              have cl_483 : (f_481 1).toInt = (M_cloth 1).toInt := by rw [ef_481]; rfl
              have cl_484 : (f_481 2).toInt = (M_cloth 2).toInt := by rw [ef_481]; rfl
              have cl_485 : (f_481 3).toInt = x_480.toInt := by rw [ef_481]; rfl
              have cl_486 : (f_481 4).toInt = (M_cloth 4).toInt := by rw [ef_481]; rfl
              have cl_487 : (f_481 5).toInt = (M_cloth 5).toInt := by rw [ef_481]; rfl
              refine lv_iinc (v := 2) (lv' := [(5, .int 2), (4, .int r_419), (3, .int 1), (0, .ref A_self), (1, .int a1), (2, .int L2)]) hx hb dX7_take_92 hl (k := 0) rfl (by decide) (by decide) rfl (fun ls hl => ?_)
              refine lv_aload_n hx hb dX7_take_95 rfl (lv_at hl 3 rfl) ?_
              refine va_get (D := D) (ci := 7) (v := .ref (q 55)) (C := RX7) (T := TX7) (N := 56) hx hb hts (fun _ h => List.mem_cons_of_mem _ (List.mem_append_right _ h)) hown hK hP 0 rfl rfl 55 (by decide) (hts (.fieldLink RX7 118 "CrownTableModel" "cloth" "[I") (mem_i 2 rfl)) (fun _ h9 => h9) rfl dX7_take_96 ?_
              refine lv_iload hx hb dX7_take_99 (lv_at hl 0 rfl) ?_
              refine lv_dup2_11 hx hb dX7_take_101 rfl rfl ?_
              refine va_iald hx hb hK hP 1 1 rfl rfl (vin (a := 2) (by decide) (by decide) (by decide)) dX7_take_102 ?_
              refine lv_topi (fun x_488 ex_488 => ?_)
              have lf_489 : (f_481 2).toInt = x_488.toInt := by rw [ex_488]; rfl
              refine lv_iload hx hb dX7_take_103 (lv_at hl 0 rfl) ?_
              have hPc := hP.sub (ws' := []) [] rfl
              have hDc := hD.sub (ws' := []) [] (by decide) rfl
              have hFc := va_free (wc := []) hD hS hA [] rfl
              have kzz_490 : (2 : Int32).toInt = 2 := by decide
              refine va_csi (va_runS (As := [.int 2]) (rest := [.int x_488, .int 2, .ref (q 55)]) ⟨hx, hb, hml, hown, hts⟩ (k_X7_next l D c ts H.size 2 2 (by decide) (by omega)) (cwS 1 hts gX7_take_X7_next rfl rfl rfl ⟨rfl, hdX7_next⟩ ⟨(show 1 + 1 ≤ 2 by decide), (show 8 + (1 + 11) + 20 ≤ 43 by decide)⟩) ⟨Pre0.blind, Pre0.at hPc hDc hAm hSt hS hFc⟩ rfl rfl hl.1 rfl (lv_room (Nat.le_of_ble_eq_true rfl)) dX7_take_105 ⟨(show 0 + 0 ≤ 0 by decide), (show 0 + 0 ≤ 0 by decide)⟩) (fun r_492 hw_491 => ?_)
              rcases hw_491 with ⟨hw_491, rfl⟩ | ⟨hw_491, rfl⟩ | ⟨hw_491, rfl⟩ | ⟨hw_491, rfl⟩
              · exfalso; omega
              · skip
                refine lv_iadd hx hb dX7_take_108 ?_
                refine lv_topi (fun x_493 ex_493 => ?_)
                have tx_493 : x_493.toInt = (x_488.toInt + 20) := by rw [ex_493]; exact add_ti (a := x_488.toInt) (b := 20) rfl (by decide) (by omega) (by omega)
                refine va_iast hx hb hK hP hD hS 1 1 rfl rfl (vin (a := 2) (by decide) (by decide) (by decide)) dX7_take_109 (fun H locs hP hD hS => ?_)
                obtain ⟨f_494, ef_494, hP, hD⟩ : ∃ f_494 : Nat → Int32, f_494 = upd f_481 (2 : Int32).toNatClampNeg x_493 ∧ va_P D vwCl [(A_self, .inr (7, o7 q v w)), (q 55, .inl (c 1, 6, .inl f_494))] H ∧ va_D A [(A_self, .inr (7, o7 q v w)), (q 55, .inl (c 1, 6, .inl f_494))] := ⟨_, rfl, hP, hD⟩
                have cl_495 : (f_494 0).toInt = (f_481 0).toInt := by rw [ef_494]; rfl
                have cl_496 : (f_494 1).toInt = (f_481 1).toInt := by rw [ef_494]; rfl
                have cl_497 : (f_494 2).toInt = x_493.toInt := by rw [ef_494]; rfl
                have cl_498 : (f_494 3).toInt = (f_481 3).toInt := by rw [ef_494]; rfl
                have cl_499 : (f_494 4).toInt = (f_481 4).toInt := by rw [ef_494]; rfl
                have cl_500 : (f_494 5).toInt = (f_481 5).toInt := by rw [ef_494]; rfl
                obtain ⟨x_501, ex_501⟩ : ∃ y : Int32, y = L2 + 1 := ⟨_, rfl⟩
                refine lv_iinc (v := x_501) (lv' := [(2, .int x_501), (5, .int 2), (4, .int r_419), (3, .int 1), (0, .ref A_self), (1, .int a1)]) hx hb dX7_take_110 hl (k := 5) rfl (by rw [ex_501]; rfl) (by decide) rfl (fun ls hl => ?_)
                refine lv_goto (tgt := 75) hx hb dX7_take_113 (by decide) ?_
                refine lv_iload hx hb dX7_take_75 (lv_at hl 1 rfl) ?_
                refine lv_iload_n hx hb dX7_take_77 rfl (lv_at hl 3 rfl) ?_
                refine iicmp_leF (a := 2) (b := 1) (tgt := 116) hx hb (by decide) (by decide) dX7_take_78 (by decide) (by decide) ?_
                refine lv_aload_n hx hb dX7_take_81 rfl (lv_at hl 4 rfl) ?_
                refine va_get (D := D) (ci := 7) (v := .ref (q 55)) (C := RX7) (T := TX7) (N := 56) hx hb hts (fun _ h => List.mem_cons_of_mem _ (List.mem_append_right _ h)) hown hK hP 0 rfl rfl 55 (by decide) (hts (.fieldLink RX7 118 "CrownTableModel" "cloth" "[I") (mem_i 2 rfl)) (fun _ h9 => h9) rfl dX7_take_82 ?_
                refine lv_iload hx hb dX7_take_85 (lv_at hl 1 rfl) ?_
                refine lv_dup2_11 hx hb dX7_take_87 rfl rfl ?_
                refine va_iald hx hb hK hP 1 1 rfl rfl (vin (a := 2) (by decide) (by decide) (by decide)) dX7_take_88 ?_
                refine lv_topi (fun x_502 ex_502 => ?_)
                have lf_503 : (f_494 2).toInt = x_502.toInt := by rw [ex_502]; rfl
                refine lv_iconst (v := 1) hx hb dX7_take_89 (by decide) ?_
                refine lv_isub hx hb dX7_take_90 ?_
                refine lv_topi (fun x_504 ex_504 => ?_)
                have tx_504 : x_504.toInt = (x_502.toInt - 1) := by rw [ex_504]; exact sub_ti (a := x_502.toInt) (b := 1) rfl (by decide) (by omega) (by omega)
                refine va_iast hx hb hK hP hD hS 1 1 rfl rfl (vin (a := 2) (by decide) (by decide) (by decide)) dX7_take_91 (fun H locs hP hD hS => ?_)
                obtain ⟨f_505, ef_505, hP, hD⟩ : ∃ f_505 : Nat → Int32, f_505 = upd f_494 (2 : Int32).toNatClampNeg x_504 ∧ va_P D vwCl [(A_self, .inr (7, o7 q v w)), (q 55, .inl (c 1, 6, .inl f_505))] H ∧ va_D A [(A_self, .inr (7, o7 q v w)), (q 55, .inl (c 1, 6, .inl f_505))] := ⟨_, rfl, hP, hD⟩
                have cl_506 : (f_505 0).toInt = (f_494 0).toInt := by rw [ef_505]; rfl
                have cl_507 : (f_505 1).toInt = (f_494 1).toInt := by rw [ef_505]; rfl
                have cl_508 : (f_505 2).toInt = x_504.toInt := by rw [ef_505]; rfl
                have cl_509 : (f_505 3).toInt = (f_494 3).toInt := by rw [ef_505]; rfl
                have cl_510 : (f_505 4).toInt = (f_494 4).toInt := by rw [ef_505]; rfl
                have cl_511 : (f_505 5).toInt = (f_494 5).toInt := by rw [ef_505]; rfl
                refine lv_iinc (v := 1) (lv' := [(5, .int 1), (2, .int x_501), (4, .int r_419), (3, .int 1), (0, .ref A_self), (1, .int a1)]) hx hb dX7_take_92 hl (k := 1) rfl (by decide) (by decide) rfl (fun ls hl => ?_)
                refine lv_aload_n hx hb dX7_take_95 rfl (lv_at hl 4 rfl) ?_
                refine va_get (D := D) (ci := 7) (v := .ref (q 55)) (C := RX7) (T := TX7) (N := 56) hx hb hts (fun _ h => List.mem_cons_of_mem _ (List.mem_append_right _ h)) hown hK hP 0 rfl rfl 55 (by decide) (hts (.fieldLink RX7 118 "CrownTableModel" "cloth" "[I") (mem_i 2 rfl)) (fun _ h9 => h9) rfl dX7_take_96 ?_
                refine lv_iload hx hb dX7_take_99 (lv_at hl 0 rfl) ?_
                refine lv_dup2_11 hx hb dX7_take_101 rfl rfl ?_
                refine va_iald hx hb hK hP 1 1 rfl rfl (vin (a := 1) (by decide) (by decide) (by decide)) dX7_take_102 ?_
                refine lv_topi (fun x_512 ex_512 => ?_)
                have lf_513 : (f_505 1).toInt = x_512.toInt := by rw [ex_512]; rfl
                refine lv_iload hx hb dX7_take_103 (lv_at hl 0 rfl) ?_
                have hPc := hP.sub (ws' := []) [] rfl
                have hDc := hD.sub (ws' := []) [] (by decide) rfl
                have hFc := va_free (wc := []) hD hS hA [] rfl
                have kzz_514 : (1 : Int32).toInt = 1 := by decide
                refine va_csi (va_runS (As := [.int 1]) (rest := [.int x_512, .int 1, .ref (q 55)]) ⟨hx, hb, hml, hown, hts⟩ (k_X7_next l D c ts H.size 1 1 (by decide) (by omega)) (cwS 1 hts gX7_take_X7_next rfl rfl rfl ⟨rfl, hdX7_next⟩ ⟨(show 1 + 1 ≤ 2 by decide), (show 8 + (1 + 11) + 20 ≤ 43 by decide)⟩) ⟨Pre0.blind, Pre0.at hPc hDc hAm hSt hS hFc⟩ rfl rfl hl.1 rfl (lv_room (Nat.le_of_ble_eq_true rfl)) dX7_take_105 ⟨(show 0 + 0 ≤ 0 by decide), (show 0 + 0 ≤ 0 by decide)⟩) (fun r_516 hw_515 => ?_)
                rcases hw_515 with ⟨hw_515, rfl⟩ | ⟨hw_515, rfl⟩ | ⟨hw_515, rfl⟩ | ⟨hw_515, rfl⟩
                · exfalso; omega
                · skip
                  refine lv_iadd hx hb dX7_take_108 ?_
                  refine lv_topi (fun x_517 ex_517 => ?_)
                  have tx_517 : x_517.toInt = (x_512.toInt + 20) := by rw [ex_517]; exact add_ti (a := x_512.toInt) (b := 20) rfl (by decide) (by omega) (by omega)
                  refine va_iast hx hb hK hP hD hS 1 1 rfl rfl (vin (a := 1) (by decide) (by decide) (by decide)) dX7_take_109 (fun H locs hP hD hS => ?_)
                  obtain ⟨f_518, ef_518, hP, hD⟩ : ∃ f_518 : Nat → Int32, f_518 = upd f_505 (1 : Int32).toNatClampNeg x_517 ∧ va_P D vwCl [(A_self, .inr (7, o7 q v w)), (q 55, .inl (c 1, 6, .inl f_518))] H ∧ va_D A [(A_self, .inr (7, o7 q v w)), (q 55, .inl (c 1, 6, .inl f_518))] := ⟨_, rfl, hP, hD⟩
                  have cl_519 : (f_518 0).toInt = (f_505 0).toInt := by rw [ef_518]; rfl
                  have cl_520 : (f_518 1).toInt = x_517.toInt := by rw [ef_518]; rfl
                  have cl_521 : (f_518 2).toInt = (f_505 2).toInt := by rw [ef_518]; rfl
                  have cl_522 : (f_518 3).toInt = (f_505 3).toInt := by rw [ef_518]; rfl
                  have cl_523 : (f_518 4).toInt = (f_505 4).toInt := by rw [ef_518]; rfl
                  have cl_524 : (f_518 5).toInt = (f_505 5).toInt := by rw [ef_518]; rfl
                  obtain ⟨x_525, ex_525⟩ : ∃ y : Int32, y = x_501 + 1 := ⟨_, rfl⟩
                  refine lv_iinc (v := x_525) (lv' := [(2, .int x_525), (5, .int 1), (4, .int r_419), (3, .int 1), (0, .ref A_self), (1, .int a1)]) hx hb dX7_take_110 hl (k := 1) rfl (by rw [ex_525]; rfl) (by decide) rfl (fun ls hl => ?_)
                  refine lv_goto (tgt := 75) hx hb dX7_take_113 (by decide) ?_
                  refine lv_iload hx hb dX7_take_75 (lv_at hl 1 rfl) ?_
                  refine lv_iload_n hx hb dX7_take_77 rfl (lv_at hl 3 rfl) ?_
                  refine iicmp_leT (a := 1) (b := 1) (tgt := 116) hx hb (by decide) (by decide) dX7_take_78 (by decide) (by decide) ?_
                  refine lv_goto (tgt := 43) hx hb dX7_take_116 (by decide) ?_
                  refine lv_aload_n hx hb dX7_take_43 rfl (lv_at hl 4 rfl) ?_
                  refine va_get (D := D) (ci := 7) (v := .ref (q 55)) (C := RX7) (T := TX7) (N := 56) hx hb hts (fun _ h => List.mem_cons_of_mem _ (List.mem_append_right _ h)) hown hK hP 0 rfl rfl 55 (by decide) (hts (.fieldLink RX7 118 "CrownTableModel" "cloth" "[I") (mem_i 2 rfl)) (fun _ h9 => h9) rfl dX7_take_44 ?_
                  refine lv_iload_n hx hb dX7_take_47 rfl (lv_at hl 3 rfl) ?_
                  refine va_iald hx hb hK hP 1 1 rfl rfl (vin (a := 1) (by decide) (by decide) (by decide)) dX7_take_48 ?_
                  refine lv_topi (fun x_526 ex_526 => ?_)
                  have lf_527 : (f_518 1).toInt = x_526.toInt := by rw [ex_526]; rfl
                  refine lv_iload hx hb dX7_take_49 (lv_at hl 2 rfl) ?_
                  refine iicmp_ge (a := x_526.toInt) (b := r_419.toInt) (tgt := 119) hx hb rfl rfl dX7_take_51 (by decide) (fun k_528 => ?_) (fun k_528 => ?_)
                  · skip
                    refine lv_aload_n hx hb dX7_take_119 rfl (lv_at hl 4 rfl) ?_
                    refine va_get (D := D) (ci := 7) (v := .ref (q 55)) (C := RX7) (T := TX7) (N := 56) hx hb hts (fun _ h => List.mem_cons_of_mem _ (List.mem_append_right _ h)) hown hK hP 0 rfl rfl 55 (by decide) (hts (.fieldLink RX7 118 "CrownTableModel" "cloth" "[I") (mem_i 2 rfl)) (fun _ h9 => h9) rfl dX7_take_120 ?_
                    refine lv_iload_n hx hb dX7_take_123 rfl (lv_at hl 3 rfl) ?_
                    refine lv_dup2_11 hx hb dX7_take_124 rfl rfl ?_
                    refine va_iald hx hb hK hP 1 1 rfl rfl (vin (a := 1) (by decide) (by decide) (by decide)) dX7_take_125 ?_
                    refine lv_topi (fun x_529 ex_529 => ?_)
                    have lf_530 : (f_518 1).toInt = x_529.toInt := by rw [ex_529]; rfl
                    refine lv_iload hx hb dX7_take_126 (lv_at hl 2 rfl) ?_
                    refine lv_isub hx hb dX7_take_128 ?_
                    refine lv_topi (fun x_531 ex_531 => ?_)
                    have tx_531 : x_531.toInt = (x_529.toInt - r_419.toInt) := by rw [ex_531]; exact sub_ti (a := x_529.toInt) (b := r_419.toInt) rfl rfl (by omega) (by omega)
                    refine va_iast hx hb hK hP hD hS 1 1 rfl rfl (vin (a := 1) (by decide) (by decide) (by decide)) dX7_take_129 (fun H locs hP hD hS => ?_)
                    obtain ⟨f_532, ef_532, hP, hD⟩ : ∃ f_532 : Nat → Int32, f_532 = upd f_518 (1 : Int32).toNatClampNeg x_531 ∧ va_P D vwCl [(A_self, .inr (7, o7 q v w)), (q 55, .inl (c 1, 6, .inl f_532))] H ∧ va_D A [(A_self, .inr (7, o7 q v w)), (q 55, .inl (c 1, 6, .inl f_532))] := ⟨_, rfl, hP, hD⟩
                    have cl_533 : (f_532 0).toInt = (f_518 0).toInt := by rw [ef_532]; rfl
                    have cl_534 : (f_532 1).toInt = x_531.toInt := by rw [ef_532]; rfl
                    have cl_535 : (f_532 2).toInt = (f_518 2).toInt := by rw [ef_532]; rfl
                    have cl_536 : (f_532 3).toInt = (f_518 3).toInt := by rw [ef_532]; rfl
                    have cl_537 : (f_532 4).toInt = (f_518 4).toInt := by rw [ef_532]; rfl
                    have cl_538 : (f_532 5).toInt = (f_518 5).toInt := by rw [ef_532]; rfl
                    refine lv_iinc (v := 2) (lv' := [(3, .int 2), (2, .int x_525), (5, .int 1), (4, .int r_419), (0, .ref A_self), (1, .int a1)]) hx hb dX7_take_130 hl (k := 3) rfl (by decide) (by decide) rfl (fun ls hl => ?_)
                    refine lv_goto (tgt := 30) hx hb dX7_take_133 (by decide) ?_
                    have hl := lv_sub hl [0, 4, 5, 1] rfl
                    exact lp_30_2 x_525 f_532 (by omega) (by omega) (by omega) (by omega) (by omega) (by omega) (by omega) _ _ _ hP hD hS hl
                  · skip
                    exfalso; omega
                · exfalso; omega
                · exfalso; omega
              · exfalso; omega
              · exfalso; omega
            · skip
              refine lv_iinc (v := 4) (lv' := [(5, .int 4), (4, .int r_419), (3, .int 1), (0, .ref A_self), (1, .int a1), (2, .int L2)]) hx hb dX7_take_69 hl (k := 0) rfl (by decide) (by decide) rfl (fun ls hl => ?_)
              refine lv_goto (tgt := 59) hx hb dX7_take_72 (by decide) ?_
              refine lv_aload_n hx hb dX7_take_59 rfl (lv_at hl 3 rfl) ?_
              refine va_get (D := D) (ci := 7) (v := .ref (q 55)) (C := RX7) (T := TX7) (N := 56) hx hb hts (fun _ h => List.mem_cons_of_mem _ (List.mem_append_right _ h)) hown hK hP 0 rfl rfl 55 (by decide) (hts (.fieldLink RX7 118 "CrownTableModel" "cloth" "[I") (mem_i 2 rfl)) (fun _ h9 => h9) rfl dX7_take_60 ?_
              refine lv_iload hx hb dX7_take_63 (lv_at hl 0 rfl) ?_
              refine va_iald hx hb hK hP 1 1 rfl rfl (vin (a := 4) (by decide) (by decide) (by decide)) dX7_take_65 ?_
              refine lv_topi (fun x_539 ex_539 => ?_)
              have lf_540 : (M_cloth 4).toInt = x_539.toInt := by rw [ex_539]; rfl
              refine iif_ne (a := x_539.toInt) (tgt := 75) hx hb rfl dX7_take_66 (by decide) (fun k_541 => ?_) (fun k_541 => ?_)
              · skip
                refine lv_iload hx hb dX7_take_75 (lv_at hl 0 rfl) ?_
                refine lv_iload_n hx hb dX7_take_77 rfl (lv_at hl 2 rfl) ?_
                refine iicmp_leF (a := 4) (b := 1) (tgt := 116) hx hb (by decide) (by decide) dX7_take_78 (by decide) (by decide) ?_
                refine lv_aload_n hx hb dX7_take_81 rfl (lv_at hl 3 rfl) ?_
                refine va_get (D := D) (ci := 7) (v := .ref (q 55)) (C := RX7) (T := TX7) (N := 56) hx hb hts (fun _ h => List.mem_cons_of_mem _ (List.mem_append_right _ h)) hown hK hP 0 rfl rfl 55 (by decide) (hts (.fieldLink RX7 118 "CrownTableModel" "cloth" "[I") (mem_i 2 rfl)) (fun _ h9 => h9) rfl dX7_take_82 ?_
                refine lv_iload hx hb dX7_take_85 (lv_at hl 0 rfl) ?_
                refine lv_dup2_11 hx hb dX7_take_87 rfl rfl ?_
                refine va_iald hx hb hK hP 1 1 rfl rfl (vin (a := 4) (by decide) (by decide) (by decide)) dX7_take_88 ?_
                refine lv_topi (fun x_542 ex_542 => ?_)
                have lf_543 : (M_cloth 4).toInt = x_542.toInt := by rw [ex_542]; rfl
                refine lv_iconst (v := 1) hx hb dX7_take_89 (by decide) ?_
                refine lv_isub hx hb dX7_take_90 ?_
                refine lv_topi (fun x_544 ex_544 => ?_)
                have tx_544 : x_544.toInt = (x_542.toInt - 1) := by rw [ex_544]; exact sub_ti (a := x_542.toInt) (b := 1) rfl (by decide) (by omega) (by omega)
                refine va_iast hx hb hK hP hD hS 1 1 rfl rfl (vin (a := 4) (by decide) (by decide) (by decide)) dX7_take_91 (fun H locs hP hD hS => ?_)
                obtain ⟨f_545, ef_545, hP, hD⟩ : ∃ f_545 : Nat → Int32, f_545 = upd M_cloth (4 : Int32).toNatClampNeg x_544 ∧ va_P D vwCl [(A_self, .inr (7, o7 q v w)), (q 55, .inl (c 1, 6, .inl f_545))] H ∧ va_D A [(A_self, .inr (7, o7 q v w)), (q 55, .inl (c 1, 6, .inl f_545))] := ⟨_, rfl, hP, hD⟩
                have cl_546 : (f_545 0).toInt = (M_cloth 0).toInt := by rw [ef_545]; rfl
                have cl_547 : (f_545 1).toInt = (M_cloth 1).toInt := by rw [ef_545]; rfl
                have cl_548 : (f_545 2).toInt = (M_cloth 2).toInt := by rw [ef_545]; rfl
                have cl_549 : (f_545 3).toInt = (M_cloth 3).toInt := by rw [ef_545]; rfl
                have cl_550 : (f_545 4).toInt = x_544.toInt := by rw [ef_545]; rfl
                have cl_551 : (f_545 5).toInt = (M_cloth 5).toInt := by rw [ef_545]; rfl
                refine lv_iinc (v := 3) (lv' := [(5, .int 3), (4, .int r_419), (3, .int 1), (0, .ref A_self), (1, .int a1), (2, .int L2)]) hx hb dX7_take_92 hl (k := 0) rfl (by decide) (by decide) rfl (fun ls hl => ?_)
                refine lv_aload_n hx hb dX7_take_95 rfl (lv_at hl 3 rfl) ?_
                refine va_get (D := D) (ci := 7) (v := .ref (q 55)) (C := RX7) (T := TX7) (N := 56) hx hb hts (fun _ h => List.mem_cons_of_mem _ (List.mem_append_right _ h)) hown hK hP 0 rfl rfl 55 (by decide) (hts (.fieldLink RX7 118 "CrownTableModel" "cloth" "[I") (mem_i 2 rfl)) (fun _ h9 => h9) rfl dX7_take_96 ?_
                refine lv_iload hx hb dX7_take_99 (lv_at hl 0 rfl) ?_
                refine lv_dup2_11 hx hb dX7_take_101 rfl rfl ?_
                refine va_iald hx hb hK hP 1 1 rfl rfl (vin (a := 3) (by decide) (by decide) (by decide)) dX7_take_102 ?_
                refine lv_topi (fun x_552 ex_552 => ?_)
                have lf_553 : (f_545 3).toInt = x_552.toInt := by rw [ex_552]; rfl
                refine lv_iload hx hb dX7_take_103 (lv_at hl 0 rfl) ?_
                have hPc := hP.sub (ws' := []) [] rfl
                have hDc := hD.sub (ws' := []) [] (by decide) rfl
                have hFc := va_free (wc := []) hD hS hA [] rfl
                have kzz_554 : (3 : Int32).toInt = 3 := by decide
                refine va_csi (va_runS (As := [.int 3]) (rest := [.int x_552, .int 3, .ref (q 55)]) ⟨hx, hb, hml, hown, hts⟩ (k_X7_next l D c ts H.size 3 3 (by decide) (by omega)) (cwS 1 hts gX7_take_X7_next rfl rfl rfl ⟨rfl, hdX7_next⟩ ⟨(show 1 + 1 ≤ 2 by decide), (show 8 + (1 + 11) + 20 ≤ 43 by decide)⟩) ⟨Pre0.blind, Pre0.at hPc hDc hAm hSt hS hFc⟩ rfl rfl hl.1 rfl (lv_room (Nat.le_of_ble_eq_true rfl)) dX7_take_105 ⟨(show 0 + 0 ≤ 0 by decide), (show 0 + 0 ≤ 0 by decide)⟩) (fun r_556 hw_555 => ?_)
                rcases hw_555 with ⟨hw_555, rfl⟩ | ⟨hw_555, rfl⟩ | ⟨hw_555, rfl⟩ | ⟨hw_555, rfl⟩
                · exfalso; omega
                · exfalso; omega
                · skip
                  refine lv_iadd hx hb dX7_take_108 ?_
                  refine lv_topi (fun x_557 ex_557 => ?_)
                  have tx_557 : x_557.toInt = (x_552.toInt + 5) := by rw [ex_557]; exact add_ti (a := x_552.toInt) (b := 5) rfl (by decide) (by omega) (by omega)
                  refine va_iast hx hb hK hP hD hS 1 1 rfl rfl (vin (a := 3) (by decide) (by decide) (by decide)) dX7_take_109 (fun H locs hP hD hS => ?_)
                  obtain ⟨f_558, ef_558, hP, hD⟩ : ∃ f_558 : Nat → Int32, f_558 = upd f_545 (3 : Int32).toNatClampNeg x_557 ∧ va_P D vwCl [(A_self, .inr (7, o7 q v w)), (q 55, .inl (c 1, 6, .inl f_558))] H ∧ va_D A [(A_self, .inr (7, o7 q v w)), (q 55, .inl (c 1, 6, .inl f_558))] := ⟨_, rfl, hP, hD⟩
                  have cl_559 : (f_558 0).toInt = (f_545 0).toInt := by rw [ef_558]; rfl
                  have cl_560 : (f_558 1).toInt = (f_545 1).toInt := by rw [ef_558]; rfl
                  have cl_561 : (f_558 2).toInt = (f_545 2).toInt := by rw [ef_558]; rfl
                  have cl_562 : (f_558 3).toInt = x_557.toInt := by rw [ef_558]; rfl
                  have cl_563 : (f_558 4).toInt = (f_545 4).toInt := by rw [ef_558]; rfl
                  have cl_564 : (f_558 5).toInt = (f_545 5).toInt := by rw [ef_558]; rfl
                  obtain ⟨x_565, ex_565⟩ : ∃ y : Int32, y = L2 + 1 := ⟨_, rfl⟩
                  refine lv_iinc (v := x_565) (lv' := [(2, .int x_565), (5, .int 3), (4, .int r_419), (3, .int 1), (0, .ref A_self), (1, .int a1)]) hx hb dX7_take_110 hl (k := 5) rfl (by rw [ex_565]; rfl) (by decide) rfl (fun ls hl => ?_)
                  refine lv_goto (tgt := 75) hx hb dX7_take_113 (by decide) ?_
                  refine lv_iload hx hb dX7_take_75 (lv_at hl 1 rfl) ?_
                  refine lv_iload_n hx hb dX7_take_77 rfl (lv_at hl 3 rfl) ?_
                  refine iicmp_leF (a := 3) (b := 1) (tgt := 116) hx hb (by decide) (by decide) dX7_take_78 (by decide) (by decide) ?_
                  refine lv_aload_n hx hb dX7_take_81 rfl (lv_at hl 4 rfl) ?_
                  refine va_get (D := D) (ci := 7) (v := .ref (q 55)) (C := RX7) (T := TX7) (N := 56) hx hb hts (fun _ h => List.mem_cons_of_mem _ (List.mem_append_right _ h)) hown hK hP 0 rfl rfl 55 (by decide) (hts (.fieldLink RX7 118 "CrownTableModel" "cloth" "[I") (mem_i 2 rfl)) (fun _ h9 => h9) rfl dX7_take_82 ?_
                  refine lv_iload hx hb dX7_take_85 (lv_at hl 1 rfl) ?_
                  refine lv_dup2_11 hx hb dX7_take_87 rfl rfl ?_
                  refine va_iald hx hb hK hP 1 1 rfl rfl (vin (a := 3) (by decide) (by decide) (by decide)) dX7_take_88 ?_
                  refine lv_topi (fun x_566 ex_566 => ?_)
                  have lf_567 : (f_558 3).toInt = x_566.toInt := by rw [ex_566]; rfl
                  refine lv_iconst (v := 1) hx hb dX7_take_89 (by decide) ?_
                  refine lv_isub hx hb dX7_take_90 ?_
                  refine lv_topi (fun x_568 ex_568 => ?_)
                  have tx_568 : x_568.toInt = (x_566.toInt - 1) := by rw [ex_568]; exact sub_ti (a := x_566.toInt) (b := 1) rfl (by decide) (by omega) (by omega)
                  refine va_iast hx hb hK hP hD hS 1 1 rfl rfl (vin (a := 3) (by decide) (by decide) (by decide)) dX7_take_91 (fun H locs hP hD hS => ?_)
                  obtain ⟨f_569, ef_569, hP, hD⟩ : ∃ f_569 : Nat → Int32, f_569 = upd f_558 (3 : Int32).toNatClampNeg x_568 ∧ va_P D vwCl [(A_self, .inr (7, o7 q v w)), (q 55, .inl (c 1, 6, .inl f_569))] H ∧ va_D A [(A_self, .inr (7, o7 q v w)), (q 55, .inl (c 1, 6, .inl f_569))] := ⟨_, rfl, hP, hD⟩
                  have cl_570 : (f_569 0).toInt = (f_558 0).toInt := by rw [ef_569]; rfl
                  have cl_571 : (f_569 1).toInt = (f_558 1).toInt := by rw [ef_569]; rfl
                  have cl_572 : (f_569 2).toInt = (f_558 2).toInt := by rw [ef_569]; rfl
                  have cl_573 : (f_569 3).toInt = x_568.toInt := by rw [ef_569]; rfl
                  have cl_574 : (f_569 4).toInt = (f_558 4).toInt := by rw [ef_569]; rfl
                  have cl_575 : (f_569 5).toInt = (f_558 5).toInt := by rw [ef_569]; rfl
                  refine lv_iinc (v := 2) (lv' := [(5, .int 2), (2, .int x_565), (4, .int r_419), (3, .int 1), (0, .ref A_self), (1, .int a1)]) hx hb dX7_take_92 hl (k := 1) rfl (by decide) (by decide) rfl (fun ls hl => ?_)
                  refine lv_aload_n hx hb dX7_take_95 rfl (lv_at hl 4 rfl) ?_
                  refine va_get (D := D) (ci := 7) (v := .ref (q 55)) (C := RX7) (T := TX7) (N := 56) hx hb hts (fun _ h => List.mem_cons_of_mem _ (List.mem_append_right _ h)) hown hK hP 0 rfl rfl 55 (by decide) (hts (.fieldLink RX7 118 "CrownTableModel" "cloth" "[I") (mem_i 2 rfl)) (fun _ h9 => h9) rfl dX7_take_96 ?_
                  refine lv_iload hx hb dX7_take_99 (lv_at hl 0 rfl) ?_
                  refine lv_dup2_11 hx hb dX7_take_101 rfl rfl ?_
                  refine va_iald hx hb hK hP 1 1 rfl rfl (vin (a := 2) (by decide) (by decide) (by decide)) dX7_take_102 ?_
                  refine lv_topi (fun x_576 ex_576 => ?_)
                  have lf_577 : (f_569 2).toInt = x_576.toInt := by rw [ex_576]; rfl
                  refine lv_iload hx hb dX7_take_103 (lv_at hl 0 rfl) ?_
                  have hPc := hP.sub (ws' := []) [] rfl
                  have hDc := hD.sub (ws' := []) [] (by decide) rfl
                  have hFc := va_free (wc := []) hD hS hA [] rfl
                  have kzz_578 : (2 : Int32).toInt = 2 := by decide
                  refine va_csi (va_runS (As := [.int 2]) (rest := [.int x_576, .int 2, .ref (q 55)]) ⟨hx, hb, hml, hown, hts⟩ (k_X7_next l D c ts H.size 2 2 (by decide) (by omega)) (cwS 1 hts gX7_take_X7_next rfl rfl rfl ⟨rfl, hdX7_next⟩ ⟨(show 1 + 1 ≤ 2 by decide), (show 8 + (1 + 11) + 20 ≤ 43 by decide)⟩) ⟨Pre0.blind, Pre0.at hPc hDc hAm hSt hS hFc⟩ rfl rfl hl.1 rfl (lv_room (Nat.le_of_ble_eq_true rfl)) dX7_take_105 ⟨(show 0 + 0 ≤ 0 by decide), (show 0 + 0 ≤ 0 by decide)⟩) (fun r_580 hw_579 => ?_)
                  rcases hw_579 with ⟨hw_579, rfl⟩ | ⟨hw_579, rfl⟩ | ⟨hw_579, rfl⟩ | ⟨hw_579, rfl⟩
                  · exfalso; omega
                  · skip
                    refine lv_iadd hx hb dX7_take_108 ?_
                    refine lv_topi (fun x_581 ex_581 => ?_)
                    have tx_581 : x_581.toInt = (x_576.toInt + 20) := by rw [ex_581]; exact add_ti (a := x_576.toInt) (b := 20) rfl (by decide) (by omega) (by omega)
                    refine va_iast hx hb hK hP hD hS 1 1 rfl rfl (vin (a := 2) (by decide) (by decide) (by decide)) dX7_take_109 (fun H locs hP hD hS => ?_)
                    obtain ⟨f_582, ef_582, hP, hD⟩ : ∃ f_582 : Nat → Int32, f_582 = upd f_569 (2 : Int32).toNatClampNeg x_581 ∧ va_P D vwCl [(A_self, .inr (7, o7 q v w)), (q 55, .inl (c 1, 6, .inl f_582))] H ∧ va_D A [(A_self, .inr (7, o7 q v w)), (q 55, .inl (c 1, 6, .inl f_582))] := ⟨_, rfl, hP, hD⟩
                    have cl_583 : (f_582 0).toInt = (f_569 0).toInt := by rw [ef_582]; rfl
                    have cl_584 : (f_582 1).toInt = (f_569 1).toInt := by rw [ef_582]; rfl
                    have cl_585 : (f_582 2).toInt = x_581.toInt := by rw [ef_582]; rfl
                    have cl_586 : (f_582 3).toInt = (f_569 3).toInt := by rw [ef_582]; rfl
                    have cl_587 : (f_582 4).toInt = (f_569 4).toInt := by rw [ef_582]; rfl
                    have cl_588 : (f_582 5).toInt = (f_569 5).toInt := by rw [ef_582]; rfl
                    obtain ⟨x_589, ex_589⟩ : ∃ y : Int32, y = x_565 + 1 := ⟨_, rfl⟩
                    refine lv_iinc (v := x_589) (lv' := [(2, .int x_589), (5, .int 2), (4, .int r_419), (3, .int 1), (0, .ref A_self), (1, .int a1)]) hx hb dX7_take_110 hl (k := 1) rfl (by rw [ex_589]; rfl) (by decide) rfl (fun ls hl => ?_)
                    refine lv_goto (tgt := 75) hx hb dX7_take_113 (by decide) ?_
                    refine lv_iload hx hb dX7_take_75 (lv_at hl 1 rfl) ?_
                    refine lv_iload_n hx hb dX7_take_77 rfl (lv_at hl 3 rfl) ?_
                    refine iicmp_leF (a := 2) (b := 1) (tgt := 116) hx hb (by decide) (by decide) dX7_take_78 (by decide) (by decide) ?_
                    refine lv_aload_n hx hb dX7_take_81 rfl (lv_at hl 4 rfl) ?_
                    refine va_get (D := D) (ci := 7) (v := .ref (q 55)) (C := RX7) (T := TX7) (N := 56) hx hb hts (fun _ h => List.mem_cons_of_mem _ (List.mem_append_right _ h)) hown hK hP 0 rfl rfl 55 (by decide) (hts (.fieldLink RX7 118 "CrownTableModel" "cloth" "[I") (mem_i 2 rfl)) (fun _ h9 => h9) rfl dX7_take_82 ?_
                    refine lv_iload hx hb dX7_take_85 (lv_at hl 1 rfl) ?_
                    refine lv_dup2_11 hx hb dX7_take_87 rfl rfl ?_
                    refine va_iald hx hb hK hP 1 1 rfl rfl (vin (a := 2) (by decide) (by decide) (by decide)) dX7_take_88 ?_
                    refine lv_topi (fun x_590 ex_590 => ?_)
                    have lf_591 : (f_582 2).toInt = x_590.toInt := by rw [ex_590]; rfl
                    refine lv_iconst (v := 1) hx hb dX7_take_89 (by decide) ?_
                    refine lv_isub hx hb dX7_take_90 ?_
                    refine lv_topi (fun x_592 ex_592 => ?_)
                    have tx_592 : x_592.toInt = (x_590.toInt - 1) := by rw [ex_592]; exact sub_ti (a := x_590.toInt) (b := 1) rfl (by decide) (by omega) (by omega)
                    refine va_iast hx hb hK hP hD hS 1 1 rfl rfl (vin (a := 2) (by decide) (by decide) (by decide)) dX7_take_91 (fun H locs hP hD hS => ?_)
                    obtain ⟨f_593, ef_593, hP, hD⟩ : ∃ f_593 : Nat → Int32, f_593 = upd f_582 (2 : Int32).toNatClampNeg x_592 ∧ va_P D vwCl [(A_self, .inr (7, o7 q v w)), (q 55, .inl (c 1, 6, .inl f_593))] H ∧ va_D A [(A_self, .inr (7, o7 q v w)), (q 55, .inl (c 1, 6, .inl f_593))] := ⟨_, rfl, hP, hD⟩
                    have cl_594 : (f_593 0).toInt = (f_582 0).toInt := by rw [ef_593]; rfl
                    have cl_595 : (f_593 1).toInt = (f_582 1).toInt := by rw [ef_593]; rfl
                    have cl_596 : (f_593 2).toInt = x_592.toInt := by rw [ef_593]; rfl
                    have cl_597 : (f_593 3).toInt = (f_582 3).toInt := by rw [ef_593]; rfl
                    have cl_598 : (f_593 4).toInt = (f_582 4).toInt := by rw [ef_593]; rfl
                    have cl_599 : (f_593 5).toInt = (f_582 5).toInt := by rw [ef_593]; rfl
                    refine lv_iinc (v := 1) (lv' := [(5, .int 1), (2, .int x_589), (4, .int r_419), (3, .int 1), (0, .ref A_self), (1, .int a1)]) hx hb dX7_take_92 hl (k := 1) rfl (by decide) (by decide) rfl (fun ls hl => ?_)
                    refine lv_aload_n hx hb dX7_take_95 rfl (lv_at hl 4 rfl) ?_
                    refine va_get (D := D) (ci := 7) (v := .ref (q 55)) (C := RX7) (T := TX7) (N := 56) hx hb hts (fun _ h => List.mem_cons_of_mem _ (List.mem_append_right _ h)) hown hK hP 0 rfl rfl 55 (by decide) (hts (.fieldLink RX7 118 "CrownTableModel" "cloth" "[I") (mem_i 2 rfl)) (fun _ h9 => h9) rfl dX7_take_96 ?_
                    refine lv_iload hx hb dX7_take_99 (lv_at hl 0 rfl) ?_
                    refine lv_dup2_11 hx hb dX7_take_101 rfl rfl ?_
                    refine va_iald hx hb hK hP 1 1 rfl rfl (vin (a := 1) (by decide) (by decide) (by decide)) dX7_take_102 ?_
                    refine lv_topi (fun x_600 ex_600 => ?_)
                    have lf_601 : (f_593 1).toInt = x_600.toInt := by rw [ex_600]; rfl
                    refine lv_iload hx hb dX7_take_103 (lv_at hl 0 rfl) ?_
                    have hPc := hP.sub (ws' := []) [] rfl
                    have hDc := hD.sub (ws' := []) [] (by decide) rfl
                    have hFc := va_free (wc := []) hD hS hA [] rfl
                    have kzz_602 : (1 : Int32).toInt = 1 := by decide
                    refine va_csi (va_runS (As := [.int 1]) (rest := [.int x_600, .int 1, .ref (q 55)]) ⟨hx, hb, hml, hown, hts⟩ (k_X7_next l D c ts H.size 1 1 (by decide) (by omega)) (cwS 1 hts gX7_take_X7_next rfl rfl rfl ⟨rfl, hdX7_next⟩ ⟨(show 1 + 1 ≤ 2 by decide), (show 8 + (1 + 11) + 20 ≤ 43 by decide)⟩) ⟨Pre0.blind, Pre0.at hPc hDc hAm hSt hS hFc⟩ rfl rfl hl.1 rfl (lv_room (Nat.le_of_ble_eq_true rfl)) dX7_take_105 ⟨(show 0 + 0 ≤ 0 by decide), (show 0 + 0 ≤ 0 by decide)⟩) (fun r_604 hw_603 => ?_)
                    rcases hw_603 with ⟨hw_603, rfl⟩ | ⟨hw_603, rfl⟩ | ⟨hw_603, rfl⟩ | ⟨hw_603, rfl⟩
                    · exfalso; omega
                    · skip
                      refine lv_iadd hx hb dX7_take_108 ?_
                      refine lv_topi (fun x_605 ex_605 => ?_)
                      have tx_605 : x_605.toInt = (x_600.toInt + 20) := by rw [ex_605]; exact add_ti (a := x_600.toInt) (b := 20) rfl (by decide) (by omega) (by omega)
                      refine va_iast hx hb hK hP hD hS 1 1 rfl rfl (vin (a := 1) (by decide) (by decide) (by decide)) dX7_take_109 (fun H locs hP hD hS => ?_)
                      obtain ⟨f_606, ef_606, hP, hD⟩ : ∃ f_606 : Nat → Int32, f_606 = upd f_593 (1 : Int32).toNatClampNeg x_605 ∧ va_P D vwCl [(A_self, .inr (7, o7 q v w)), (q 55, .inl (c 1, 6, .inl f_606))] H ∧ va_D A [(A_self, .inr (7, o7 q v w)), (q 55, .inl (c 1, 6, .inl f_606))] := ⟨_, rfl, hP, hD⟩
                      have cl_607 : (f_606 0).toInt = (f_593 0).toInt := by rw [ef_606]; rfl
                      have cl_608 : (f_606 1).toInt = x_605.toInt := by rw [ef_606]; rfl
                      have cl_609 : (f_606 2).toInt = (f_593 2).toInt := by rw [ef_606]; rfl
                      have cl_610 : (f_606 3).toInt = (f_593 3).toInt := by rw [ef_606]; rfl
                      have cl_611 : (f_606 4).toInt = (f_593 4).toInt := by rw [ef_606]; rfl
                      have cl_612 : (f_606 5).toInt = (f_593 5).toInt := by rw [ef_606]; rfl
                      obtain ⟨x_613, ex_613⟩ : ∃ y : Int32, y = x_589 + 1 := ⟨_, rfl⟩
                      refine lv_iinc (v := x_613) (lv' := [(2, .int x_613), (5, .int 1), (4, .int r_419), (3, .int 1), (0, .ref A_self), (1, .int a1)]) hx hb dX7_take_110 hl (k := 1) rfl (by rw [ex_613]; rfl) (by decide) rfl (fun ls hl => ?_)
                      refine lv_goto (tgt := 75) hx hb dX7_take_113 (by decide) ?_
                      refine lv_iload hx hb dX7_take_75 (lv_at hl 1 rfl) ?_
                      refine lv_iload_n hx hb dX7_take_77 rfl (lv_at hl 3 rfl) ?_
                      refine iicmp_leT (a := 1) (b := 1) (tgt := 116) hx hb (by decide) (by decide) dX7_take_78 (by decide) (by decide) ?_
                      refine lv_goto (tgt := 43) hx hb dX7_take_116 (by decide) ?_
                      refine lv_aload_n hx hb dX7_take_43 rfl (lv_at hl 4 rfl) ?_
                      refine va_get (D := D) (ci := 7) (v := .ref (q 55)) (C := RX7) (T := TX7) (N := 56) hx hb hts (fun _ h => List.mem_cons_of_mem _ (List.mem_append_right _ h)) hown hK hP 0 rfl rfl 55 (by decide) (hts (.fieldLink RX7 118 "CrownTableModel" "cloth" "[I") (mem_i 2 rfl)) (fun _ h9 => h9) rfl dX7_take_44 ?_
                      refine lv_iload_n hx hb dX7_take_47 rfl (lv_at hl 3 rfl) ?_
                      refine va_iald hx hb hK hP 1 1 rfl rfl (vin (a := 1) (by decide) (by decide) (by decide)) dX7_take_48 ?_
                      refine lv_topi (fun x_614 ex_614 => ?_)
                      have lf_615 : (f_606 1).toInt = x_614.toInt := by rw [ex_614]; rfl
                      refine lv_iload hx hb dX7_take_49 (lv_at hl 2 rfl) ?_
                      refine iicmp_ge (a := x_614.toInt) (b := r_419.toInt) (tgt := 119) hx hb rfl rfl dX7_take_51 (by decide) (fun k_616 => ?_) (fun k_616 => ?_)
                      · skip
                        refine lv_aload_n hx hb dX7_take_119 rfl (lv_at hl 4 rfl) ?_
                        refine va_get (D := D) (ci := 7) (v := .ref (q 55)) (C := RX7) (T := TX7) (N := 56) hx hb hts (fun _ h => List.mem_cons_of_mem _ (List.mem_append_right _ h)) hown hK hP 0 rfl rfl 55 (by decide) (hts (.fieldLink RX7 118 "CrownTableModel" "cloth" "[I") (mem_i 2 rfl)) (fun _ h9 => h9) rfl dX7_take_120 ?_
                        refine lv_iload_n hx hb dX7_take_123 rfl (lv_at hl 3 rfl) ?_
                        refine lv_dup2_11 hx hb dX7_take_124 rfl rfl ?_
                        refine va_iald hx hb hK hP 1 1 rfl rfl (vin (a := 1) (by decide) (by decide) (by decide)) dX7_take_125 ?_
                        refine lv_topi (fun x_617 ex_617 => ?_)
                        have lf_618 : (f_606 1).toInt = x_617.toInt := by rw [ex_617]; rfl
                        refine lv_iload hx hb dX7_take_126 (lv_at hl 2 rfl) ?_
                        refine lv_isub hx hb dX7_take_128 ?_
                        refine lv_topi (fun x_619 ex_619 => ?_)
                        have tx_619 : x_619.toInt = (x_617.toInt - r_419.toInt) := by rw [ex_619]; exact sub_ti (a := x_617.toInt) (b := r_419.toInt) rfl rfl (by omega) (by omega)
                        refine va_iast hx hb hK hP hD hS 1 1 rfl rfl (vin (a := 1) (by decide) (by decide) (by decide)) dX7_take_129 (fun H locs hP hD hS => ?_)
                        obtain ⟨f_620, ef_620, hP, hD⟩ : ∃ f_620 : Nat → Int32, f_620 = upd f_606 (1 : Int32).toNatClampNeg x_619 ∧ va_P D vwCl [(A_self, .inr (7, o7 q v w)), (q 55, .inl (c 1, 6, .inl f_620))] H ∧ va_D A [(A_self, .inr (7, o7 q v w)), (q 55, .inl (c 1, 6, .inl f_620))] := ⟨_, rfl, hP, hD⟩
                        have cl_621 : (f_620 0).toInt = (f_606 0).toInt := by rw [ef_620]; rfl
                        have cl_622 : (f_620 1).toInt = x_619.toInt := by rw [ef_620]; rfl
                        have cl_623 : (f_620 2).toInt = (f_606 2).toInt := by rw [ef_620]; rfl
                        have cl_624 : (f_620 3).toInt = (f_606 3).toInt := by rw [ef_620]; rfl
                        have cl_625 : (f_620 4).toInt = (f_606 4).toInt := by rw [ef_620]; rfl
                        have cl_626 : (f_620 5).toInt = (f_606 5).toInt := by rw [ef_620]; rfl
                        refine lv_iinc (v := 2) (lv' := [(3, .int 2), (2, .int x_613), (5, .int 1), (4, .int r_419), (0, .ref A_self), (1, .int a1)]) hx hb dX7_take_130 hl (k := 3) rfl (by decide) (by decide) rfl (fun ls hl => ?_)
                        refine lv_goto (tgt := 30) hx hb dX7_take_133 (by decide) ?_
                        have hl := lv_sub hl [0, 4, 5, 1] rfl
                        exact lp_30_2 x_613 f_620 (by omega) (by omega) (by omega) (by omega) (by omega) (by omega) (by omega) _ _ _ hP hD hS hl
                      · skip
                        exfalso; omega
                    · exfalso; omega
                    · exfalso; omega
                  · exfalso; omega
                  · exfalso; omega
                · exfalso; omega
              · skip
                refine lv_iinc (v := 5) (lv' := [(5, .int 5), (4, .int r_419), (3, .int 1), (0, .ref A_self), (1, .int a1), (2, .int L2)]) hx hb dX7_take_69 hl (k := 0) rfl (by decide) (by decide) rfl (fun ls hl => ?_)
                refine lv_goto (tgt := 59) hx hb dX7_take_72 (by decide) ?_
                refine lv_aload_n hx hb dX7_take_59 rfl (lv_at hl 3 rfl) ?_
                refine va_get (D := D) (ci := 7) (v := .ref (q 55)) (C := RX7) (T := TX7) (N := 56) hx hb hts (fun _ h => List.mem_cons_of_mem _ (List.mem_append_right _ h)) hown hK hP 0 rfl rfl 55 (by decide) (hts (.fieldLink RX7 118 "CrownTableModel" "cloth" "[I") (mem_i 2 rfl)) (fun _ h9 => h9) rfl dX7_take_60 ?_
                refine lv_iload hx hb dX7_take_63 (lv_at hl 0 rfl) ?_
                refine va_iald hx hb hK hP 1 1 rfl rfl (vin (a := 5) (by decide) (by decide) (by decide)) dX7_take_65 ?_
                refine lv_topi (fun x_627 ex_627 => ?_)
                have lf_628 : (M_cloth 5).toInt = x_627.toInt := by rw [ex_627]; rfl
                refine iif_ne (a := x_627.toInt) (tgt := 75) hx hb rfl dX7_take_66 (by decide) (fun k_629 => ?_) (fun k_629 => ?_)
                · skip
                  refine lv_iload hx hb dX7_take_75 (lv_at hl 0 rfl) ?_
                  refine lv_iload_n hx hb dX7_take_77 rfl (lv_at hl 2 rfl) ?_
                  refine iicmp_leF (a := 5) (b := 1) (tgt := 116) hx hb (by decide) (by decide) dX7_take_78 (by decide) (by decide) ?_
                  refine lv_aload_n hx hb dX7_take_81 rfl (lv_at hl 3 rfl) ?_
                  refine va_get (D := D) (ci := 7) (v := .ref (q 55)) (C := RX7) (T := TX7) (N := 56) hx hb hts (fun _ h => List.mem_cons_of_mem _ (List.mem_append_right _ h)) hown hK hP 0 rfl rfl 55 (by decide) (hts (.fieldLink RX7 118 "CrownTableModel" "cloth" "[I") (mem_i 2 rfl)) (fun _ h9 => h9) rfl dX7_take_82 ?_
                  refine lv_iload hx hb dX7_take_85 (lv_at hl 0 rfl) ?_
                  refine lv_dup2_11 hx hb dX7_take_87 rfl rfl ?_
                  refine va_iald hx hb hK hP 1 1 rfl rfl (vin (a := 5) (by decide) (by decide) (by decide)) dX7_take_88 ?_
                  refine lv_topi (fun x_630 ex_630 => ?_)
                  have lf_631 : (M_cloth 5).toInt = x_630.toInt := by rw [ex_630]; rfl
                  refine lv_iconst (v := 1) hx hb dX7_take_89 (by decide) ?_
                  refine lv_isub hx hb dX7_take_90 ?_
                  refine lv_topi (fun x_632 ex_632 => ?_)
                  have tx_632 : x_632.toInt = (x_630.toInt - 1) := by rw [ex_632]; exact sub_ti (a := x_630.toInt) (b := 1) rfl (by decide) (by omega) (by omega)
                  refine va_iast hx hb hK hP hD hS 1 1 rfl rfl (vin (a := 5) (by decide) (by decide) (by decide)) dX7_take_91 (fun H locs hP hD hS => ?_)
                  obtain ⟨f_633, ef_633, hP, hD⟩ : ∃ f_633 : Nat → Int32, f_633 = upd M_cloth (5 : Int32).toNatClampNeg x_632 ∧ va_P D vwCl [(A_self, .inr (7, o7 q v w)), (q 55, .inl (c 1, 6, .inl f_633))] H ∧ va_D A [(A_self, .inr (7, o7 q v w)), (q 55, .inl (c 1, 6, .inl f_633))] := ⟨_, rfl, hP, hD⟩
                  have cl_634 : (f_633 0).toInt = (M_cloth 0).toInt := by rw [ef_633]; rfl
                  have cl_635 : (f_633 1).toInt = (M_cloth 1).toInt := by rw [ef_633]; rfl
                  have cl_636 : (f_633 2).toInt = (M_cloth 2).toInt := by rw [ef_633]; rfl
                  have cl_637 : (f_633 3).toInt = (M_cloth 3).toInt := by rw [ef_633]; rfl
                  have cl_638 : (f_633 4).toInt = (M_cloth 4).toInt := by rw [ef_633]; rfl
                  have cl_639 : (f_633 5).toInt = x_632.toInt := by rw [ef_633]; rfl
                  refine lv_iinc (v := 4) (lv' := [(5, .int 4), (4, .int r_419), (3, .int 1), (0, .ref A_self), (1, .int a1), (2, .int L2)]) hx hb dX7_take_92 hl (k := 0) rfl (by decide) (by decide) rfl (fun ls hl => ?_)
                  refine lv_aload_n hx hb dX7_take_95 rfl (lv_at hl 3 rfl) ?_
                  refine va_get (D := D) (ci := 7) (v := .ref (q 55)) (C := RX7) (T := TX7) (N := 56) hx hb hts (fun _ h => List.mem_cons_of_mem _ (List.mem_append_right _ h)) hown hK hP 0 rfl rfl 55 (by decide) (hts (.fieldLink RX7 118 "CrownTableModel" "cloth" "[I") (mem_i 2 rfl)) (fun _ h9 => h9) rfl dX7_take_96 ?_
                  refine lv_iload hx hb dX7_take_99 (lv_at hl 0 rfl) ?_
                  refine lv_dup2_11 hx hb dX7_take_101 rfl rfl ?_
                  refine va_iald hx hb hK hP 1 1 rfl rfl (vin (a := 4) (by decide) (by decide) (by decide)) dX7_take_102 ?_
                  refine lv_topi (fun x_640 ex_640 => ?_)
                  have lf_641 : (f_633 4).toInt = x_640.toInt := by rw [ex_640]; rfl
                  refine lv_iload hx hb dX7_take_103 (lv_at hl 0 rfl) ?_
                  have hPc := hP.sub (ws' := []) [] rfl
                  have hDc := hD.sub (ws' := []) [] (by decide) rfl
                  have hFc := va_free (wc := []) hD hS hA [] rfl
                  have kzz_642 : (4 : Int32).toInt = 4 := by decide
                  refine va_csi (va_runS (As := [.int 4]) (rest := [.int x_640, .int 4, .ref (q 55)]) ⟨hx, hb, hml, hown, hts⟩ (k_X7_next l D c ts H.size 4 4 (by decide) (by omega)) (cwS 1 hts gX7_take_X7_next rfl rfl rfl ⟨rfl, hdX7_next⟩ ⟨(show 1 + 1 ≤ 2 by decide), (show 8 + (1 + 11) + 20 ≤ 43 by decide)⟩) ⟨Pre0.blind, Pre0.at hPc hDc hAm hSt hS hFc⟩ rfl rfl hl.1 rfl (lv_room (Nat.le_of_ble_eq_true rfl)) dX7_take_105 ⟨(show 0 + 0 ≤ 0 by decide), (show 0 + 0 ≤ 0 by decide)⟩) (fun r_644 hw_643 => ?_)
                  rcases hw_643 with ⟨hw_643, rfl⟩ | ⟨hw_643, rfl⟩ | ⟨hw_643, rfl⟩ | ⟨hw_643, rfl⟩
                  · exfalso; omega
                  · exfalso; omega
                  · exfalso; omega
                  · skip
                    refine lv_iadd hx hb dX7_take_108 ?_
                    refine lv_topi (fun x_645 ex_645 => ?_)
                    have tx_645 : x_645.toInt = (x_640.toInt + 10) := by rw [ex_645]; exact add_ti (a := x_640.toInt) (b := 10) rfl (by decide) (by omega) (by omega)
                    refine va_iast hx hb hK hP hD hS 1 1 rfl rfl (vin (a := 4) (by decide) (by decide) (by decide)) dX7_take_109 (fun H locs hP hD hS => ?_)
                    obtain ⟨f_646, ef_646, hP, hD⟩ : ∃ f_646 : Nat → Int32, f_646 = upd f_633 (4 : Int32).toNatClampNeg x_645 ∧ va_P D vwCl [(A_self, .inr (7, o7 q v w)), (q 55, .inl (c 1, 6, .inl f_646))] H ∧ va_D A [(A_self, .inr (7, o7 q v w)), (q 55, .inl (c 1, 6, .inl f_646))] := ⟨_, rfl, hP, hD⟩
                    have cl_647 : (f_646 0).toInt = (f_633 0).toInt := by rw [ef_646]; rfl
                    have cl_648 : (f_646 1).toInt = (f_633 1).toInt := by rw [ef_646]; rfl
                    have cl_649 : (f_646 2).toInt = (f_633 2).toInt := by rw [ef_646]; rfl
                    have cl_650 : (f_646 3).toInt = (f_633 3).toInt := by rw [ef_646]; rfl
                    have cl_651 : (f_646 4).toInt = x_645.toInt := by rw [ef_646]; rfl
                    have cl_652 : (f_646 5).toInt = (f_633 5).toInt := by rw [ef_646]; rfl
                    obtain ⟨x_653, ex_653⟩ : ∃ y : Int32, y = L2 + 1 := ⟨_, rfl⟩
                    refine lv_iinc (v := x_653) (lv' := [(2, .int x_653), (5, .int 4), (4, .int r_419), (3, .int 1), (0, .ref A_self), (1, .int a1)]) hx hb dX7_take_110 hl (k := 5) rfl (by rw [ex_653]; rfl) (by decide) rfl (fun ls hl => ?_)
                    refine lv_goto (tgt := 75) hx hb dX7_take_113 (by decide) ?_
                    refine lv_iload hx hb dX7_take_75 (lv_at hl 1 rfl) ?_
                    refine lv_iload_n hx hb dX7_take_77 rfl (lv_at hl 3 rfl) ?_
                    refine iicmp_leF (a := 4) (b := 1) (tgt := 116) hx hb (by decide) (by decide) dX7_take_78 (by decide) (by decide) ?_
                    refine lv_aload_n hx hb dX7_take_81 rfl (lv_at hl 4 rfl) ?_
                    refine va_get (D := D) (ci := 7) (v := .ref (q 55)) (C := RX7) (T := TX7) (N := 56) hx hb hts (fun _ h => List.mem_cons_of_mem _ (List.mem_append_right _ h)) hown hK hP 0 rfl rfl 55 (by decide) (hts (.fieldLink RX7 118 "CrownTableModel" "cloth" "[I") (mem_i 2 rfl)) (fun _ h9 => h9) rfl dX7_take_82 ?_
                    refine lv_iload hx hb dX7_take_85 (lv_at hl 1 rfl) ?_
                    refine lv_dup2_11 hx hb dX7_take_87 rfl rfl ?_
                    refine va_iald hx hb hK hP 1 1 rfl rfl (vin (a := 4) (by decide) (by decide) (by decide)) dX7_take_88 ?_
                    refine lv_topi (fun x_654 ex_654 => ?_)
                    have lf_655 : (f_646 4).toInt = x_654.toInt := by rw [ex_654]; rfl
                    refine lv_iconst (v := 1) hx hb dX7_take_89 (by decide) ?_
                    refine lv_isub hx hb dX7_take_90 ?_
                    refine lv_topi (fun x_656 ex_656 => ?_)
                    have tx_656 : x_656.toInt = (x_654.toInt - 1) := by rw [ex_656]; exact sub_ti (a := x_654.toInt) (b := 1) rfl (by decide) (by omega) (by omega)
                    refine va_iast hx hb hK hP hD hS 1 1 rfl rfl (vin (a := 4) (by decide) (by decide) (by decide)) dX7_take_91 (fun H locs hP hD hS => ?_)
                    obtain ⟨f_657, ef_657, hP, hD⟩ : ∃ f_657 : Nat → Int32, f_657 = upd f_646 (4 : Int32).toNatClampNeg x_656 ∧ va_P D vwCl [(A_self, .inr (7, o7 q v w)), (q 55, .inl (c 1, 6, .inl f_657))] H ∧ va_D A [(A_self, .inr (7, o7 q v w)), (q 55, .inl (c 1, 6, .inl f_657))] := ⟨_, rfl, hP, hD⟩
                    have cl_658 : (f_657 0).toInt = (f_646 0).toInt := by rw [ef_657]; rfl
                    have cl_659 : (f_657 1).toInt = (f_646 1).toInt := by rw [ef_657]; rfl
                    have cl_660 : (f_657 2).toInt = (f_646 2).toInt := by rw [ef_657]; rfl
                    have cl_661 : (f_657 3).toInt = (f_646 3).toInt := by rw [ef_657]; rfl
                    have cl_662 : (f_657 4).toInt = x_656.toInt := by rw [ef_657]; rfl
                    have cl_663 : (f_657 5).toInt = (f_646 5).toInt := by rw [ef_657]; rfl
                    refine lv_iinc (v := 3) (lv' := [(5, .int 3), (2, .int x_653), (4, .int r_419), (3, .int 1), (0, .ref A_self), (1, .int a1)]) hx hb dX7_take_92 hl (k := 1) rfl (by decide) (by decide) rfl (fun ls hl => ?_)
                    refine lv_aload_n hx hb dX7_take_95 rfl (lv_at hl 4 rfl) ?_
                    refine va_get (D := D) (ci := 7) (v := .ref (q 55)) (C := RX7) (T := TX7) (N := 56) hx hb hts (fun _ h => List.mem_cons_of_mem _ (List.mem_append_right _ h)) hown hK hP 0 rfl rfl 55 (by decide) (hts (.fieldLink RX7 118 "CrownTableModel" "cloth" "[I") (mem_i 2 rfl)) (fun _ h9 => h9) rfl dX7_take_96 ?_
                    refine lv_iload hx hb dX7_take_99 (lv_at hl 0 rfl) ?_
                    refine lv_dup2_11 hx hb dX7_take_101 rfl rfl ?_
                    refine va_iald hx hb hK hP 1 1 rfl rfl (vin (a := 3) (by decide) (by decide) (by decide)) dX7_take_102 ?_
                    refine lv_topi (fun x_664 ex_664 => ?_)
                    have lf_665 : (f_657 3).toInt = x_664.toInt := by rw [ex_664]; rfl
                    refine lv_iload hx hb dX7_take_103 (lv_at hl 0 rfl) ?_
                    have hPc := hP.sub (ws' := []) [] rfl
                    have hDc := hD.sub (ws' := []) [] (by decide) rfl
                    have hFc := va_free (wc := []) hD hS hA [] rfl
                    have kzz_666 : (3 : Int32).toInt = 3 := by decide
                    refine va_csi (va_runS (As := [.int 3]) (rest := [.int x_664, .int 3, .ref (q 55)]) ⟨hx, hb, hml, hown, hts⟩ (k_X7_next l D c ts H.size 3 3 (by decide) (by omega)) (cwS 1 hts gX7_take_X7_next rfl rfl rfl ⟨rfl, hdX7_next⟩ ⟨(show 1 + 1 ≤ 2 by decide), (show 8 + (1 + 11) + 20 ≤ 43 by decide)⟩) ⟨Pre0.blind, Pre0.at hPc hDc hAm hSt hS hFc⟩ rfl rfl hl.1 rfl (lv_room (Nat.le_of_ble_eq_true rfl)) dX7_take_105 ⟨(show 0 + 0 ≤ 0 by decide), (show 0 + 0 ≤ 0 by decide)⟩) (fun r_668 hw_667 => ?_)
                    rcases hw_667 with ⟨hw_667, rfl⟩ | ⟨hw_667, rfl⟩ | ⟨hw_667, rfl⟩ | ⟨hw_667, rfl⟩
                    · exfalso; omega
                    · exfalso; omega
                    · skip
                      refine lv_iadd hx hb dX7_take_108 ?_
                      refine lv_topi (fun x_669 ex_669 => ?_)
                      have tx_669 : x_669.toInt = (x_664.toInt + 5) := by rw [ex_669]; exact add_ti (a := x_664.toInt) (b := 5) rfl (by decide) (by omega) (by omega)
                      refine va_iast hx hb hK hP hD hS 1 1 rfl rfl (vin (a := 3) (by decide) (by decide) (by decide)) dX7_take_109 (fun H locs hP hD hS => ?_)
                      obtain ⟨f_670, ef_670, hP, hD⟩ : ∃ f_670 : Nat → Int32, f_670 = upd f_657 (3 : Int32).toNatClampNeg x_669 ∧ va_P D vwCl [(A_self, .inr (7, o7 q v w)), (q 55, .inl (c 1, 6, .inl f_670))] H ∧ va_D A [(A_self, .inr (7, o7 q v w)), (q 55, .inl (c 1, 6, .inl f_670))] := ⟨_, rfl, hP, hD⟩
                      have cl_671 : (f_670 0).toInt = (f_657 0).toInt := by rw [ef_670]; rfl
                      have cl_672 : (f_670 1).toInt = (f_657 1).toInt := by rw [ef_670]; rfl
                      have cl_673 : (f_670 2).toInt = (f_657 2).toInt := by rw [ef_670]; rfl
                      have cl_674 : (f_670 3).toInt = x_669.toInt := by rw [ef_670]; rfl
                      have cl_675 : (f_670 4).toInt = (f_657 4).toInt := by rw [ef_670]; rfl
                      have cl_676 : (f_670 5).toInt = (f_657 5).toInt := by rw [ef_670]; rfl
                      obtain ⟨x_677, ex_677⟩ : ∃ y : Int32, y = x_653 + 1 := ⟨_, rfl⟩
                      refine lv_iinc (v := x_677) (lv' := [(2, .int x_677), (5, .int 3), (4, .int r_419), (3, .int 1), (0, .ref A_self), (1, .int a1)]) hx hb dX7_take_110 hl (k := 1) rfl (by rw [ex_677]; rfl) (by decide) rfl (fun ls hl => ?_)
                      refine lv_goto (tgt := 75) hx hb dX7_take_113 (by decide) ?_
                      refine lv_iload hx hb dX7_take_75 (lv_at hl 1 rfl) ?_
                      refine lv_iload_n hx hb dX7_take_77 rfl (lv_at hl 3 rfl) ?_
                      refine iicmp_leF (a := 3) (b := 1) (tgt := 116) hx hb (by decide) (by decide) dX7_take_78 (by decide) (by decide) ?_
                      refine lv_aload_n hx hb dX7_take_81 rfl (lv_at hl 4 rfl) ?_
                      refine va_get (D := D) (ci := 7) (v := .ref (q 55)) (C := RX7) (T := TX7) (N := 56) hx hb hts (fun _ h => List.mem_cons_of_mem _ (List.mem_append_right _ h)) hown hK hP 0 rfl rfl 55 (by decide) (hts (.fieldLink RX7 118 "CrownTableModel" "cloth" "[I") (mem_i 2 rfl)) (fun _ h9 => h9) rfl dX7_take_82 ?_
                      refine lv_iload hx hb dX7_take_85 (lv_at hl 1 rfl) ?_
                      refine lv_dup2_11 hx hb dX7_take_87 rfl rfl ?_
                      refine va_iald hx hb hK hP 1 1 rfl rfl (vin (a := 3) (by decide) (by decide) (by decide)) dX7_take_88 ?_
                      refine lv_topi (fun x_678 ex_678 => ?_)
                      have lf_679 : (f_670 3).toInt = x_678.toInt := by rw [ex_678]; rfl
                      refine lv_iconst (v := 1) hx hb dX7_take_89 (by decide) ?_
                      refine lv_isub hx hb dX7_take_90 ?_
                      refine lv_topi (fun x_680 ex_680 => ?_)
                      have tx_680 : x_680.toInt = (x_678.toInt - 1) := by rw [ex_680]; exact sub_ti (a := x_678.toInt) (b := 1) rfl (by decide) (by omega) (by omega)
                      refine va_iast hx hb hK hP hD hS 1 1 rfl rfl (vin (a := 3) (by decide) (by decide) (by decide)) dX7_take_91 (fun H locs hP hD hS => ?_)
                      obtain ⟨f_681, ef_681, hP, hD⟩ : ∃ f_681 : Nat → Int32, f_681 = upd f_670 (3 : Int32).toNatClampNeg x_680 ∧ va_P D vwCl [(A_self, .inr (7, o7 q v w)), (q 55, .inl (c 1, 6, .inl f_681))] H ∧ va_D A [(A_self, .inr (7, o7 q v w)), (q 55, .inl (c 1, 6, .inl f_681))] := ⟨_, rfl, hP, hD⟩
                      have cl_682 : (f_681 0).toInt = (f_670 0).toInt := by rw [ef_681]; rfl
                      have cl_683 : (f_681 1).toInt = (f_670 1).toInt := by rw [ef_681]; rfl
                      have cl_684 : (f_681 2).toInt = (f_670 2).toInt := by rw [ef_681]; rfl
                      have cl_685 : (f_681 3).toInt = x_680.toInt := by rw [ef_681]; rfl
                      have cl_686 : (f_681 4).toInt = (f_670 4).toInt := by rw [ef_681]; rfl
                      have cl_687 : (f_681 5).toInt = (f_670 5).toInt := by rw [ef_681]; rfl
                      refine lv_iinc (v := 2) (lv' := [(5, .int 2), (2, .int x_677), (4, .int r_419), (3, .int 1), (0, .ref A_self), (1, .int a1)]) hx hb dX7_take_92 hl (k := 1) rfl (by decide) (by decide) rfl (fun ls hl => ?_)
                      refine lv_aload_n hx hb dX7_take_95 rfl (lv_at hl 4 rfl) ?_
                      refine va_get (D := D) (ci := 7) (v := .ref (q 55)) (C := RX7) (T := TX7) (N := 56) hx hb hts (fun _ h => List.mem_cons_of_mem _ (List.mem_append_right _ h)) hown hK hP 0 rfl rfl 55 (by decide) (hts (.fieldLink RX7 118 "CrownTableModel" "cloth" "[I") (mem_i 2 rfl)) (fun _ h9 => h9) rfl dX7_take_96 ?_
                      refine lv_iload hx hb dX7_take_99 (lv_at hl 0 rfl) ?_
                      refine lv_dup2_11 hx hb dX7_take_101 rfl rfl ?_
                      refine va_iald hx hb hK hP 1 1 rfl rfl (vin (a := 2) (by decide) (by decide) (by decide)) dX7_take_102 ?_
                      refine lv_topi (fun x_688 ex_688 => ?_)
                      have lf_689 : (f_681 2).toInt = x_688.toInt := by rw [ex_688]; rfl
                      refine lv_iload hx hb dX7_take_103 (lv_at hl 0 rfl) ?_
                      have hPc := hP.sub (ws' := []) [] rfl
                      have hDc := hD.sub (ws' := []) [] (by decide) rfl
                      have hFc := va_free (wc := []) hD hS hA [] rfl
                      have kzz_690 : (2 : Int32).toInt = 2 := by decide
                      refine va_csi (va_runS (As := [.int 2]) (rest := [.int x_688, .int 2, .ref (q 55)]) ⟨hx, hb, hml, hown, hts⟩ (k_X7_next l D c ts H.size 2 2 (by decide) (by omega)) (cwS 1 hts gX7_take_X7_next rfl rfl rfl ⟨rfl, hdX7_next⟩ ⟨(show 1 + 1 ≤ 2 by decide), (show 8 + (1 + 11) + 20 ≤ 43 by decide)⟩) ⟨Pre0.blind, Pre0.at hPc hDc hAm hSt hS hFc⟩ rfl rfl hl.1 rfl (lv_room (Nat.le_of_ble_eq_true rfl)) dX7_take_105 ⟨(show 0 + 0 ≤ 0 by decide), (show 0 + 0 ≤ 0 by decide)⟩) (fun r_692 hw_691 => ?_)
                      rcases hw_691 with ⟨hw_691, rfl⟩ | ⟨hw_691, rfl⟩ | ⟨hw_691, rfl⟩ | ⟨hw_691, rfl⟩
                      · exfalso; omega
                      · skip
                        refine lv_iadd hx hb dX7_take_108 ?_
                        refine lv_topi (fun x_693 ex_693 => ?_)
                        have tx_693 : x_693.toInt = (x_688.toInt + 20) := by rw [ex_693]; exact add_ti (a := x_688.toInt) (b := 20) rfl (by decide) (by omega) (by omega)
                        refine va_iast hx hb hK hP hD hS 1 1 rfl rfl (vin (a := 2) (by decide) (by decide) (by decide)) dX7_take_109 (fun H locs hP hD hS => ?_)
                        obtain ⟨f_694, ef_694, hP, hD⟩ : ∃ f_694 : Nat → Int32, f_694 = upd f_681 (2 : Int32).toNatClampNeg x_693 ∧ va_P D vwCl [(A_self, .inr (7, o7 q v w)), (q 55, .inl (c 1, 6, .inl f_694))] H ∧ va_D A [(A_self, .inr (7, o7 q v w)), (q 55, .inl (c 1, 6, .inl f_694))] := ⟨_, rfl, hP, hD⟩
                        have cl_695 : (f_694 0).toInt = (f_681 0).toInt := by rw [ef_694]; rfl
                        have cl_696 : (f_694 1).toInt = (f_681 1).toInt := by rw [ef_694]; rfl
                        have cl_697 : (f_694 2).toInt = x_693.toInt := by rw [ef_694]; rfl
                        have cl_698 : (f_694 3).toInt = (f_681 3).toInt := by rw [ef_694]; rfl
                        have cl_699 : (f_694 4).toInt = (f_681 4).toInt := by rw [ef_694]; rfl
                        have cl_700 : (f_694 5).toInt = (f_681 5).toInt := by rw [ef_694]; rfl
                        obtain ⟨x_701, ex_701⟩ : ∃ y : Int32, y = x_677 + 1 := ⟨_, rfl⟩
                        refine lv_iinc (v := x_701) (lv' := [(2, .int x_701), (5, .int 2), (4, .int r_419), (3, .int 1), (0, .ref A_self), (1, .int a1)]) hx hb dX7_take_110 hl (k := 1) rfl (by rw [ex_701]; rfl) (by decide) rfl (fun ls hl => ?_)
                        refine lv_goto (tgt := 75) hx hb dX7_take_113 (by decide) ?_
                        refine lv_iload hx hb dX7_take_75 (lv_at hl 1 rfl) ?_
                        refine lv_iload_n hx hb dX7_take_77 rfl (lv_at hl 3 rfl) ?_
                        refine iicmp_leF (a := 2) (b := 1) (tgt := 116) hx hb (by decide) (by decide) dX7_take_78 (by decide) (by decide) ?_
                        refine lv_aload_n hx hb dX7_take_81 rfl (lv_at hl 4 rfl) ?_
                        refine va_get (D := D) (ci := 7) (v := .ref (q 55)) (C := RX7) (T := TX7) (N := 56) hx hb hts (fun _ h => List.mem_cons_of_mem _ (List.mem_append_right _ h)) hown hK hP 0 rfl rfl 55 (by decide) (hts (.fieldLink RX7 118 "CrownTableModel" "cloth" "[I") (mem_i 2 rfl)) (fun _ h9 => h9) rfl dX7_take_82 ?_
                        refine lv_iload hx hb dX7_take_85 (lv_at hl 1 rfl) ?_
                        refine lv_dup2_11 hx hb dX7_take_87 rfl rfl ?_
                        refine va_iald hx hb hK hP 1 1 rfl rfl (vin (a := 2) (by decide) (by decide) (by decide)) dX7_take_88 ?_
                        refine lv_topi (fun x_702 ex_702 => ?_)
                        have lf_703 : (f_694 2).toInt = x_702.toInt := by rw [ex_702]; rfl
                        refine lv_iconst (v := 1) hx hb dX7_take_89 (by decide) ?_
                        refine lv_isub hx hb dX7_take_90 ?_
                        refine lv_topi (fun x_704 ex_704 => ?_)
                        have tx_704 : x_704.toInt = (x_702.toInt - 1) := by rw [ex_704]; exact sub_ti (a := x_702.toInt) (b := 1) rfl (by decide) (by omega) (by omega)
                        refine va_iast hx hb hK hP hD hS 1 1 rfl rfl (vin (a := 2) (by decide) (by decide) (by decide)) dX7_take_91 (fun H locs hP hD hS => ?_)
                        obtain ⟨f_705, ef_705, hP, hD⟩ : ∃ f_705 : Nat → Int32, f_705 = upd f_694 (2 : Int32).toNatClampNeg x_704 ∧ va_P D vwCl [(A_self, .inr (7, o7 q v w)), (q 55, .inl (c 1, 6, .inl f_705))] H ∧ va_D A [(A_self, .inr (7, o7 q v w)), (q 55, .inl (c 1, 6, .inl f_705))] := ⟨_, rfl, hP, hD⟩
                        have cl_706 : (f_705 0).toInt = (f_694 0).toInt := by rw [ef_705]; rfl
                        have cl_707 : (f_705 1).toInt = (f_694 1).toInt := by rw [ef_705]; rfl
                        have cl_708 : (f_705 2).toInt = x_704.toInt := by rw [ef_705]; rfl
                        have cl_709 : (f_705 3).toInt = (f_694 3).toInt := by rw [ef_705]; rfl
                        have cl_710 : (f_705 4).toInt = (f_694 4).toInt := by rw [ef_705]; rfl
                        have cl_711 : (f_705 5).toInt = (f_694 5).toInt := by rw [ef_705]; rfl
                        refine lv_iinc (v := 1) (lv' := [(5, .int 1), (2, .int x_701), (4, .int r_419), (3, .int 1), (0, .ref A_self), (1, .int a1)]) hx hb dX7_take_92 hl (k := 1) rfl (by decide) (by decide) rfl (fun ls hl => ?_)
                        refine lv_aload_n hx hb dX7_take_95 rfl (lv_at hl 4 rfl) ?_
                        refine va_get (D := D) (ci := 7) (v := .ref (q 55)) (C := RX7) (T := TX7) (N := 56) hx hb hts (fun _ h => List.mem_cons_of_mem _ (List.mem_append_right _ h)) hown hK hP 0 rfl rfl 55 (by decide) (hts (.fieldLink RX7 118 "CrownTableModel" "cloth" "[I") (mem_i 2 rfl)) (fun _ h9 => h9) rfl dX7_take_96 ?_
                        refine lv_iload hx hb dX7_take_99 (lv_at hl 0 rfl) ?_
                        refine lv_dup2_11 hx hb dX7_take_101 rfl rfl ?_
                        refine va_iald hx hb hK hP 1 1 rfl rfl (vin (a := 1) (by decide) (by decide) (by decide)) dX7_take_102 ?_
                        refine lv_topi (fun x_712 ex_712 => ?_)
                        have lf_713 : (f_705 1).toInt = x_712.toInt := by rw [ex_712]; rfl
                        refine lv_iload hx hb dX7_take_103 (lv_at hl 0 rfl) ?_
                        have hPc := hP.sub (ws' := []) [] rfl
                        have hDc := hD.sub (ws' := []) [] (by decide) rfl
                        have hFc := va_free (wc := []) hD hS hA [] rfl
                        have kzz_714 : (1 : Int32).toInt = 1 := by decide
                        refine va_csi (va_runS (As := [.int 1]) (rest := [.int x_712, .int 1, .ref (q 55)]) ⟨hx, hb, hml, hown, hts⟩ (k_X7_next l D c ts H.size 1 1 (by decide) (by omega)) (cwS 1 hts gX7_take_X7_next rfl rfl rfl ⟨rfl, hdX7_next⟩ ⟨(show 1 + 1 ≤ 2 by decide), (show 8 + (1 + 11) + 20 ≤ 43 by decide)⟩) ⟨Pre0.blind, Pre0.at hPc hDc hAm hSt hS hFc⟩ rfl rfl hl.1 rfl (lv_room (Nat.le_of_ble_eq_true rfl)) dX7_take_105 ⟨(show 0 + 0 ≤ 0 by decide), (show 0 + 0 ≤ 0 by decide)⟩) (fun r_716 hw_715 => ?_)
                        rcases hw_715 with ⟨hw_715, rfl⟩ | ⟨hw_715, rfl⟩ | ⟨hw_715, rfl⟩ | ⟨hw_715, rfl⟩
                        · exfalso; omega
                        · skip
                          refine lv_iadd hx hb dX7_take_108 ?_
                          refine lv_topi (fun x_717 ex_717 => ?_)
                          have tx_717 : x_717.toInt = (x_712.toInt + 20) := by rw [ex_717]; exact add_ti (a := x_712.toInt) (b := 20) rfl (by decide) (by omega) (by omega)
                          refine va_iast hx hb hK hP hD hS 1 1 rfl rfl (vin (a := 1) (by decide) (by decide) (by decide)) dX7_take_109 (fun H locs hP hD hS => ?_)
                          obtain ⟨f_718, ef_718, hP, hD⟩ : ∃ f_718 : Nat → Int32, f_718 = upd f_705 (1 : Int32).toNatClampNeg x_717 ∧ va_P D vwCl [(A_self, .inr (7, o7 q v w)), (q 55, .inl (c 1, 6, .inl f_718))] H ∧ va_D A [(A_self, .inr (7, o7 q v w)), (q 55, .inl (c 1, 6, .inl f_718))] := ⟨_, rfl, hP, hD⟩
                          have cl_719 : (f_718 0).toInt = (f_705 0).toInt := by rw [ef_718]; rfl
                          have cl_720 : (f_718 1).toInt = x_717.toInt := by rw [ef_718]; rfl
                          have cl_721 : (f_718 2).toInt = (f_705 2).toInt := by rw [ef_718]; rfl
                          have cl_722 : (f_718 3).toInt = (f_705 3).toInt := by rw [ef_718]; rfl
                          have cl_723 : (f_718 4).toInt = (f_705 4).toInt := by rw [ef_718]; rfl
                          have cl_724 : (f_718 5).toInt = (f_705 5).toInt := by rw [ef_718]; rfl
                          obtain ⟨x_725, ex_725⟩ : ∃ y : Int32, y = x_701 + 1 := ⟨_, rfl⟩
                          refine lv_iinc (v := x_725) (lv' := [(2, .int x_725), (5, .int 1), (4, .int r_419), (3, .int 1), (0, .ref A_self), (1, .int a1)]) hx hb dX7_take_110 hl (k := 1) rfl (by rw [ex_725]; rfl) (by decide) rfl (fun ls hl => ?_)
                          refine lv_goto (tgt := 75) hx hb dX7_take_113 (by decide) ?_
                          refine lv_iload hx hb dX7_take_75 (lv_at hl 1 rfl) ?_
                          refine lv_iload_n hx hb dX7_take_77 rfl (lv_at hl 3 rfl) ?_
                          refine iicmp_leT (a := 1) (b := 1) (tgt := 116) hx hb (by decide) (by decide) dX7_take_78 (by decide) (by decide) ?_
                          refine lv_goto (tgt := 43) hx hb dX7_take_116 (by decide) ?_
                          refine lv_aload_n hx hb dX7_take_43 rfl (lv_at hl 4 rfl) ?_
                          refine va_get (D := D) (ci := 7) (v := .ref (q 55)) (C := RX7) (T := TX7) (N := 56) hx hb hts (fun _ h => List.mem_cons_of_mem _ (List.mem_append_right _ h)) hown hK hP 0 rfl rfl 55 (by decide) (hts (.fieldLink RX7 118 "CrownTableModel" "cloth" "[I") (mem_i 2 rfl)) (fun _ h9 => h9) rfl dX7_take_44 ?_
                          refine lv_iload_n hx hb dX7_take_47 rfl (lv_at hl 3 rfl) ?_
                          refine va_iald hx hb hK hP 1 1 rfl rfl (vin (a := 1) (by decide) (by decide) (by decide)) dX7_take_48 ?_
                          refine lv_topi (fun x_726 ex_726 => ?_)
                          have lf_727 : (f_718 1).toInt = x_726.toInt := by rw [ex_726]; rfl
                          refine lv_iload hx hb dX7_take_49 (lv_at hl 2 rfl) ?_
                          refine iicmp_ge (a := x_726.toInt) (b := r_419.toInt) (tgt := 119) hx hb rfl rfl dX7_take_51 (by decide) (fun k_728 => ?_) (fun k_728 => ?_)
                          · skip
                            refine lv_aload_n hx hb dX7_take_119 rfl (lv_at hl 4 rfl) ?_
                            refine va_get (D := D) (ci := 7) (v := .ref (q 55)) (C := RX7) (T := TX7) (N := 56) hx hb hts (fun _ h => List.mem_cons_of_mem _ (List.mem_append_right _ h)) hown hK hP 0 rfl rfl 55 (by decide) (hts (.fieldLink RX7 118 "CrownTableModel" "cloth" "[I") (mem_i 2 rfl)) (fun _ h9 => h9) rfl dX7_take_120 ?_
                            refine lv_iload_n hx hb dX7_take_123 rfl (lv_at hl 3 rfl) ?_
                            refine lv_dup2_11 hx hb dX7_take_124 rfl rfl ?_
                            refine va_iald hx hb hK hP 1 1 rfl rfl (vin (a := 1) (by decide) (by decide) (by decide)) dX7_take_125 ?_
                            refine lv_topi (fun x_729 ex_729 => ?_)
                            have lf_730 : (f_718 1).toInt = x_729.toInt := by rw [ex_729]; rfl
                            refine lv_iload hx hb dX7_take_126 (lv_at hl 2 rfl) ?_
                            refine lv_isub hx hb dX7_take_128 ?_
                            refine lv_topi (fun x_731 ex_731 => ?_)
                            have tx_731 : x_731.toInt = (x_729.toInt - r_419.toInt) := by rw [ex_731]; exact sub_ti (a := x_729.toInt) (b := r_419.toInt) rfl rfl (by omega) (by omega)
                            refine va_iast hx hb hK hP hD hS 1 1 rfl rfl (vin (a := 1) (by decide) (by decide) (by decide)) dX7_take_129 (fun H locs hP hD hS => ?_)
                            obtain ⟨f_732, ef_732, hP, hD⟩ : ∃ f_732 : Nat → Int32, f_732 = upd f_718 (1 : Int32).toNatClampNeg x_731 ∧ va_P D vwCl [(A_self, .inr (7, o7 q v w)), (q 55, .inl (c 1, 6, .inl f_732))] H ∧ va_D A [(A_self, .inr (7, o7 q v w)), (q 55, .inl (c 1, 6, .inl f_732))] := ⟨_, rfl, hP, hD⟩
                            have cl_733 : (f_732 0).toInt = (f_718 0).toInt := by rw [ef_732]; rfl
                            have cl_734 : (f_732 1).toInt = x_731.toInt := by rw [ef_732]; rfl
                            have cl_735 : (f_732 2).toInt = (f_718 2).toInt := by rw [ef_732]; rfl
                            have cl_736 : (f_732 3).toInt = (f_718 3).toInt := by rw [ef_732]; rfl
                            have cl_737 : (f_732 4).toInt = (f_718 4).toInt := by rw [ef_732]; rfl
                            have cl_738 : (f_732 5).toInt = (f_718 5).toInt := by rw [ef_732]; rfl
                            refine lv_iinc (v := 2) (lv' := [(3, .int 2), (2, .int x_725), (5, .int 1), (4, .int r_419), (0, .ref A_self), (1, .int a1)]) hx hb dX7_take_130 hl (k := 3) rfl (by decide) (by decide) rfl (fun ls hl => ?_)
                            refine lv_goto (tgt := 30) hx hb dX7_take_133 (by decide) ?_
                            have hl := lv_sub hl [0, 4, 5, 1] rfl
                            exact lp_30_2 x_725 f_732 (by omega) (by omega) (by omega) (by omega) (by omega) (by omega) (by omega) _ _ _ hP hD hS hl
                          · skip
                            exfalso; omega
                        · exfalso; omega
                        · exfalso; omega
                      · exfalso; omega
                      · exfalso; omega
                    · exfalso; omega
                · skip
                  exfalso; omega
      have lp_30_0 : ∀ (L2 : Int32) (M_cloth : Nat → Int32) (hf30_0_0 : 0 ≤ (M_cloth 0).toInt ∧ (M_cloth 0).toInt ≤ 11) (hf30_0_1 : 0 ≤ (M_cloth 1).toInt ∧ (M_cloth 1).toInt ≤ 19) (hf30_0_2 : 0 ≤ (M_cloth 2).toInt ∧ (M_cloth 2).toInt ≤ 19) (hf30_0_3 : 0 ≤ (M_cloth 3).toInt ∧ (M_cloth 3).toInt ≤ 4) (hf30_0_4 : 0 ≤ (M_cloth 4).toInt ∧ (M_cloth 4).toInt ≤ 9) (hf30_0_5 : 0 ≤ (M_cloth 5).toInt ∧ (M_cloth 5).toInt ≤ cb) (hf30_0_6 : 1 * (i_a1 / 1) ≤ 1 * (M_cloth 0).toInt + 12 * (M_cloth 1).toInt + 240 * (M_cloth 2).toInt + 4800 * (M_cloth 3).toInt + 24000 * (M_cloth 4).toInt + 240000 * (M_cloth 5).toInt) (H : Heap) (locs : List Loc) (ls : Array Slot), va_P D vwCl [(A_self, .inr (7, o7 q v w)), (q 55, .inl (c 1, 6, .inl M_cloth))] H → va_D A [(A_self, .inr (7, o7 q v w)), (q 55, .inl (c 1, 6, .inl M_cloth))] → va_S A s.heap H locs → lv_has ls 6 [(3, .int 0), (0, .ref A_self), (1, .int a1), (2, .int L2)] → W p l e (headSpec wsX7_take ({ frames := 2, cells := 0, slots := 0, locals := 43 })).room s m (([.ref A_self, .int a1] : List Value).toArray) below meth cd H locs 0 0 (MQ below (va_Qi (fun (r : Int32) (u : (Nat → Int32) × Unit) => (0 ≤ (u.1 0).toInt ∧ (u.1 0).toInt ≤ 11) ∧ (0 ≤ (u.1 1).toInt ∧ (u.1 1).toInt ≤ 19) ∧ (0 ≤ (u.1 2).toInt ∧ (u.1 2).toInt ≤ 19) ∧ (0 ≤ (u.1 3).toInt ∧ (u.1 3).toInt ≤ 4) ∧ (0 ≤ (u.1 4).toInt ∧ (u.1 4).toInt ≤ 9) ∧ (0 ≤ (u.1 5).toInt ∧ (u.1 5).toInt ≤ cb)) (fun u t => va_P D vwCl [(A_self, .inr (7, o7 q v w)), (q 55, .inl (c 1, 6, .inl u.1))] t.heap ∧ va_D A [(A_self, .inr (7, o7 q v w)), (q 55, .inl (c 1, 6, .inl u.1))]) A) ([.ref A_self, .int a1] : List Value).toArray s 0 0 A) (F0 m 30 ls []) := by
        intro L2 M_cloth hf30_0_0 hf30_0_1 hf30_0_2 hf30_0_3 hf30_0_4 hf30_0_5 hf30_0_6 H locs ls hP hD hS hl
        have rg_L2 := i32r L2
        refine lv_iload_n hx hb dX7_take_30 rfl (lv_at hl 0 rfl) ?_
        refine lv_bipush (v := 6) hx hb dX7_take_31 (by decide) ?_
        refine iicmp_geF (a := 0) (b := 6) (tgt := 136) hx hb (by decide) (by decide) dX7_take_33 (by decide) (by decide) ?_
        refine lv_iload_n hx hb dX7_take_36 rfl (lv_at hl 2 rfl) ?_
        refine lv_iload_n hx hb dX7_take_37 rfl (lv_at hl 0 rfl) ?_
        have hPc := hP.sub (ws' := []) [] rfl
        have hDc := hD.sub (ws' := []) [] (by decide) rfl
        have hFc := va_free (wc := []) hD hS hA [] rfl
        have kzz_739 : (0 : Int32).toInt = 0 := by decide
        refine va_csi (va_runS (As := [.int a1, .int 0]) (rest := []) ⟨hx, hb, hml, hown, hts⟩ (k_X7_notch_P l D c ts H.size a1 i_a1 hi_a1 0 0 (by decide) (by omega) (by omega)) (cwS 2 hts gX7_take_X7_notch rfl rfl rfl ⟨rfl, hdX7_notch⟩ ⟨(show 1 + 1 ≤ 2 by decide), (show 8 + (2 + 11) + 20 ≤ 43 by decide)⟩) ⟨Pre0.blind, Pre0.at hPc hDc hAm hSt hS hFc⟩ rfl rfl hl.1 rfl (lv_room (Nat.le_of_ble_eq_true rfl)) dX7_take_38 ⟨(show 0 + 0 ≤ 0 by decide), (show 0 + 0 ≤ 0 by decide)⟩) (fun r_741 hw_740 => ?_)
        have nf_742 := hw_740.2.1 rfl
        have nf_743 := hw_740.1
        clear hw_740
        have rg_r_741 := i32r r_741
        refine lv_istore (lv' := [(4, .int r_741), (3, .int 0), (0, .ref A_self), (1, .int a1), (2, .int L2)]) hx hb dX7_take_41 hl (by decide) rfl (fun ls hl => ?_)
        refine lv_aload_n hx hb dX7_take_43 rfl (lv_at hl 2 rfl) ?_
        refine va_get (D := D) (ci := 7) (v := .ref (q 55)) (C := RX7) (T := TX7) (N := 56) hx hb hts (fun _ h => List.mem_cons_of_mem _ (List.mem_append_right _ h)) hown hK hP 0 rfl rfl 55 (by decide) (hts (.fieldLink RX7 118 "CrownTableModel" "cloth" "[I") (mem_i 2 rfl)) (fun _ h9 => h9) rfl dX7_take_44 ?_
        refine lv_iload_n hx hb dX7_take_47 rfl (lv_at hl 1 rfl) ?_
        refine va_iald hx hb hK hP 1 1 rfl rfl (vin (a := 0) (by decide) (by decide) (by decide)) dX7_take_48 ?_
        refine lv_topi (fun x_744 ex_744 => ?_)
        have lf_745 : (M_cloth 0).toInt = x_744.toInt := by rw [ex_744]; rfl
        refine lv_iload hx hb dX7_take_49 (lv_at hl 0 rfl) ?_
        refine iicmp_ge (a := x_744.toInt) (b := r_741.toInt) (tgt := 119) hx hb rfl rfl dX7_take_51 (by decide) (fun k_746 => ?_) (fun k_746 => ?_)
        · skip
          refine lv_aload_n hx hb dX7_take_119 rfl (lv_at hl 2 rfl) ?_
          refine va_get (D := D) (ci := 7) (v := .ref (q 55)) (C := RX7) (T := TX7) (N := 56) hx hb hts (fun _ h => List.mem_cons_of_mem _ (List.mem_append_right _ h)) hown hK hP 0 rfl rfl 55 (by decide) (hts (.fieldLink RX7 118 "CrownTableModel" "cloth" "[I") (mem_i 2 rfl)) (fun _ h9 => h9) rfl dX7_take_120 ?_
          refine lv_iload_n hx hb dX7_take_123 rfl (lv_at hl 1 rfl) ?_
          refine lv_dup2_11 hx hb dX7_take_124 rfl rfl ?_
          refine va_iald hx hb hK hP 1 1 rfl rfl (vin (a := 0) (by decide) (by decide) (by decide)) dX7_take_125 ?_
          refine lv_topi (fun x_747 ex_747 => ?_)
          have lf_748 : (M_cloth 0).toInt = x_747.toInt := by rw [ex_747]; rfl
          refine lv_iload hx hb dX7_take_126 (lv_at hl 0 rfl) ?_
          refine lv_isub hx hb dX7_take_128 ?_
          refine lv_topi (fun x_749 ex_749 => ?_)
          have tx_749 : x_749.toInt = (x_747.toInt - r_741.toInt) := by rw [ex_749]; exact sub_ti (a := x_747.toInt) (b := r_741.toInt) rfl rfl (by omega) (by omega)
          refine va_iast hx hb hK hP hD hS 1 1 rfl rfl (vin (a := 0) (by decide) (by decide) (by decide)) dX7_take_129 (fun H locs hP hD hS => ?_)
          obtain ⟨f_750, ef_750, hP, hD⟩ : ∃ f_750 : Nat → Int32, f_750 = upd M_cloth (0 : Int32).toNatClampNeg x_749 ∧ va_P D vwCl [(A_self, .inr (7, o7 q v w)), (q 55, .inl (c 1, 6, .inl f_750))] H ∧ va_D A [(A_self, .inr (7, o7 q v w)), (q 55, .inl (c 1, 6, .inl f_750))] := ⟨_, rfl, hP, hD⟩
          have cl_751 : (f_750 0).toInt = x_749.toInt := by rw [ef_750]; rfl
          have cl_752 : (f_750 1).toInt = (M_cloth 1).toInt := by rw [ef_750]; rfl
          have cl_753 : (f_750 2).toInt = (M_cloth 2).toInt := by rw [ef_750]; rfl
          have cl_754 : (f_750 3).toInt = (M_cloth 3).toInt := by rw [ef_750]; rfl
          have cl_755 : (f_750 4).toInt = (M_cloth 4).toInt := by rw [ef_750]; rfl
          have cl_756 : (f_750 5).toInt = (M_cloth 5).toInt := by rw [ef_750]; rfl
          refine lv_iinc (v := 1) (lv' := [(3, .int 1), (4, .int r_741), (0, .ref A_self), (1, .int a1), (2, .int L2)]) hx hb dX7_take_130 hl (k := 1) rfl (by decide) (by decide) rfl (fun ls hl => ?_)
          refine lv_goto (tgt := 30) hx hb dX7_take_133 (by decide) ?_
          have hl := lv_sub hl [0, 2, 3, 4] rfl
          exact lp_30_1 L2 f_750 (by omega) (by omega) (by omega) (by omega) (by omega) (by omega) (by omega) _ _ _ hP hD hS hl
        · skip
          refine lv_iload_n hx hb dX7_take_54 rfl (lv_at hl 1 rfl) ?_
          refine lv_iconst (v := 1) hx hb dX7_take_55 (by decide) ?_
          refine lv_iadd hx hb dX7_take_56 ?_
          refine lk_i (y := 1) (by decide) ?_
          refine lv_istore (lv' := [(5, .int 1), (4, .int r_741), (3, .int 0), (0, .ref A_self), (1, .int a1), (2, .int L2)]) hx hb dX7_take_57 hl (by decide) rfl (fun ls hl => ?_)
          refine lv_aload_n hx hb dX7_take_59 rfl (lv_at hl 3 rfl) ?_
          refine va_get (D := D) (ci := 7) (v := .ref (q 55)) (C := RX7) (T := TX7) (N := 56) hx hb hts (fun _ h => List.mem_cons_of_mem _ (List.mem_append_right _ h)) hown hK hP 0 rfl rfl 55 (by decide) (hts (.fieldLink RX7 118 "CrownTableModel" "cloth" "[I") (mem_i 2 rfl)) (fun _ h9 => h9) rfl dX7_take_60 ?_
          refine lv_iload hx hb dX7_take_63 (lv_at hl 0 rfl) ?_
          refine va_iald hx hb hK hP 1 1 rfl rfl (vin (a := 1) (by decide) (by decide) (by decide)) dX7_take_65 ?_
          refine lv_topi (fun x_757 ex_757 => ?_)
          have lf_758 : (M_cloth 1).toInt = x_757.toInt := by rw [ex_757]; rfl
          refine iif_ne (a := x_757.toInt) (tgt := 75) hx hb rfl dX7_take_66 (by decide) (fun k_759 => ?_) (fun k_759 => ?_)
          · skip
            refine lv_iload hx hb dX7_take_75 (lv_at hl 0 rfl) ?_
            refine lv_iload_n hx hb dX7_take_77 rfl (lv_at hl 2 rfl) ?_
            refine iicmp_leF (a := 1) (b := 0) (tgt := 116) hx hb (by decide) (by decide) dX7_take_78 (by decide) (by decide) ?_
            refine lv_aload_n hx hb dX7_take_81 rfl (lv_at hl 3 rfl) ?_
            refine va_get (D := D) (ci := 7) (v := .ref (q 55)) (C := RX7) (T := TX7) (N := 56) hx hb hts (fun _ h => List.mem_cons_of_mem _ (List.mem_append_right _ h)) hown hK hP 0 rfl rfl 55 (by decide) (hts (.fieldLink RX7 118 "CrownTableModel" "cloth" "[I") (mem_i 2 rfl)) (fun _ h9 => h9) rfl dX7_take_82 ?_
            refine lv_iload hx hb dX7_take_85 (lv_at hl 0 rfl) ?_
            refine lv_dup2_11 hx hb dX7_take_87 rfl rfl ?_
            refine va_iald hx hb hK hP 1 1 rfl rfl (vin (a := 1) (by decide) (by decide) (by decide)) dX7_take_88 ?_
            refine lv_topi (fun x_760 ex_760 => ?_)
            have lf_761 : (M_cloth 1).toInt = x_760.toInt := by rw [ex_760]; rfl
            refine lv_iconst (v := 1) hx hb dX7_take_89 (by decide) ?_
            refine lv_isub hx hb dX7_take_90 ?_
            refine lv_topi (fun x_762 ex_762 => ?_)
            have tx_762 : x_762.toInt = (x_760.toInt - 1) := by rw [ex_762]; exact sub_ti (a := x_760.toInt) (b := 1) rfl (by decide) (by omega) (by omega)
            refine va_iast hx hb hK hP hD hS 1 1 rfl rfl (vin (a := 1) (by decide) (by decide) (by decide)) dX7_take_91 (fun H locs hP hD hS => ?_)
            obtain ⟨f_763, ef_763, hP, hD⟩ : ∃ f_763 : Nat → Int32, f_763 = upd M_cloth (1 : Int32).toNatClampNeg x_762 ∧ va_P D vwCl [(A_self, .inr (7, o7 q v w)), (q 55, .inl (c 1, 6, .inl f_763))] H ∧ va_D A [(A_self, .inr (7, o7 q v w)), (q 55, .inl (c 1, 6, .inl f_763))] := ⟨_, rfl, hP, hD⟩
            have cl_764 : (f_763 0).toInt = (M_cloth 0).toInt := by rw [ef_763]; rfl
            have cl_765 : (f_763 1).toInt = x_762.toInt := by rw [ef_763]; rfl
            have cl_766 : (f_763 2).toInt = (M_cloth 2).toInt := by rw [ef_763]; rfl
            have cl_767 : (f_763 3).toInt = (M_cloth 3).toInt := by rw [ef_763]; rfl
            have cl_768 : (f_763 4).toInt = (M_cloth 4).toInt := by rw [ef_763]; rfl
            have cl_769 : (f_763 5).toInt = (M_cloth 5).toInt := by rw [ef_763]; rfl
            refine lv_iinc (v := 0) (lv' := [(5, .int 0), (4, .int r_741), (3, .int 0), (0, .ref A_self), (1, .int a1), (2, .int L2)]) hx hb dX7_take_92 hl (k := 0) rfl (by decide) (by decide) rfl (fun ls hl => ?_)
            refine lv_aload_n hx hb dX7_take_95 rfl (lv_at hl 3 rfl) ?_
            refine va_get (D := D) (ci := 7) (v := .ref (q 55)) (C := RX7) (T := TX7) (N := 56) hx hb hts (fun _ h => List.mem_cons_of_mem _ (List.mem_append_right _ h)) hown hK hP 0 rfl rfl 55 (by decide) (hts (.fieldLink RX7 118 "CrownTableModel" "cloth" "[I") (mem_i 2 rfl)) (fun _ h9 => h9) rfl dX7_take_96 ?_
            refine lv_iload hx hb dX7_take_99 (lv_at hl 0 rfl) ?_
            refine lv_dup2_11 hx hb dX7_take_101 rfl rfl ?_
            refine va_iald hx hb hK hP 1 1 rfl rfl (vin (a := 0) (by decide) (by decide) (by decide)) dX7_take_102 ?_
            refine lv_topi (fun x_770 ex_770 => ?_)
            have lf_771 : (f_763 0).toInt = x_770.toInt := by rw [ex_770]; rfl
            refine lv_iload hx hb dX7_take_103 (lv_at hl 0 rfl) ?_
            have hPc := hP.sub (ws' := []) [] rfl
            have hDc := hD.sub (ws' := []) [] (by decide) rfl
            have hFc := va_free (wc := []) hD hS hA [] rfl
            have kzz_772 : (0 : Int32).toInt = 0 := by decide
            refine va_csi (va_runS (As := [.int 0]) (rest := [.int x_770, .int 0, .ref (q 55)]) ⟨hx, hb, hml, hown, hts⟩ (k_X7_next l D c ts H.size 0 0 (by decide) (by omega)) (cwS 1 hts gX7_take_X7_next rfl rfl rfl ⟨rfl, hdX7_next⟩ ⟨(show 1 + 1 ≤ 2 by decide), (show 8 + (1 + 11) + 20 ≤ 43 by decide)⟩) ⟨Pre0.blind, Pre0.at hPc hDc hAm hSt hS hFc⟩ rfl rfl hl.1 rfl (lv_room (Nat.le_of_ble_eq_true rfl)) dX7_take_105 ⟨(show 0 + 0 ≤ 0 by decide), (show 0 + 0 ≤ 0 by decide)⟩) (fun r_774 hw_773 => ?_)
            rcases hw_773 with ⟨hw_773, rfl⟩ | ⟨hw_773, rfl⟩ | ⟨hw_773, rfl⟩ | ⟨hw_773, rfl⟩
            · skip
              refine lv_iadd hx hb dX7_take_108 ?_
              refine lv_topi (fun x_775 ex_775 => ?_)
              have tx_775 : x_775.toInt = (x_770.toInt + 12) := by rw [ex_775]; exact add_ti (a := x_770.toInt) (b := 12) rfl (by decide) (by omega) (by omega)
              refine va_iast hx hb hK hP hD hS 1 1 rfl rfl (vin (a := 0) (by decide) (by decide) (by decide)) dX7_take_109 (fun H locs hP hD hS => ?_)
              obtain ⟨f_776, ef_776, hP, hD⟩ : ∃ f_776 : Nat → Int32, f_776 = upd f_763 (0 : Int32).toNatClampNeg x_775 ∧ va_P D vwCl [(A_self, .inr (7, o7 q v w)), (q 55, .inl (c 1, 6, .inl f_776))] H ∧ va_D A [(A_self, .inr (7, o7 q v w)), (q 55, .inl (c 1, 6, .inl f_776))] := ⟨_, rfl, hP, hD⟩
              have cl_777 : (f_776 0).toInt = x_775.toInt := by rw [ef_776]; rfl
              have cl_778 : (f_776 1).toInt = (f_763 1).toInt := by rw [ef_776]; rfl
              have cl_779 : (f_776 2).toInt = (f_763 2).toInt := by rw [ef_776]; rfl
              have cl_780 : (f_776 3).toInt = (f_763 3).toInt := by rw [ef_776]; rfl
              have cl_781 : (f_776 4).toInt = (f_763 4).toInt := by rw [ef_776]; rfl
              have cl_782 : (f_776 5).toInt = (f_763 5).toInt := by rw [ef_776]; rfl
              obtain ⟨x_783, ex_783⟩ : ∃ y : Int32, y = L2 + 1 := ⟨_, rfl⟩
              refine lv_iinc (v := x_783) (lv' := [(2, .int x_783), (5, .int 0), (4, .int r_741), (3, .int 0), (0, .ref A_self), (1, .int a1)]) hx hb dX7_take_110 hl (k := 5) rfl (by rw [ex_783]; rfl) (by decide) rfl (fun ls hl => ?_)
              refine lv_goto (tgt := 75) hx hb dX7_take_113 (by decide) ?_
              refine lv_iload hx hb dX7_take_75 (lv_at hl 1 rfl) ?_
              refine lv_iload_n hx hb dX7_take_77 rfl (lv_at hl 3 rfl) ?_
              refine iicmp_leT (a := 0) (b := 0) (tgt := 116) hx hb (by decide) (by decide) dX7_take_78 (by decide) (by decide) ?_
              refine lv_goto (tgt := 43) hx hb dX7_take_116 (by decide) ?_
              refine lv_aload_n hx hb dX7_take_43 rfl (lv_at hl 4 rfl) ?_
              refine va_get (D := D) (ci := 7) (v := .ref (q 55)) (C := RX7) (T := TX7) (N := 56) hx hb hts (fun _ h => List.mem_cons_of_mem _ (List.mem_append_right _ h)) hown hK hP 0 rfl rfl 55 (by decide) (hts (.fieldLink RX7 118 "CrownTableModel" "cloth" "[I") (mem_i 2 rfl)) (fun _ h9 => h9) rfl dX7_take_44 ?_
              refine lv_iload_n hx hb dX7_take_47 rfl (lv_at hl 3 rfl) ?_
              refine va_iald hx hb hK hP 1 1 rfl rfl (vin (a := 0) (by decide) (by decide) (by decide)) dX7_take_48 ?_
              refine lv_topi (fun x_784 ex_784 => ?_)
              have lf_785 : (f_776 0).toInt = x_784.toInt := by rw [ex_784]; rfl
              refine lv_iload hx hb dX7_take_49 (lv_at hl 2 rfl) ?_
              refine iicmp_ge (a := x_784.toInt) (b := r_741.toInt) (tgt := 119) hx hb rfl rfl dX7_take_51 (by decide) (fun k_786 => ?_) (fun k_786 => ?_)
              · skip
                refine lv_aload_n hx hb dX7_take_119 rfl (lv_at hl 4 rfl) ?_
                refine va_get (D := D) (ci := 7) (v := .ref (q 55)) (C := RX7) (T := TX7) (N := 56) hx hb hts (fun _ h => List.mem_cons_of_mem _ (List.mem_append_right _ h)) hown hK hP 0 rfl rfl 55 (by decide) (hts (.fieldLink RX7 118 "CrownTableModel" "cloth" "[I") (mem_i 2 rfl)) (fun _ h9 => h9) rfl dX7_take_120 ?_
                refine lv_iload_n hx hb dX7_take_123 rfl (lv_at hl 3 rfl) ?_
                refine lv_dup2_11 hx hb dX7_take_124 rfl rfl ?_
                refine va_iald hx hb hK hP 1 1 rfl rfl (vin (a := 0) (by decide) (by decide) (by decide)) dX7_take_125 ?_
                refine lv_topi (fun x_787 ex_787 => ?_)
                have lf_788 : (f_776 0).toInt = x_787.toInt := by rw [ex_787]; rfl
                refine lv_iload hx hb dX7_take_126 (lv_at hl 2 rfl) ?_
                refine lv_isub hx hb dX7_take_128 ?_
                refine lv_topi (fun x_789 ex_789 => ?_)
                have tx_789 : x_789.toInt = (x_787.toInt - r_741.toInt) := by rw [ex_789]; exact sub_ti (a := x_787.toInt) (b := r_741.toInt) rfl rfl (by omega) (by omega)
                refine va_iast hx hb hK hP hD hS 1 1 rfl rfl (vin (a := 0) (by decide) (by decide) (by decide)) dX7_take_129 (fun H locs hP hD hS => ?_)
                obtain ⟨f_790, ef_790, hP, hD⟩ : ∃ f_790 : Nat → Int32, f_790 = upd f_776 (0 : Int32).toNatClampNeg x_789 ∧ va_P D vwCl [(A_self, .inr (7, o7 q v w)), (q 55, .inl (c 1, 6, .inl f_790))] H ∧ va_D A [(A_self, .inr (7, o7 q v w)), (q 55, .inl (c 1, 6, .inl f_790))] := ⟨_, rfl, hP, hD⟩
                have cl_791 : (f_790 0).toInt = x_789.toInt := by rw [ef_790]; rfl
                have cl_792 : (f_790 1).toInt = (f_776 1).toInt := by rw [ef_790]; rfl
                have cl_793 : (f_790 2).toInt = (f_776 2).toInt := by rw [ef_790]; rfl
                have cl_794 : (f_790 3).toInt = (f_776 3).toInt := by rw [ef_790]; rfl
                have cl_795 : (f_790 4).toInt = (f_776 4).toInt := by rw [ef_790]; rfl
                have cl_796 : (f_790 5).toInt = (f_776 5).toInt := by rw [ef_790]; rfl
                refine lv_iinc (v := 1) (lv' := [(3, .int 1), (2, .int x_783), (5, .int 0), (4, .int r_741), (0, .ref A_self), (1, .int a1)]) hx hb dX7_take_130 hl (k := 3) rfl (by decide) (by decide) rfl (fun ls hl => ?_)
                refine lv_goto (tgt := 30) hx hb dX7_take_133 (by decide) ?_
                have hl := lv_sub hl [0, 4, 5, 1] rfl
                exact lp_30_1 x_783 f_790 (by omega) (by omega) (by omega) (by omega) (by omega) (by omega) (by omega) _ _ _ hP hD hS hl
              · skip
                exfalso; omega
            · exfalso; omega
            · exfalso; omega
            · exfalso; omega
          · skip
            refine lv_iinc (v := 2) (lv' := [(5, .int 2), (4, .int r_741), (3, .int 0), (0, .ref A_self), (1, .int a1), (2, .int L2)]) hx hb dX7_take_69 hl (k := 0) rfl (by decide) (by decide) rfl (fun ls hl => ?_)
            refine lv_goto (tgt := 59) hx hb dX7_take_72 (by decide) ?_
            refine lv_aload_n hx hb dX7_take_59 rfl (lv_at hl 3 rfl) ?_
            refine va_get (D := D) (ci := 7) (v := .ref (q 55)) (C := RX7) (T := TX7) (N := 56) hx hb hts (fun _ h => List.mem_cons_of_mem _ (List.mem_append_right _ h)) hown hK hP 0 rfl rfl 55 (by decide) (hts (.fieldLink RX7 118 "CrownTableModel" "cloth" "[I") (mem_i 2 rfl)) (fun _ h9 => h9) rfl dX7_take_60 ?_
            refine lv_iload hx hb dX7_take_63 (lv_at hl 0 rfl) ?_
            refine va_iald hx hb hK hP 1 1 rfl rfl (vin (a := 2) (by decide) (by decide) (by decide)) dX7_take_65 ?_
            refine lv_topi (fun x_797 ex_797 => ?_)
            have lf_798 : (M_cloth 2).toInt = x_797.toInt := by rw [ex_797]; rfl
            refine iif_ne (a := x_797.toInt) (tgt := 75) hx hb rfl dX7_take_66 (by decide) (fun k_799 => ?_) (fun k_799 => ?_)
            · skip
              refine lv_iload hx hb dX7_take_75 (lv_at hl 0 rfl) ?_
              refine lv_iload_n hx hb dX7_take_77 rfl (lv_at hl 2 rfl) ?_
              refine iicmp_leF (a := 2) (b := 0) (tgt := 116) hx hb (by decide) (by decide) dX7_take_78 (by decide) (by decide) ?_
              refine lv_aload_n hx hb dX7_take_81 rfl (lv_at hl 3 rfl) ?_
              refine va_get (D := D) (ci := 7) (v := .ref (q 55)) (C := RX7) (T := TX7) (N := 56) hx hb hts (fun _ h => List.mem_cons_of_mem _ (List.mem_append_right _ h)) hown hK hP 0 rfl rfl 55 (by decide) (hts (.fieldLink RX7 118 "CrownTableModel" "cloth" "[I") (mem_i 2 rfl)) (fun _ h9 => h9) rfl dX7_take_82 ?_
              refine lv_iload hx hb dX7_take_85 (lv_at hl 0 rfl) ?_
              refine lv_dup2_11 hx hb dX7_take_87 rfl rfl ?_
              refine va_iald hx hb hK hP 1 1 rfl rfl (vin (a := 2) (by decide) (by decide) (by decide)) dX7_take_88 ?_
              refine lv_topi (fun x_800 ex_800 => ?_)
              have lf_801 : (M_cloth 2).toInt = x_800.toInt := by rw [ex_800]; rfl
              refine lv_iconst (v := 1) hx hb dX7_take_89 (by decide) ?_
              refine lv_isub hx hb dX7_take_90 ?_
              refine lv_topi (fun x_802 ex_802 => ?_)
              have tx_802 : x_802.toInt = (x_800.toInt - 1) := by rw [ex_802]; exact sub_ti (a := x_800.toInt) (b := 1) rfl (by decide) (by omega) (by omega)
              refine va_iast hx hb hK hP hD hS 1 1 rfl rfl (vin (a := 2) (by decide) (by decide) (by decide)) dX7_take_91 (fun H locs hP hD hS => ?_)
              obtain ⟨f_803, ef_803, hP, hD⟩ : ∃ f_803 : Nat → Int32, f_803 = upd M_cloth (2 : Int32).toNatClampNeg x_802 ∧ va_P D vwCl [(A_self, .inr (7, o7 q v w)), (q 55, .inl (c 1, 6, .inl f_803))] H ∧ va_D A [(A_self, .inr (7, o7 q v w)), (q 55, .inl (c 1, 6, .inl f_803))] := ⟨_, rfl, hP, hD⟩
              have cl_804 : (f_803 0).toInt = (M_cloth 0).toInt := by rw [ef_803]; rfl
              have cl_805 : (f_803 1).toInt = (M_cloth 1).toInt := by rw [ef_803]; rfl
              have cl_806 : (f_803 2).toInt = x_802.toInt := by rw [ef_803]; rfl
              have cl_807 : (f_803 3).toInt = (M_cloth 3).toInt := by rw [ef_803]; rfl
              have cl_808 : (f_803 4).toInt = (M_cloth 4).toInt := by rw [ef_803]; rfl
              have cl_809 : (f_803 5).toInt = (M_cloth 5).toInt := by rw [ef_803]; rfl
              refine lv_iinc (v := 1) (lv' := [(5, .int 1), (4, .int r_741), (3, .int 0), (0, .ref A_self), (1, .int a1), (2, .int L2)]) hx hb dX7_take_92 hl (k := 0) rfl (by decide) (by decide) rfl (fun ls hl => ?_)
              refine lv_aload_n hx hb dX7_take_95 rfl (lv_at hl 3 rfl) ?_
              refine va_get (D := D) (ci := 7) (v := .ref (q 55)) (C := RX7) (T := TX7) (N := 56) hx hb hts (fun _ h => List.mem_cons_of_mem _ (List.mem_append_right _ h)) hown hK hP 0 rfl rfl 55 (by decide) (hts (.fieldLink RX7 118 "CrownTableModel" "cloth" "[I") (mem_i 2 rfl)) (fun _ h9 => h9) rfl dX7_take_96 ?_
              refine lv_iload hx hb dX7_take_99 (lv_at hl 0 rfl) ?_
              refine lv_dup2_11 hx hb dX7_take_101 rfl rfl ?_
              refine va_iald hx hb hK hP 1 1 rfl rfl (vin (a := 1) (by decide) (by decide) (by decide)) dX7_take_102 ?_
              refine lv_topi (fun x_810 ex_810 => ?_)
              have lf_811 : (f_803 1).toInt = x_810.toInt := by rw [ex_810]; rfl
              refine lv_iload hx hb dX7_take_103 (lv_at hl 0 rfl) ?_
              have hPc := hP.sub (ws' := []) [] rfl
              have hDc := hD.sub (ws' := []) [] (by decide) rfl
              have hFc := va_free (wc := []) hD hS hA [] rfl
              have kzz_812 : (1 : Int32).toInt = 1 := by decide
              refine va_csi (va_runS (As := [.int 1]) (rest := [.int x_810, .int 1, .ref (q 55)]) ⟨hx, hb, hml, hown, hts⟩ (k_X7_next l D c ts H.size 1 1 (by decide) (by omega)) (cwS 1 hts gX7_take_X7_next rfl rfl rfl ⟨rfl, hdX7_next⟩ ⟨(show 1 + 1 ≤ 2 by decide), (show 8 + (1 + 11) + 20 ≤ 43 by decide)⟩) ⟨Pre0.blind, Pre0.at hPc hDc hAm hSt hS hFc⟩ rfl rfl hl.1 rfl (lv_room (Nat.le_of_ble_eq_true rfl)) dX7_take_105 ⟨(show 0 + 0 ≤ 0 by decide), (show 0 + 0 ≤ 0 by decide)⟩) (fun r_814 hw_813 => ?_)
              rcases hw_813 with ⟨hw_813, rfl⟩ | ⟨hw_813, rfl⟩ | ⟨hw_813, rfl⟩ | ⟨hw_813, rfl⟩
              · exfalso; omega
              · skip
                refine lv_iadd hx hb dX7_take_108 ?_
                refine lv_topi (fun x_815 ex_815 => ?_)
                have tx_815 : x_815.toInt = (x_810.toInt + 20) := by rw [ex_815]; exact add_ti (a := x_810.toInt) (b := 20) rfl (by decide) (by omega) (by omega)
                refine va_iast hx hb hK hP hD hS 1 1 rfl rfl (vin (a := 1) (by decide) (by decide) (by decide)) dX7_take_109 (fun H locs hP hD hS => ?_)
                obtain ⟨f_816, ef_816, hP, hD⟩ : ∃ f_816 : Nat → Int32, f_816 = upd f_803 (1 : Int32).toNatClampNeg x_815 ∧ va_P D vwCl [(A_self, .inr (7, o7 q v w)), (q 55, .inl (c 1, 6, .inl f_816))] H ∧ va_D A [(A_self, .inr (7, o7 q v w)), (q 55, .inl (c 1, 6, .inl f_816))] := ⟨_, rfl, hP, hD⟩
                have cl_817 : (f_816 0).toInt = (f_803 0).toInt := by rw [ef_816]; rfl
                have cl_818 : (f_816 1).toInt = x_815.toInt := by rw [ef_816]; rfl
                have cl_819 : (f_816 2).toInt = (f_803 2).toInt := by rw [ef_816]; rfl
                have cl_820 : (f_816 3).toInt = (f_803 3).toInt := by rw [ef_816]; rfl
                have cl_821 : (f_816 4).toInt = (f_803 4).toInt := by rw [ef_816]; rfl
                have cl_822 : (f_816 5).toInt = (f_803 5).toInt := by rw [ef_816]; rfl
                obtain ⟨x_823, ex_823⟩ : ∃ y : Int32, y = L2 + 1 := ⟨_, rfl⟩
                refine lv_iinc (v := x_823) (lv' := [(2, .int x_823), (5, .int 1), (4, .int r_741), (3, .int 0), (0, .ref A_self), (1, .int a1)]) hx hb dX7_take_110 hl (k := 5) rfl (by rw [ex_823]; rfl) (by decide) rfl (fun ls hl => ?_)
                refine lv_goto (tgt := 75) hx hb dX7_take_113 (by decide) ?_
                refine lv_iload hx hb dX7_take_75 (lv_at hl 1 rfl) ?_
                refine lv_iload_n hx hb dX7_take_77 rfl (lv_at hl 3 rfl) ?_
                refine iicmp_leF (a := 1) (b := 0) (tgt := 116) hx hb (by decide) (by decide) dX7_take_78 (by decide) (by decide) ?_
                refine lv_aload_n hx hb dX7_take_81 rfl (lv_at hl 4 rfl) ?_
                refine va_get (D := D) (ci := 7) (v := .ref (q 55)) (C := RX7) (T := TX7) (N := 56) hx hb hts (fun _ h => List.mem_cons_of_mem _ (List.mem_append_right _ h)) hown hK hP 0 rfl rfl 55 (by decide) (hts (.fieldLink RX7 118 "CrownTableModel" "cloth" "[I") (mem_i 2 rfl)) (fun _ h9 => h9) rfl dX7_take_82 ?_
                refine lv_iload hx hb dX7_take_85 (lv_at hl 1 rfl) ?_
                refine lv_dup2_11 hx hb dX7_take_87 rfl rfl ?_
                refine va_iald hx hb hK hP 1 1 rfl rfl (vin (a := 1) (by decide) (by decide) (by decide)) dX7_take_88 ?_
                refine lv_topi (fun x_824 ex_824 => ?_)
                have lf_825 : (f_816 1).toInt = x_824.toInt := by rw [ex_824]; rfl
                refine lv_iconst (v := 1) hx hb dX7_take_89 (by decide) ?_
                refine lv_isub hx hb dX7_take_90 ?_
                refine lv_topi (fun x_826 ex_826 => ?_)
                have tx_826 : x_826.toInt = (x_824.toInt - 1) := by rw [ex_826]; exact sub_ti (a := x_824.toInt) (b := 1) rfl (by decide) (by omega) (by omega)
                refine va_iast hx hb hK hP hD hS 1 1 rfl rfl (vin (a := 1) (by decide) (by decide) (by decide)) dX7_take_91 (fun H locs hP hD hS => ?_)
                obtain ⟨f_827, ef_827, hP, hD⟩ : ∃ f_827 : Nat → Int32, f_827 = upd f_816 (1 : Int32).toNatClampNeg x_826 ∧ va_P D vwCl [(A_self, .inr (7, o7 q v w)), (q 55, .inl (c 1, 6, .inl f_827))] H ∧ va_D A [(A_self, .inr (7, o7 q v w)), (q 55, .inl (c 1, 6, .inl f_827))] := ⟨_, rfl, hP, hD⟩
                have cl_828 : (f_827 0).toInt = (f_816 0).toInt := by rw [ef_827]; rfl
                have cl_829 : (f_827 1).toInt = x_826.toInt := by rw [ef_827]; rfl
                have cl_830 : (f_827 2).toInt = (f_816 2).toInt := by rw [ef_827]; rfl
                have cl_831 : (f_827 3).toInt = (f_816 3).toInt := by rw [ef_827]; rfl
                have cl_832 : (f_827 4).toInt = (f_816 4).toInt := by rw [ef_827]; rfl
                have cl_833 : (f_827 5).toInt = (f_816 5).toInt := by rw [ef_827]; rfl
                refine lv_iinc (v := 0) (lv' := [(5, .int 0), (2, .int x_823), (4, .int r_741), (3, .int 0), (0, .ref A_self), (1, .int a1)]) hx hb dX7_take_92 hl (k := 1) rfl (by decide) (by decide) rfl (fun ls hl => ?_)
                refine lv_aload_n hx hb dX7_take_95 rfl (lv_at hl 4 rfl) ?_
                refine va_get (D := D) (ci := 7) (v := .ref (q 55)) (C := RX7) (T := TX7) (N := 56) hx hb hts (fun _ h => List.mem_cons_of_mem _ (List.mem_append_right _ h)) hown hK hP 0 rfl rfl 55 (by decide) (hts (.fieldLink RX7 118 "CrownTableModel" "cloth" "[I") (mem_i 2 rfl)) (fun _ h9 => h9) rfl dX7_take_96 ?_
                refine lv_iload hx hb dX7_take_99 (lv_at hl 0 rfl) ?_
                refine lv_dup2_11 hx hb dX7_take_101 rfl rfl ?_
                refine va_iald hx hb hK hP 1 1 rfl rfl (vin (a := 0) (by decide) (by decide) (by decide)) dX7_take_102 ?_
                refine lv_topi (fun x_834 ex_834 => ?_)
                have lf_835 : (f_827 0).toInt = x_834.toInt := by rw [ex_834]; rfl
                refine lv_iload hx hb dX7_take_103 (lv_at hl 0 rfl) ?_
                have hPc := hP.sub (ws' := []) [] rfl
                have hDc := hD.sub (ws' := []) [] (by decide) rfl
                have hFc := va_free (wc := []) hD hS hA [] rfl
                have kzz_836 : (0 : Int32).toInt = 0 := by decide
                refine va_csi (va_runS (As := [.int 0]) (rest := [.int x_834, .int 0, .ref (q 55)]) ⟨hx, hb, hml, hown, hts⟩ (k_X7_next l D c ts H.size 0 0 (by decide) (by omega)) (cwS 1 hts gX7_take_X7_next rfl rfl rfl ⟨rfl, hdX7_next⟩ ⟨(show 1 + 1 ≤ 2 by decide), (show 8 + (1 + 11) + 20 ≤ 43 by decide)⟩) ⟨Pre0.blind, Pre0.at hPc hDc hAm hSt hS hFc⟩ rfl rfl hl.1 rfl (lv_room (Nat.le_of_ble_eq_true rfl)) dX7_take_105 ⟨(show 0 + 0 ≤ 0 by decide), (show 0 + 0 ≤ 0 by decide)⟩) (fun r_838 hw_837 => ?_)
                rcases hw_837 with ⟨hw_837, rfl⟩ | ⟨hw_837, rfl⟩ | ⟨hw_837, rfl⟩ | ⟨hw_837, rfl⟩
                · skip
                  refine lv_iadd hx hb dX7_take_108 ?_
                  refine lv_topi (fun x_839 ex_839 => ?_)
                  have tx_839 : x_839.toInt = (x_834.toInt + 12) := by rw [ex_839]; exact add_ti (a := x_834.toInt) (b := 12) rfl (by decide) (by omega) (by omega)
                  refine va_iast hx hb hK hP hD hS 1 1 rfl rfl (vin (a := 0) (by decide) (by decide) (by decide)) dX7_take_109 (fun H locs hP hD hS => ?_)
                  obtain ⟨f_840, ef_840, hP, hD⟩ : ∃ f_840 : Nat → Int32, f_840 = upd f_827 (0 : Int32).toNatClampNeg x_839 ∧ va_P D vwCl [(A_self, .inr (7, o7 q v w)), (q 55, .inl (c 1, 6, .inl f_840))] H ∧ va_D A [(A_self, .inr (7, o7 q v w)), (q 55, .inl (c 1, 6, .inl f_840))] := ⟨_, rfl, hP, hD⟩
                  have cl_841 : (f_840 0).toInt = x_839.toInt := by rw [ef_840]; rfl
                  have cl_842 : (f_840 1).toInt = (f_827 1).toInt := by rw [ef_840]; rfl
                  have cl_843 : (f_840 2).toInt = (f_827 2).toInt := by rw [ef_840]; rfl
                  have cl_844 : (f_840 3).toInt = (f_827 3).toInt := by rw [ef_840]; rfl
                  have cl_845 : (f_840 4).toInt = (f_827 4).toInt := by rw [ef_840]; rfl
                  have cl_846 : (f_840 5).toInt = (f_827 5).toInt := by rw [ef_840]; rfl
                  obtain ⟨x_847, ex_847⟩ : ∃ y : Int32, y = x_823 + 1 := ⟨_, rfl⟩
                  refine lv_iinc (v := x_847) (lv' := [(2, .int x_847), (5, .int 0), (4, .int r_741), (3, .int 0), (0, .ref A_self), (1, .int a1)]) hx hb dX7_take_110 hl (k := 1) rfl (by rw [ex_847]; rfl) (by decide) rfl (fun ls hl => ?_)
                  refine lv_goto (tgt := 75) hx hb dX7_take_113 (by decide) ?_
                  refine lv_iload hx hb dX7_take_75 (lv_at hl 1 rfl) ?_
                  refine lv_iload_n hx hb dX7_take_77 rfl (lv_at hl 3 rfl) ?_
                  refine iicmp_leT (a := 0) (b := 0) (tgt := 116) hx hb (by decide) (by decide) dX7_take_78 (by decide) (by decide) ?_
                  refine lv_goto (tgt := 43) hx hb dX7_take_116 (by decide) ?_
                  refine lv_aload_n hx hb dX7_take_43 rfl (lv_at hl 4 rfl) ?_
                  refine va_get (D := D) (ci := 7) (v := .ref (q 55)) (C := RX7) (T := TX7) (N := 56) hx hb hts (fun _ h => List.mem_cons_of_mem _ (List.mem_append_right _ h)) hown hK hP 0 rfl rfl 55 (by decide) (hts (.fieldLink RX7 118 "CrownTableModel" "cloth" "[I") (mem_i 2 rfl)) (fun _ h9 => h9) rfl dX7_take_44 ?_
                  refine lv_iload_n hx hb dX7_take_47 rfl (lv_at hl 3 rfl) ?_
                  refine va_iald hx hb hK hP 1 1 rfl rfl (vin (a := 0) (by decide) (by decide) (by decide)) dX7_take_48 ?_
                  refine lv_topi (fun x_848 ex_848 => ?_)
                  have lf_849 : (f_840 0).toInt = x_848.toInt := by rw [ex_848]; rfl
                  refine lv_iload hx hb dX7_take_49 (lv_at hl 2 rfl) ?_
                  refine iicmp_ge (a := x_848.toInt) (b := r_741.toInt) (tgt := 119) hx hb rfl rfl dX7_take_51 (by decide) (fun k_850 => ?_) (fun k_850 => ?_)
                  · skip
                    refine lv_aload_n hx hb dX7_take_119 rfl (lv_at hl 4 rfl) ?_
                    refine va_get (D := D) (ci := 7) (v := .ref (q 55)) (C := RX7) (T := TX7) (N := 56) hx hb hts (fun _ h => List.mem_cons_of_mem _ (List.mem_append_right _ h)) hown hK hP 0 rfl rfl 55 (by decide) (hts (.fieldLink RX7 118 "CrownTableModel" "cloth" "[I") (mem_i 2 rfl)) (fun _ h9 => h9) rfl dX7_take_120 ?_
                    refine lv_iload_n hx hb dX7_take_123 rfl (lv_at hl 3 rfl) ?_
                    refine lv_dup2_11 hx hb dX7_take_124 rfl rfl ?_
                    refine va_iald hx hb hK hP 1 1 rfl rfl (vin (a := 0) (by decide) (by decide) (by decide)) dX7_take_125 ?_
                    refine lv_topi (fun x_851 ex_851 => ?_)
                    have lf_852 : (f_840 0).toInt = x_851.toInt := by rw [ex_851]; rfl
                    refine lv_iload hx hb dX7_take_126 (lv_at hl 2 rfl) ?_
                    refine lv_isub hx hb dX7_take_128 ?_
                    refine lv_topi (fun x_853 ex_853 => ?_)
                    have tx_853 : x_853.toInt = (x_851.toInt - r_741.toInt) := by rw [ex_853]; exact sub_ti (a := x_851.toInt) (b := r_741.toInt) rfl rfl (by omega) (by omega)
                    refine va_iast hx hb hK hP hD hS 1 1 rfl rfl (vin (a := 0) (by decide) (by decide) (by decide)) dX7_take_129 (fun H locs hP hD hS => ?_)
                    obtain ⟨f_854, ef_854, hP, hD⟩ : ∃ f_854 : Nat → Int32, f_854 = upd f_840 (0 : Int32).toNatClampNeg x_853 ∧ va_P D vwCl [(A_self, .inr (7, o7 q v w)), (q 55, .inl (c 1, 6, .inl f_854))] H ∧ va_D A [(A_self, .inr (7, o7 q v w)), (q 55, .inl (c 1, 6, .inl f_854))] := ⟨_, rfl, hP, hD⟩
                    have cl_855 : (f_854 0).toInt = x_853.toInt := by rw [ef_854]; rfl
                    have cl_856 : (f_854 1).toInt = (f_840 1).toInt := by rw [ef_854]; rfl
                    have cl_857 : (f_854 2).toInt = (f_840 2).toInt := by rw [ef_854]; rfl
                    have cl_858 : (f_854 3).toInt = (f_840 3).toInt := by rw [ef_854]; rfl
                    have cl_859 : (f_854 4).toInt = (f_840 4).toInt := by rw [ef_854]; rfl
                    have cl_860 : (f_854 5).toInt = (f_840 5).toInt := by rw [ef_854]; rfl
                    refine lv_iinc (v := 1) (lv' := [(3, .int 1), (2, .int x_847), (5, .int 0), (4, .int r_741), (0, .ref A_self), (1, .int a1)]) hx hb dX7_take_130 hl (k := 3) rfl (by decide) (by decide) rfl (fun ls hl => ?_)
                    refine lv_goto (tgt := 30) hx hb dX7_take_133 (by decide) ?_
                    have hl := lv_sub hl [0, 4, 5, 1] rfl
                    exact lp_30_1 x_847 f_854 (by omega) (by omega) (by omega) (by omega) (by omega) (by omega) (by omega) _ _ _ hP hD hS hl
                  · skip
                    exfalso; omega
                · exfalso; omega
                · exfalso; omega
                · exfalso; omega
              · exfalso; omega
              · exfalso; omega
            · skip
              refine lv_iinc (v := 3) (lv' := [(5, .int 3), (4, .int r_741), (3, .int 0), (0, .ref A_self), (1, .int a1), (2, .int L2)]) hx hb dX7_take_69 hl (k := 0) rfl (by decide) (by decide) rfl (fun ls hl => ?_)
              refine lv_goto (tgt := 59) hx hb dX7_take_72 (by decide) ?_
              refine lv_aload_n hx hb dX7_take_59 rfl (lv_at hl 3 rfl) ?_
              refine va_get (D := D) (ci := 7) (v := .ref (q 55)) (C := RX7) (T := TX7) (N := 56) hx hb hts (fun _ h => List.mem_cons_of_mem _ (List.mem_append_right _ h)) hown hK hP 0 rfl rfl 55 (by decide) (hts (.fieldLink RX7 118 "CrownTableModel" "cloth" "[I") (mem_i 2 rfl)) (fun _ h9 => h9) rfl dX7_take_60 ?_
              refine lv_iload hx hb dX7_take_63 (lv_at hl 0 rfl) ?_
              refine va_iald hx hb hK hP 1 1 rfl rfl (vin (a := 3) (by decide) (by decide) (by decide)) dX7_take_65 ?_
              refine lv_topi (fun x_861 ex_861 => ?_)
              have lf_862 : (M_cloth 3).toInt = x_861.toInt := by rw [ex_861]; rfl
              refine iif_ne (a := x_861.toInt) (tgt := 75) hx hb rfl dX7_take_66 (by decide) (fun k_863 => ?_) (fun k_863 => ?_)
              · skip
                refine lv_iload hx hb dX7_take_75 (lv_at hl 0 rfl) ?_
                refine lv_iload_n hx hb dX7_take_77 rfl (lv_at hl 2 rfl) ?_
                refine iicmp_leF (a := 3) (b := 0) (tgt := 116) hx hb (by decide) (by decide) dX7_take_78 (by decide) (by decide) ?_
                refine lv_aload_n hx hb dX7_take_81 rfl (lv_at hl 3 rfl) ?_
                refine va_get (D := D) (ci := 7) (v := .ref (q 55)) (C := RX7) (T := TX7) (N := 56) hx hb hts (fun _ h => List.mem_cons_of_mem _ (List.mem_append_right _ h)) hown hK hP 0 rfl rfl 55 (by decide) (hts (.fieldLink RX7 118 "CrownTableModel" "cloth" "[I") (mem_i 2 rfl)) (fun _ h9 => h9) rfl dX7_take_82 ?_
                refine lv_iload hx hb dX7_take_85 (lv_at hl 0 rfl) ?_
                refine lv_dup2_11 hx hb dX7_take_87 rfl rfl ?_
                refine va_iald hx hb hK hP 1 1 rfl rfl (vin (a := 3) (by decide) (by decide) (by decide)) dX7_take_88 ?_
                refine lv_topi (fun x_864 ex_864 => ?_)
                have lf_865 : (M_cloth 3).toInt = x_864.toInt := by rw [ex_864]; rfl
                refine lv_iconst (v := 1) hx hb dX7_take_89 (by decide) ?_
                refine lv_isub hx hb dX7_take_90 ?_
                refine lv_topi (fun x_866 ex_866 => ?_)
                have tx_866 : x_866.toInt = (x_864.toInt - 1) := by rw [ex_866]; exact sub_ti (a := x_864.toInt) (b := 1) rfl (by decide) (by omega) (by omega)
                refine va_iast hx hb hK hP hD hS 1 1 rfl rfl (vin (a := 3) (by decide) (by decide) (by decide)) dX7_take_91 (fun H locs hP hD hS => ?_)
                obtain ⟨f_867, ef_867, hP, hD⟩ : ∃ f_867 : Nat → Int32, f_867 = upd M_cloth (3 : Int32).toNatClampNeg x_866 ∧ va_P D vwCl [(A_self, .inr (7, o7 q v w)), (q 55, .inl (c 1, 6, .inl f_867))] H ∧ va_D A [(A_self, .inr (7, o7 q v w)), (q 55, .inl (c 1, 6, .inl f_867))] := ⟨_, rfl, hP, hD⟩
                have cl_868 : (f_867 0).toInt = (M_cloth 0).toInt := by rw [ef_867]; rfl
                have cl_869 : (f_867 1).toInt = (M_cloth 1).toInt := by rw [ef_867]; rfl
                have cl_870 : (f_867 2).toInt = (M_cloth 2).toInt := by rw [ef_867]; rfl
                have cl_871 : (f_867 3).toInt = x_866.toInt := by rw [ef_867]; rfl
                have cl_872 : (f_867 4).toInt = (M_cloth 4).toInt := by rw [ef_867]; rfl
                have cl_873 : (f_867 5).toInt = (M_cloth 5).toInt := by rw [ef_867]; rfl
                refine lv_iinc (v := 2) (lv' := [(5, .int 2), (4, .int r_741), (3, .int 0), (0, .ref A_self), (1, .int a1), (2, .int L2)]) hx hb dX7_take_92 hl (k := 0) rfl (by decide) (by decide) rfl (fun ls hl => ?_)
                refine lv_aload_n hx hb dX7_take_95 rfl (lv_at hl 3 rfl) ?_
                refine va_get (D := D) (ci := 7) (v := .ref (q 55)) (C := RX7) (T := TX7) (N := 56) hx hb hts (fun _ h => List.mem_cons_of_mem _ (List.mem_append_right _ h)) hown hK hP 0 rfl rfl 55 (by decide) (hts (.fieldLink RX7 118 "CrownTableModel" "cloth" "[I") (mem_i 2 rfl)) (fun _ h9 => h9) rfl dX7_take_96 ?_
                refine lv_iload hx hb dX7_take_99 (lv_at hl 0 rfl) ?_
                refine lv_dup2_11 hx hb dX7_take_101 rfl rfl ?_
                refine va_iald hx hb hK hP 1 1 rfl rfl (vin (a := 2) (by decide) (by decide) (by decide)) dX7_take_102 ?_
                refine lv_topi (fun x_874 ex_874 => ?_)
                have lf_875 : (f_867 2).toInt = x_874.toInt := by rw [ex_874]; rfl
                refine lv_iload hx hb dX7_take_103 (lv_at hl 0 rfl) ?_
                have hPc := hP.sub (ws' := []) [] rfl
                have hDc := hD.sub (ws' := []) [] (by decide) rfl
                have hFc := va_free (wc := []) hD hS hA [] rfl
                have kzz_876 : (2 : Int32).toInt = 2 := by decide
                refine va_csi (va_runS (As := [.int 2]) (rest := [.int x_874, .int 2, .ref (q 55)]) ⟨hx, hb, hml, hown, hts⟩ (k_X7_next l D c ts H.size 2 2 (by decide) (by omega)) (cwS 1 hts gX7_take_X7_next rfl rfl rfl ⟨rfl, hdX7_next⟩ ⟨(show 1 + 1 ≤ 2 by decide), (show 8 + (1 + 11) + 20 ≤ 43 by decide)⟩) ⟨Pre0.blind, Pre0.at hPc hDc hAm hSt hS hFc⟩ rfl rfl hl.1 rfl (lv_room (Nat.le_of_ble_eq_true rfl)) dX7_take_105 ⟨(show 0 + 0 ≤ 0 by decide), (show 0 + 0 ≤ 0 by decide)⟩) (fun r_878 hw_877 => ?_)
                rcases hw_877 with ⟨hw_877, rfl⟩ | ⟨hw_877, rfl⟩ | ⟨hw_877, rfl⟩ | ⟨hw_877, rfl⟩
                · exfalso; omega
                · skip
                  refine lv_iadd hx hb dX7_take_108 ?_
                  refine lv_topi (fun x_879 ex_879 => ?_)
                  have tx_879 : x_879.toInt = (x_874.toInt + 20) := by rw [ex_879]; exact add_ti (a := x_874.toInt) (b := 20) rfl (by decide) (by omega) (by omega)
                  refine va_iast hx hb hK hP hD hS 1 1 rfl rfl (vin (a := 2) (by decide) (by decide) (by decide)) dX7_take_109 (fun H locs hP hD hS => ?_)
                  obtain ⟨f_880, ef_880, hP, hD⟩ : ∃ f_880 : Nat → Int32, f_880 = upd f_867 (2 : Int32).toNatClampNeg x_879 ∧ va_P D vwCl [(A_self, .inr (7, o7 q v w)), (q 55, .inl (c 1, 6, .inl f_880))] H ∧ va_D A [(A_self, .inr (7, o7 q v w)), (q 55, .inl (c 1, 6, .inl f_880))] := ⟨_, rfl, hP, hD⟩
                  have cl_881 : (f_880 0).toInt = (f_867 0).toInt := by rw [ef_880]; rfl
                  have cl_882 : (f_880 1).toInt = (f_867 1).toInt := by rw [ef_880]; rfl
                  have cl_883 : (f_880 2).toInt = x_879.toInt := by rw [ef_880]; rfl
                  have cl_884 : (f_880 3).toInt = (f_867 3).toInt := by rw [ef_880]; rfl
                  have cl_885 : (f_880 4).toInt = (f_867 4).toInt := by rw [ef_880]; rfl
                  have cl_886 : (f_880 5).toInt = (f_867 5).toInt := by rw [ef_880]; rfl
                  obtain ⟨x_887, ex_887⟩ : ∃ y : Int32, y = L2 + 1 := ⟨_, rfl⟩
                  refine lv_iinc (v := x_887) (lv' := [(2, .int x_887), (5, .int 2), (4, .int r_741), (3, .int 0), (0, .ref A_self), (1, .int a1)]) hx hb dX7_take_110 hl (k := 5) rfl (by rw [ex_887]; rfl) (by decide) rfl (fun ls hl => ?_)
                  refine lv_goto (tgt := 75) hx hb dX7_take_113 (by decide) ?_
                  refine lv_iload hx hb dX7_take_75 (lv_at hl 1 rfl) ?_
                  refine lv_iload_n hx hb dX7_take_77 rfl (lv_at hl 3 rfl) ?_
                  refine iicmp_leF (a := 2) (b := 0) (tgt := 116) hx hb (by decide) (by decide) dX7_take_78 (by decide) (by decide) ?_
                  refine lv_aload_n hx hb dX7_take_81 rfl (lv_at hl 4 rfl) ?_
                  refine va_get (D := D) (ci := 7) (v := .ref (q 55)) (C := RX7) (T := TX7) (N := 56) hx hb hts (fun _ h => List.mem_cons_of_mem _ (List.mem_append_right _ h)) hown hK hP 0 rfl rfl 55 (by decide) (hts (.fieldLink RX7 118 "CrownTableModel" "cloth" "[I") (mem_i 2 rfl)) (fun _ h9 => h9) rfl dX7_take_82 ?_
                  refine lv_iload hx hb dX7_take_85 (lv_at hl 1 rfl) ?_
                  refine lv_dup2_11 hx hb dX7_take_87 rfl rfl ?_
                  refine va_iald hx hb hK hP 1 1 rfl rfl (vin (a := 2) (by decide) (by decide) (by decide)) dX7_take_88 ?_
                  refine lv_topi (fun x_888 ex_888 => ?_)
                  have lf_889 : (f_880 2).toInt = x_888.toInt := by rw [ex_888]; rfl
                  refine lv_iconst (v := 1) hx hb dX7_take_89 (by decide) ?_
                  refine lv_isub hx hb dX7_take_90 ?_
                  refine lv_topi (fun x_890 ex_890 => ?_)
                  have tx_890 : x_890.toInt = (x_888.toInt - 1) := by rw [ex_890]; exact sub_ti (a := x_888.toInt) (b := 1) rfl (by decide) (by omega) (by omega)
                  refine va_iast hx hb hK hP hD hS 1 1 rfl rfl (vin (a := 2) (by decide) (by decide) (by decide)) dX7_take_91 (fun H locs hP hD hS => ?_)
                  obtain ⟨f_891, ef_891, hP, hD⟩ : ∃ f_891 : Nat → Int32, f_891 = upd f_880 (2 : Int32).toNatClampNeg x_890 ∧ va_P D vwCl [(A_self, .inr (7, o7 q v w)), (q 55, .inl (c 1, 6, .inl f_891))] H ∧ va_D A [(A_self, .inr (7, o7 q v w)), (q 55, .inl (c 1, 6, .inl f_891))] := ⟨_, rfl, hP, hD⟩
                  have cl_892 : (f_891 0).toInt = (f_880 0).toInt := by rw [ef_891]; rfl
                  have cl_893 : (f_891 1).toInt = (f_880 1).toInt := by rw [ef_891]; rfl
                  have cl_894 : (f_891 2).toInt = x_890.toInt := by rw [ef_891]; rfl
                  have cl_895 : (f_891 3).toInt = (f_880 3).toInt := by rw [ef_891]; rfl
                  have cl_896 : (f_891 4).toInt = (f_880 4).toInt := by rw [ef_891]; rfl
                  have cl_897 : (f_891 5).toInt = (f_880 5).toInt := by rw [ef_891]; rfl
                  refine lv_iinc (v := 1) (lv' := [(5, .int 1), (2, .int x_887), (4, .int r_741), (3, .int 0), (0, .ref A_self), (1, .int a1)]) hx hb dX7_take_92 hl (k := 1) rfl (by decide) (by decide) rfl (fun ls hl => ?_)
                  refine lv_aload_n hx hb dX7_take_95 rfl (lv_at hl 4 rfl) ?_
                  refine va_get (D := D) (ci := 7) (v := .ref (q 55)) (C := RX7) (T := TX7) (N := 56) hx hb hts (fun _ h => List.mem_cons_of_mem _ (List.mem_append_right _ h)) hown hK hP 0 rfl rfl 55 (by decide) (hts (.fieldLink RX7 118 "CrownTableModel" "cloth" "[I") (mem_i 2 rfl)) (fun _ h9 => h9) rfl dX7_take_96 ?_
                  refine lv_iload hx hb dX7_take_99 (lv_at hl 0 rfl) ?_
                  refine lv_dup2_11 hx hb dX7_take_101 rfl rfl ?_
                  refine va_iald hx hb hK hP 1 1 rfl rfl (vin (a := 1) (by decide) (by decide) (by decide)) dX7_take_102 ?_
                  refine lv_topi (fun x_898 ex_898 => ?_)
                  have lf_899 : (f_891 1).toInt = x_898.toInt := by rw [ex_898]; rfl
                  refine lv_iload hx hb dX7_take_103 (lv_at hl 0 rfl) ?_
                  have hPc := hP.sub (ws' := []) [] rfl
                  have hDc := hD.sub (ws' := []) [] (by decide) rfl
                  have hFc := va_free (wc := []) hD hS hA [] rfl
                  have kzz_900 : (1 : Int32).toInt = 1 := by decide
                  refine va_csi (va_runS (As := [.int 1]) (rest := [.int x_898, .int 1, .ref (q 55)]) ⟨hx, hb, hml, hown, hts⟩ (k_X7_next l D c ts H.size 1 1 (by decide) (by omega)) (cwS 1 hts gX7_take_X7_next rfl rfl rfl ⟨rfl, hdX7_next⟩ ⟨(show 1 + 1 ≤ 2 by decide), (show 8 + (1 + 11) + 20 ≤ 43 by decide)⟩) ⟨Pre0.blind, Pre0.at hPc hDc hAm hSt hS hFc⟩ rfl rfl hl.1 rfl (lv_room (Nat.le_of_ble_eq_true rfl)) dX7_take_105 ⟨(show 0 + 0 ≤ 0 by decide), (show 0 + 0 ≤ 0 by decide)⟩) (fun r_902 hw_901 => ?_)
                  rcases hw_901 with ⟨hw_901, rfl⟩ | ⟨hw_901, rfl⟩ | ⟨hw_901, rfl⟩ | ⟨hw_901, rfl⟩
                  · exfalso; omega
                  · skip
                    refine lv_iadd hx hb dX7_take_108 ?_
                    refine lv_topi (fun x_903 ex_903 => ?_)
                    have tx_903 : x_903.toInt = (x_898.toInt + 20) := by rw [ex_903]; exact add_ti (a := x_898.toInt) (b := 20) rfl (by decide) (by omega) (by omega)
                    refine va_iast hx hb hK hP hD hS 1 1 rfl rfl (vin (a := 1) (by decide) (by decide) (by decide)) dX7_take_109 (fun H locs hP hD hS => ?_)
                    obtain ⟨f_904, ef_904, hP, hD⟩ : ∃ f_904 : Nat → Int32, f_904 = upd f_891 (1 : Int32).toNatClampNeg x_903 ∧ va_P D vwCl [(A_self, .inr (7, o7 q v w)), (q 55, .inl (c 1, 6, .inl f_904))] H ∧ va_D A [(A_self, .inr (7, o7 q v w)), (q 55, .inl (c 1, 6, .inl f_904))] := ⟨_, rfl, hP, hD⟩
                    have cl_905 : (f_904 0).toInt = (f_891 0).toInt := by rw [ef_904]; rfl
                    have cl_906 : (f_904 1).toInt = x_903.toInt := by rw [ef_904]; rfl
                    have cl_907 : (f_904 2).toInt = (f_891 2).toInt := by rw [ef_904]; rfl
                    have cl_908 : (f_904 3).toInt = (f_891 3).toInt := by rw [ef_904]; rfl
                    have cl_909 : (f_904 4).toInt = (f_891 4).toInt := by rw [ef_904]; rfl
                    have cl_910 : (f_904 5).toInt = (f_891 5).toInt := by rw [ef_904]; rfl
                    obtain ⟨x_911, ex_911⟩ : ∃ y : Int32, y = x_887 + 1 := ⟨_, rfl⟩
                    refine lv_iinc (v := x_911) (lv' := [(2, .int x_911), (5, .int 1), (4, .int r_741), (3, .int 0), (0, .ref A_self), (1, .int a1)]) hx hb dX7_take_110 hl (k := 1) rfl (by rw [ex_911]; rfl) (by decide) rfl (fun ls hl => ?_)
                    refine lv_goto (tgt := 75) hx hb dX7_take_113 (by decide) ?_
                    refine lv_iload hx hb dX7_take_75 (lv_at hl 1 rfl) ?_
                    refine lv_iload_n hx hb dX7_take_77 rfl (lv_at hl 3 rfl) ?_
                    refine iicmp_leF (a := 1) (b := 0) (tgt := 116) hx hb (by decide) (by decide) dX7_take_78 (by decide) (by decide) ?_
                    refine lv_aload_n hx hb dX7_take_81 rfl (lv_at hl 4 rfl) ?_
                    refine va_get (D := D) (ci := 7) (v := .ref (q 55)) (C := RX7) (T := TX7) (N := 56) hx hb hts (fun _ h => List.mem_cons_of_mem _ (List.mem_append_right _ h)) hown hK hP 0 rfl rfl 55 (by decide) (hts (.fieldLink RX7 118 "CrownTableModel" "cloth" "[I") (mem_i 2 rfl)) (fun _ h9 => h9) rfl dX7_take_82 ?_
                    refine lv_iload hx hb dX7_take_85 (lv_at hl 1 rfl) ?_
                    refine lv_dup2_11 hx hb dX7_take_87 rfl rfl ?_
                    refine va_iald hx hb hK hP 1 1 rfl rfl (vin (a := 1) (by decide) (by decide) (by decide)) dX7_take_88 ?_
                    refine lv_topi (fun x_912 ex_912 => ?_)
                    have lf_913 : (f_904 1).toInt = x_912.toInt := by rw [ex_912]; rfl
                    refine lv_iconst (v := 1) hx hb dX7_take_89 (by decide) ?_
                    refine lv_isub hx hb dX7_take_90 ?_
                    refine lv_topi (fun x_914 ex_914 => ?_)
                    have tx_914 : x_914.toInt = (x_912.toInt - 1) := by rw [ex_914]; exact sub_ti (a := x_912.toInt) (b := 1) rfl (by decide) (by omega) (by omega)
                    refine va_iast hx hb hK hP hD hS 1 1 rfl rfl (vin (a := 1) (by decide) (by decide) (by decide)) dX7_take_91 (fun H locs hP hD hS => ?_)
                    obtain ⟨f_915, ef_915, hP, hD⟩ : ∃ f_915 : Nat → Int32, f_915 = upd f_904 (1 : Int32).toNatClampNeg x_914 ∧ va_P D vwCl [(A_self, .inr (7, o7 q v w)), (q 55, .inl (c 1, 6, .inl f_915))] H ∧ va_D A [(A_self, .inr (7, o7 q v w)), (q 55, .inl (c 1, 6, .inl f_915))] := ⟨_, rfl, hP, hD⟩
                    have cl_916 : (f_915 0).toInt = (f_904 0).toInt := by rw [ef_915]; rfl
                    have cl_917 : (f_915 1).toInt = x_914.toInt := by rw [ef_915]; rfl
                    have cl_918 : (f_915 2).toInt = (f_904 2).toInt := by rw [ef_915]; rfl
                    have cl_919 : (f_915 3).toInt = (f_904 3).toInt := by rw [ef_915]; rfl
                    have cl_920 : (f_915 4).toInt = (f_904 4).toInt := by rw [ef_915]; rfl
                    have cl_921 : (f_915 5).toInt = (f_904 5).toInt := by rw [ef_915]; rfl
                    refine lv_iinc (v := 0) (lv' := [(5, .int 0), (2, .int x_911), (4, .int r_741), (3, .int 0), (0, .ref A_self), (1, .int a1)]) hx hb dX7_take_92 hl (k := 1) rfl (by decide) (by decide) rfl (fun ls hl => ?_)
                    refine lv_aload_n hx hb dX7_take_95 rfl (lv_at hl 4 rfl) ?_
                    refine va_get (D := D) (ci := 7) (v := .ref (q 55)) (C := RX7) (T := TX7) (N := 56) hx hb hts (fun _ h => List.mem_cons_of_mem _ (List.mem_append_right _ h)) hown hK hP 0 rfl rfl 55 (by decide) (hts (.fieldLink RX7 118 "CrownTableModel" "cloth" "[I") (mem_i 2 rfl)) (fun _ h9 => h9) rfl dX7_take_96 ?_
                    refine lv_iload hx hb dX7_take_99 (lv_at hl 0 rfl) ?_
                    refine lv_dup2_11 hx hb dX7_take_101 rfl rfl ?_
                    refine va_iald hx hb hK hP 1 1 rfl rfl (vin (a := 0) (by decide) (by decide) (by decide)) dX7_take_102 ?_
                    refine lv_topi (fun x_922 ex_922 => ?_)
                    have lf_923 : (f_915 0).toInt = x_922.toInt := by rw [ex_922]; rfl
                    refine lv_iload hx hb dX7_take_103 (lv_at hl 0 rfl) ?_
                    have hPc := hP.sub (ws' := []) [] rfl
                    have hDc := hD.sub (ws' := []) [] (by decide) rfl
                    have hFc := va_free (wc := []) hD hS hA [] rfl
                    have kzz_924 : (0 : Int32).toInt = 0 := by decide
                    refine va_csi (va_runS (As := [.int 0]) (rest := [.int x_922, .int 0, .ref (q 55)]) ⟨hx, hb, hml, hown, hts⟩ (k_X7_next l D c ts H.size 0 0 (by decide) (by omega)) (cwS 1 hts gX7_take_X7_next rfl rfl rfl ⟨rfl, hdX7_next⟩ ⟨(show 1 + 1 ≤ 2 by decide), (show 8 + (1 + 11) + 20 ≤ 43 by decide)⟩) ⟨Pre0.blind, Pre0.at hPc hDc hAm hSt hS hFc⟩ rfl rfl hl.1 rfl (lv_room (Nat.le_of_ble_eq_true rfl)) dX7_take_105 ⟨(show 0 + 0 ≤ 0 by decide), (show 0 + 0 ≤ 0 by decide)⟩) (fun r_926 hw_925 => ?_)
                    rcases hw_925 with ⟨hw_925, rfl⟩ | ⟨hw_925, rfl⟩ | ⟨hw_925, rfl⟩ | ⟨hw_925, rfl⟩
                    · skip
                      refine lv_iadd hx hb dX7_take_108 ?_
                      refine lv_topi (fun x_927 ex_927 => ?_)
                      have tx_927 : x_927.toInt = (x_922.toInt + 12) := by rw [ex_927]; exact add_ti (a := x_922.toInt) (b := 12) rfl (by decide) (by omega) (by omega)
                      refine va_iast hx hb hK hP hD hS 1 1 rfl rfl (vin (a := 0) (by decide) (by decide) (by decide)) dX7_take_109 (fun H locs hP hD hS => ?_)
                      obtain ⟨f_928, ef_928, hP, hD⟩ : ∃ f_928 : Nat → Int32, f_928 = upd f_915 (0 : Int32).toNatClampNeg x_927 ∧ va_P D vwCl [(A_self, .inr (7, o7 q v w)), (q 55, .inl (c 1, 6, .inl f_928))] H ∧ va_D A [(A_self, .inr (7, o7 q v w)), (q 55, .inl (c 1, 6, .inl f_928))] := ⟨_, rfl, hP, hD⟩
                      have cl_929 : (f_928 0).toInt = x_927.toInt := by rw [ef_928]; rfl
                      have cl_930 : (f_928 1).toInt = (f_915 1).toInt := by rw [ef_928]; rfl
                      have cl_931 : (f_928 2).toInt = (f_915 2).toInt := by rw [ef_928]; rfl
                      have cl_932 : (f_928 3).toInt = (f_915 3).toInt := by rw [ef_928]; rfl
                      have cl_933 : (f_928 4).toInt = (f_915 4).toInt := by rw [ef_928]; rfl
                      have cl_934 : (f_928 5).toInt = (f_915 5).toInt := by rw [ef_928]; rfl
                      obtain ⟨x_935, ex_935⟩ : ∃ y : Int32, y = x_911 + 1 := ⟨_, rfl⟩
                      refine lv_iinc (v := x_935) (lv' := [(2, .int x_935), (5, .int 0), (4, .int r_741), (3, .int 0), (0, .ref A_self), (1, .int a1)]) hx hb dX7_take_110 hl (k := 1) rfl (by rw [ex_935]; rfl) (by decide) rfl (fun ls hl => ?_)
                      refine lv_goto (tgt := 75) hx hb dX7_take_113 (by decide) ?_
                      refine lv_iload hx hb dX7_take_75 (lv_at hl 1 rfl) ?_
                      refine lv_iload_n hx hb dX7_take_77 rfl (lv_at hl 3 rfl) ?_
                      refine iicmp_leT (a := 0) (b := 0) (tgt := 116) hx hb (by decide) (by decide) dX7_take_78 (by decide) (by decide) ?_
                      refine lv_goto (tgt := 43) hx hb dX7_take_116 (by decide) ?_
                      refine lv_aload_n hx hb dX7_take_43 rfl (lv_at hl 4 rfl) ?_
                      refine va_get (D := D) (ci := 7) (v := .ref (q 55)) (C := RX7) (T := TX7) (N := 56) hx hb hts (fun _ h => List.mem_cons_of_mem _ (List.mem_append_right _ h)) hown hK hP 0 rfl rfl 55 (by decide) (hts (.fieldLink RX7 118 "CrownTableModel" "cloth" "[I") (mem_i 2 rfl)) (fun _ h9 => h9) rfl dX7_take_44 ?_
                      refine lv_iload_n hx hb dX7_take_47 rfl (lv_at hl 3 rfl) ?_
                      refine va_iald hx hb hK hP 1 1 rfl rfl (vin (a := 0) (by decide) (by decide) (by decide)) dX7_take_48 ?_
                      refine lv_topi (fun x_936 ex_936 => ?_)
                      have lf_937 : (f_928 0).toInt = x_936.toInt := by rw [ex_936]; rfl
                      refine lv_iload hx hb dX7_take_49 (lv_at hl 2 rfl) ?_
                      refine iicmp_ge (a := x_936.toInt) (b := r_741.toInt) (tgt := 119) hx hb rfl rfl dX7_take_51 (by decide) (fun k_938 => ?_) (fun k_938 => ?_)
                      · skip
                        refine lv_aload_n hx hb dX7_take_119 rfl (lv_at hl 4 rfl) ?_
                        refine va_get (D := D) (ci := 7) (v := .ref (q 55)) (C := RX7) (T := TX7) (N := 56) hx hb hts (fun _ h => List.mem_cons_of_mem _ (List.mem_append_right _ h)) hown hK hP 0 rfl rfl 55 (by decide) (hts (.fieldLink RX7 118 "CrownTableModel" "cloth" "[I") (mem_i 2 rfl)) (fun _ h9 => h9) rfl dX7_take_120 ?_
                        refine lv_iload_n hx hb dX7_take_123 rfl (lv_at hl 3 rfl) ?_
                        refine lv_dup2_11 hx hb dX7_take_124 rfl rfl ?_
                        refine va_iald hx hb hK hP 1 1 rfl rfl (vin (a := 0) (by decide) (by decide) (by decide)) dX7_take_125 ?_
                        refine lv_topi (fun x_939 ex_939 => ?_)
                        have lf_940 : (f_928 0).toInt = x_939.toInt := by rw [ex_939]; rfl
                        refine lv_iload hx hb dX7_take_126 (lv_at hl 2 rfl) ?_
                        refine lv_isub hx hb dX7_take_128 ?_
                        refine lv_topi (fun x_941 ex_941 => ?_)
                        have tx_941 : x_941.toInt = (x_939.toInt - r_741.toInt) := by rw [ex_941]; exact sub_ti (a := x_939.toInt) (b := r_741.toInt) rfl rfl (by omega) (by omega)
                        refine va_iast hx hb hK hP hD hS 1 1 rfl rfl (vin (a := 0) (by decide) (by decide) (by decide)) dX7_take_129 (fun H locs hP hD hS => ?_)
                        obtain ⟨f_942, ef_942, hP, hD⟩ : ∃ f_942 : Nat → Int32, f_942 = upd f_928 (0 : Int32).toNatClampNeg x_941 ∧ va_P D vwCl [(A_self, .inr (7, o7 q v w)), (q 55, .inl (c 1, 6, .inl f_942))] H ∧ va_D A [(A_self, .inr (7, o7 q v w)), (q 55, .inl (c 1, 6, .inl f_942))] := ⟨_, rfl, hP, hD⟩
                        have cl_943 : (f_942 0).toInt = x_941.toInt := by rw [ef_942]; rfl
                        have cl_944 : (f_942 1).toInt = (f_928 1).toInt := by rw [ef_942]; rfl
                        have cl_945 : (f_942 2).toInt = (f_928 2).toInt := by rw [ef_942]; rfl
                        have cl_946 : (f_942 3).toInt = (f_928 3).toInt := by rw [ef_942]; rfl
                        have cl_947 : (f_942 4).toInt = (f_928 4).toInt := by rw [ef_942]; rfl
                        have cl_948 : (f_942 5).toInt = (f_928 5).toInt := by rw [ef_942]; rfl
                        refine lv_iinc (v := 1) (lv' := [(3, .int 1), (2, .int x_935), (5, .int 0), (4, .int r_741), (0, .ref A_self), (1, .int a1)]) hx hb dX7_take_130 hl (k := 3) rfl (by decide) (by decide) rfl (fun ls hl => ?_)
                        refine lv_goto (tgt := 30) hx hb dX7_take_133 (by decide) ?_
                        have hl := lv_sub hl [0, 4, 5, 1] rfl
                        exact lp_30_1 x_935 f_942 (by omega) (by omega) (by omega) (by omega) (by omega) (by omega) (by omega) _ _ _ hP hD hS hl
                      · skip
                        exfalso; omega
                    · exfalso; omega
                    · exfalso; omega
                    · exfalso; omega
                  · exfalso; omega
                  · exfalso; omega
                · exfalso; omega
                · exfalso; omega
              · skip
                refine lv_iinc (v := 4) (lv' := [(5, .int 4), (4, .int r_741), (3, .int 0), (0, .ref A_self), (1, .int a1), (2, .int L2)]) hx hb dX7_take_69 hl (k := 0) rfl (by decide) (by decide) rfl (fun ls hl => ?_)
                refine lv_goto (tgt := 59) hx hb dX7_take_72 (by decide) ?_
                refine lv_aload_n hx hb dX7_take_59 rfl (lv_at hl 3 rfl) ?_
                refine va_get (D := D) (ci := 7) (v := .ref (q 55)) (C := RX7) (T := TX7) (N := 56) hx hb hts (fun _ h => List.mem_cons_of_mem _ (List.mem_append_right _ h)) hown hK hP 0 rfl rfl 55 (by decide) (hts (.fieldLink RX7 118 "CrownTableModel" "cloth" "[I") (mem_i 2 rfl)) (fun _ h9 => h9) rfl dX7_take_60 ?_
                refine lv_iload hx hb dX7_take_63 (lv_at hl 0 rfl) ?_
                refine va_iald hx hb hK hP 1 1 rfl rfl (vin (a := 4) (by decide) (by decide) (by decide)) dX7_take_65 ?_
                refine lv_topi (fun x_949 ex_949 => ?_)
                have lf_950 : (M_cloth 4).toInt = x_949.toInt := by rw [ex_949]; rfl
                refine iif_ne (a := x_949.toInt) (tgt := 75) hx hb rfl dX7_take_66 (by decide) (fun k_951 => ?_) (fun k_951 => ?_)
                · skip
                  refine lv_iload hx hb dX7_take_75 (lv_at hl 0 rfl) ?_
                  refine lv_iload_n hx hb dX7_take_77 rfl (lv_at hl 2 rfl) ?_
                  refine iicmp_leF (a := 4) (b := 0) (tgt := 116) hx hb (by decide) (by decide) dX7_take_78 (by decide) (by decide) ?_
                  refine lv_aload_n hx hb dX7_take_81 rfl (lv_at hl 3 rfl) ?_
                  refine va_get (D := D) (ci := 7) (v := .ref (q 55)) (C := RX7) (T := TX7) (N := 56) hx hb hts (fun _ h => List.mem_cons_of_mem _ (List.mem_append_right _ h)) hown hK hP 0 rfl rfl 55 (by decide) (hts (.fieldLink RX7 118 "CrownTableModel" "cloth" "[I") (mem_i 2 rfl)) (fun _ h9 => h9) rfl dX7_take_82 ?_
                  refine lv_iload hx hb dX7_take_85 (lv_at hl 0 rfl) ?_
                  refine lv_dup2_11 hx hb dX7_take_87 rfl rfl ?_
                  refine va_iald hx hb hK hP 1 1 rfl rfl (vin (a := 4) (by decide) (by decide) (by decide)) dX7_take_88 ?_
                  refine lv_topi (fun x_952 ex_952 => ?_)
                  have lf_953 : (M_cloth 4).toInt = x_952.toInt := by rw [ex_952]; rfl
                  refine lv_iconst (v := 1) hx hb dX7_take_89 (by decide) ?_
                  refine lv_isub hx hb dX7_take_90 ?_
                  refine lv_topi (fun x_954 ex_954 => ?_)
                  have tx_954 : x_954.toInt = (x_952.toInt - 1) := by rw [ex_954]; exact sub_ti (a := x_952.toInt) (b := 1) rfl (by decide) (by omega) (by omega)
                  refine va_iast hx hb hK hP hD hS 1 1 rfl rfl (vin (a := 4) (by decide) (by decide) (by decide)) dX7_take_91 (fun H locs hP hD hS => ?_)
                  obtain ⟨f_955, ef_955, hP, hD⟩ : ∃ f_955 : Nat → Int32, f_955 = upd M_cloth (4 : Int32).toNatClampNeg x_954 ∧ va_P D vwCl [(A_self, .inr (7, o7 q v w)), (q 55, .inl (c 1, 6, .inl f_955))] H ∧ va_D A [(A_self, .inr (7, o7 q v w)), (q 55, .inl (c 1, 6, .inl f_955))] := ⟨_, rfl, hP, hD⟩
                  have cl_956 : (f_955 0).toInt = (M_cloth 0).toInt := by rw [ef_955]; rfl
                  have cl_957 : (f_955 1).toInt = (M_cloth 1).toInt := by rw [ef_955]; rfl
                  have cl_958 : (f_955 2).toInt = (M_cloth 2).toInt := by rw [ef_955]; rfl
                  have cl_959 : (f_955 3).toInt = (M_cloth 3).toInt := by rw [ef_955]; rfl
                  have cl_960 : (f_955 4).toInt = x_954.toInt := by rw [ef_955]; rfl
                  have cl_961 : (f_955 5).toInt = (M_cloth 5).toInt := by rw [ef_955]; rfl
                  refine lv_iinc (v := 3) (lv' := [(5, .int 3), (4, .int r_741), (3, .int 0), (0, .ref A_self), (1, .int a1), (2, .int L2)]) hx hb dX7_take_92 hl (k := 0) rfl (by decide) (by decide) rfl (fun ls hl => ?_)
                  refine lv_aload_n hx hb dX7_take_95 rfl (lv_at hl 3 rfl) ?_
                  refine va_get (D := D) (ci := 7) (v := .ref (q 55)) (C := RX7) (T := TX7) (N := 56) hx hb hts (fun _ h => List.mem_cons_of_mem _ (List.mem_append_right _ h)) hown hK hP 0 rfl rfl 55 (by decide) (hts (.fieldLink RX7 118 "CrownTableModel" "cloth" "[I") (mem_i 2 rfl)) (fun _ h9 => h9) rfl dX7_take_96 ?_
                  refine lv_iload hx hb dX7_take_99 (lv_at hl 0 rfl) ?_
                  refine lv_dup2_11 hx hb dX7_take_101 rfl rfl ?_
                  refine va_iald hx hb hK hP 1 1 rfl rfl (vin (a := 3) (by decide) (by decide) (by decide)) dX7_take_102 ?_
                  refine lv_topi (fun x_962 ex_962 => ?_)
                  have lf_963 : (f_955 3).toInt = x_962.toInt := by rw [ex_962]; rfl
                  refine lv_iload hx hb dX7_take_103 (lv_at hl 0 rfl) ?_
                  have hPc := hP.sub (ws' := []) [] rfl
                  have hDc := hD.sub (ws' := []) [] (by decide) rfl
                  have hFc := va_free (wc := []) hD hS hA [] rfl
                  have kzz_964 : (3 : Int32).toInt = 3 := by decide
                  refine va_csi (va_runS (As := [.int 3]) (rest := [.int x_962, .int 3, .ref (q 55)]) ⟨hx, hb, hml, hown, hts⟩ (k_X7_next l D c ts H.size 3 3 (by decide) (by omega)) (cwS 1 hts gX7_take_X7_next rfl rfl rfl ⟨rfl, hdX7_next⟩ ⟨(show 1 + 1 ≤ 2 by decide), (show 8 + (1 + 11) + 20 ≤ 43 by decide)⟩) ⟨Pre0.blind, Pre0.at hPc hDc hAm hSt hS hFc⟩ rfl rfl hl.1 rfl (lv_room (Nat.le_of_ble_eq_true rfl)) dX7_take_105 ⟨(show 0 + 0 ≤ 0 by decide), (show 0 + 0 ≤ 0 by decide)⟩) (fun r_966 hw_965 => ?_)
                  rcases hw_965 with ⟨hw_965, rfl⟩ | ⟨hw_965, rfl⟩ | ⟨hw_965, rfl⟩ | ⟨hw_965, rfl⟩
                  · exfalso; omega
                  · exfalso; omega
                  · skip
                    refine lv_iadd hx hb dX7_take_108 ?_
                    refine lv_topi (fun x_967 ex_967 => ?_)
                    have tx_967 : x_967.toInt = (x_962.toInt + 5) := by rw [ex_967]; exact add_ti (a := x_962.toInt) (b := 5) rfl (by decide) (by omega) (by omega)
                    refine va_iast hx hb hK hP hD hS 1 1 rfl rfl (vin (a := 3) (by decide) (by decide) (by decide)) dX7_take_109 (fun H locs hP hD hS => ?_)
                    obtain ⟨f_968, ef_968, hP, hD⟩ : ∃ f_968 : Nat → Int32, f_968 = upd f_955 (3 : Int32).toNatClampNeg x_967 ∧ va_P D vwCl [(A_self, .inr (7, o7 q v w)), (q 55, .inl (c 1, 6, .inl f_968))] H ∧ va_D A [(A_self, .inr (7, o7 q v w)), (q 55, .inl (c 1, 6, .inl f_968))] := ⟨_, rfl, hP, hD⟩
                    have cl_969 : (f_968 0).toInt = (f_955 0).toInt := by rw [ef_968]; rfl
                    have cl_970 : (f_968 1).toInt = (f_955 1).toInt := by rw [ef_968]; rfl
                    have cl_971 : (f_968 2).toInt = (f_955 2).toInt := by rw [ef_968]; rfl
                    have cl_972 : (f_968 3).toInt = x_967.toInt := by rw [ef_968]; rfl
                    have cl_973 : (f_968 4).toInt = (f_955 4).toInt := by rw [ef_968]; rfl
                    have cl_974 : (f_968 5).toInt = (f_955 5).toInt := by rw [ef_968]; rfl
                    obtain ⟨x_975, ex_975⟩ : ∃ y : Int32, y = L2 + 1 := ⟨_, rfl⟩
                    refine lv_iinc (v := x_975) (lv' := [(2, .int x_975), (5, .int 3), (4, .int r_741), (3, .int 0), (0, .ref A_self), (1, .int a1)]) hx hb dX7_take_110 hl (k := 5) rfl (by rw [ex_975]; rfl) (by decide) rfl (fun ls hl => ?_)
                    refine lv_goto (tgt := 75) hx hb dX7_take_113 (by decide) ?_
                    refine lv_iload hx hb dX7_take_75 (lv_at hl 1 rfl) ?_
                    refine lv_iload_n hx hb dX7_take_77 rfl (lv_at hl 3 rfl) ?_
                    refine iicmp_leF (a := 3) (b := 0) (tgt := 116) hx hb (by decide) (by decide) dX7_take_78 (by decide) (by decide) ?_
                    refine lv_aload_n hx hb dX7_take_81 rfl (lv_at hl 4 rfl) ?_
                    refine va_get (D := D) (ci := 7) (v := .ref (q 55)) (C := RX7) (T := TX7) (N := 56) hx hb hts (fun _ h => List.mem_cons_of_mem _ (List.mem_append_right _ h)) hown hK hP 0 rfl rfl 55 (by decide) (hts (.fieldLink RX7 118 "CrownTableModel" "cloth" "[I") (mem_i 2 rfl)) (fun _ h9 => h9) rfl dX7_take_82 ?_
                    refine lv_iload hx hb dX7_take_85 (lv_at hl 1 rfl) ?_
                    refine lv_dup2_11 hx hb dX7_take_87 rfl rfl ?_
                    refine va_iald hx hb hK hP 1 1 rfl rfl (vin (a := 3) (by decide) (by decide) (by decide)) dX7_take_88 ?_
                    refine lv_topi (fun x_976 ex_976 => ?_)
                    have lf_977 : (f_968 3).toInt = x_976.toInt := by rw [ex_976]; rfl
                    refine lv_iconst (v := 1) hx hb dX7_take_89 (by decide) ?_
                    refine lv_isub hx hb dX7_take_90 ?_
                    refine lv_topi (fun x_978 ex_978 => ?_)
                    have tx_978 : x_978.toInt = (x_976.toInt - 1) := by rw [ex_978]; exact sub_ti (a := x_976.toInt) (b := 1) rfl (by decide) (by omega) (by omega)
                    refine va_iast hx hb hK hP hD hS 1 1 rfl rfl (vin (a := 3) (by decide) (by decide) (by decide)) dX7_take_91 (fun H locs hP hD hS => ?_)
                    obtain ⟨f_979, ef_979, hP, hD⟩ : ∃ f_979 : Nat → Int32, f_979 = upd f_968 (3 : Int32).toNatClampNeg x_978 ∧ va_P D vwCl [(A_self, .inr (7, o7 q v w)), (q 55, .inl (c 1, 6, .inl f_979))] H ∧ va_D A [(A_self, .inr (7, o7 q v w)), (q 55, .inl (c 1, 6, .inl f_979))] := ⟨_, rfl, hP, hD⟩
                    have cl_980 : (f_979 0).toInt = (f_968 0).toInt := by rw [ef_979]; rfl
                    have cl_981 : (f_979 1).toInt = (f_968 1).toInt := by rw [ef_979]; rfl
                    have cl_982 : (f_979 2).toInt = (f_968 2).toInt := by rw [ef_979]; rfl
                    have cl_983 : (f_979 3).toInt = x_978.toInt := by rw [ef_979]; rfl
                    have cl_984 : (f_979 4).toInt = (f_968 4).toInt := by rw [ef_979]; rfl
                    have cl_985 : (f_979 5).toInt = (f_968 5).toInt := by rw [ef_979]; rfl
                    refine lv_iinc (v := 2) (lv' := [(5, .int 2), (2, .int x_975), (4, .int r_741), (3, .int 0), (0, .ref A_self), (1, .int a1)]) hx hb dX7_take_92 hl (k := 1) rfl (by decide) (by decide) rfl (fun ls hl => ?_)
                    refine lv_aload_n hx hb dX7_take_95 rfl (lv_at hl 4 rfl) ?_
                    refine va_get (D := D) (ci := 7) (v := .ref (q 55)) (C := RX7) (T := TX7) (N := 56) hx hb hts (fun _ h => List.mem_cons_of_mem _ (List.mem_append_right _ h)) hown hK hP 0 rfl rfl 55 (by decide) (hts (.fieldLink RX7 118 "CrownTableModel" "cloth" "[I") (mem_i 2 rfl)) (fun _ h9 => h9) rfl dX7_take_96 ?_
                    refine lv_iload hx hb dX7_take_99 (lv_at hl 0 rfl) ?_
                    refine lv_dup2_11 hx hb dX7_take_101 rfl rfl ?_
                    refine va_iald hx hb hK hP 1 1 rfl rfl (vin (a := 2) (by decide) (by decide) (by decide)) dX7_take_102 ?_
                    refine lv_topi (fun x_986 ex_986 => ?_)
                    have lf_987 : (f_979 2).toInt = x_986.toInt := by rw [ex_986]; rfl
                    refine lv_iload hx hb dX7_take_103 (lv_at hl 0 rfl) ?_
                    have hPc := hP.sub (ws' := []) [] rfl
                    have hDc := hD.sub (ws' := []) [] (by decide) rfl
                    have hFc := va_free (wc := []) hD hS hA [] rfl
                    have kzz_988 : (2 : Int32).toInt = 2 := by decide
                    refine va_csi (va_runS (As := [.int 2]) (rest := [.int x_986, .int 2, .ref (q 55)]) ⟨hx, hb, hml, hown, hts⟩ (k_X7_next l D c ts H.size 2 2 (by decide) (by omega)) (cwS 1 hts gX7_take_X7_next rfl rfl rfl ⟨rfl, hdX7_next⟩ ⟨(show 1 + 1 ≤ 2 by decide), (show 8 + (1 + 11) + 20 ≤ 43 by decide)⟩) ⟨Pre0.blind, Pre0.at hPc hDc hAm hSt hS hFc⟩ rfl rfl hl.1 rfl (lv_room (Nat.le_of_ble_eq_true rfl)) dX7_take_105 ⟨(show 0 + 0 ≤ 0 by decide), (show 0 + 0 ≤ 0 by decide)⟩) (fun r_990 hw_989 => ?_)
                    rcases hw_989 with ⟨hw_989, rfl⟩ | ⟨hw_989, rfl⟩ | ⟨hw_989, rfl⟩ | ⟨hw_989, rfl⟩
                    · exfalso; omega
                    · skip
                      refine lv_iadd hx hb dX7_take_108 ?_
                      refine lv_topi (fun x_991 ex_991 => ?_)
                      have tx_991 : x_991.toInt = (x_986.toInt + 20) := by rw [ex_991]; exact add_ti (a := x_986.toInt) (b := 20) rfl (by decide) (by omega) (by omega)
                      refine va_iast hx hb hK hP hD hS 1 1 rfl rfl (vin (a := 2) (by decide) (by decide) (by decide)) dX7_take_109 (fun H locs hP hD hS => ?_)
                      obtain ⟨f_992, ef_992, hP, hD⟩ : ∃ f_992 : Nat → Int32, f_992 = upd f_979 (2 : Int32).toNatClampNeg x_991 ∧ va_P D vwCl [(A_self, .inr (7, o7 q v w)), (q 55, .inl (c 1, 6, .inl f_992))] H ∧ va_D A [(A_self, .inr (7, o7 q v w)), (q 55, .inl (c 1, 6, .inl f_992))] := ⟨_, rfl, hP, hD⟩
                      have cl_993 : (f_992 0).toInt = (f_979 0).toInt := by rw [ef_992]; rfl
                      have cl_994 : (f_992 1).toInt = (f_979 1).toInt := by rw [ef_992]; rfl
                      have cl_995 : (f_992 2).toInt = x_991.toInt := by rw [ef_992]; rfl
                      have cl_996 : (f_992 3).toInt = (f_979 3).toInt := by rw [ef_992]; rfl
                      have cl_997 : (f_992 4).toInt = (f_979 4).toInt := by rw [ef_992]; rfl
                      have cl_998 : (f_992 5).toInt = (f_979 5).toInt := by rw [ef_992]; rfl
                      obtain ⟨x_999, ex_999⟩ : ∃ y : Int32, y = x_975 + 1 := ⟨_, rfl⟩
                      refine lv_iinc (v := x_999) (lv' := [(2, .int x_999), (5, .int 2), (4, .int r_741), (3, .int 0), (0, .ref A_self), (1, .int a1)]) hx hb dX7_take_110 hl (k := 1) rfl (by rw [ex_999]; rfl) (by decide) rfl (fun ls hl => ?_)
                      refine lv_goto (tgt := 75) hx hb dX7_take_113 (by decide) ?_
                      refine lv_iload hx hb dX7_take_75 (lv_at hl 1 rfl) ?_
                      refine lv_iload_n hx hb dX7_take_77 rfl (lv_at hl 3 rfl) ?_
                      refine iicmp_leF (a := 2) (b := 0) (tgt := 116) hx hb (by decide) (by decide) dX7_take_78 (by decide) (by decide) ?_
                      refine lv_aload_n hx hb dX7_take_81 rfl (lv_at hl 4 rfl) ?_
                      refine va_get (D := D) (ci := 7) (v := .ref (q 55)) (C := RX7) (T := TX7) (N := 56) hx hb hts (fun _ h => List.mem_cons_of_mem _ (List.mem_append_right _ h)) hown hK hP 0 rfl rfl 55 (by decide) (hts (.fieldLink RX7 118 "CrownTableModel" "cloth" "[I") (mem_i 2 rfl)) (fun _ h9 => h9) rfl dX7_take_82 ?_
                      refine lv_iload hx hb dX7_take_85 (lv_at hl 1 rfl) ?_
                      refine lv_dup2_11 hx hb dX7_take_87 rfl rfl ?_
                      refine va_iald hx hb hK hP 1 1 rfl rfl (vin (a := 2) (by decide) (by decide) (by decide)) dX7_take_88 ?_
                      refine lv_topi (fun x_1000 ex_1000 => ?_)
                      have lf_1001 : (f_992 2).toInt = x_1000.toInt := by rw [ex_1000]; rfl
                      refine lv_iconst (v := 1) hx hb dX7_take_89 (by decide) ?_
                      refine lv_isub hx hb dX7_take_90 ?_
                      refine lv_topi (fun x_1002 ex_1002 => ?_)
                      have tx_1002 : x_1002.toInt = (x_1000.toInt - 1) := by rw [ex_1002]; exact sub_ti (a := x_1000.toInt) (b := 1) rfl (by decide) (by omega) (by omega)
                      refine va_iast hx hb hK hP hD hS 1 1 rfl rfl (vin (a := 2) (by decide) (by decide) (by decide)) dX7_take_91 (fun H locs hP hD hS => ?_)
                      obtain ⟨f_1003, ef_1003, hP, hD⟩ : ∃ f_1003 : Nat → Int32, f_1003 = upd f_992 (2 : Int32).toNatClampNeg x_1002 ∧ va_P D vwCl [(A_self, .inr (7, o7 q v w)), (q 55, .inl (c 1, 6, .inl f_1003))] H ∧ va_D A [(A_self, .inr (7, o7 q v w)), (q 55, .inl (c 1, 6, .inl f_1003))] := ⟨_, rfl, hP, hD⟩
                      have cl_1004 : (f_1003 0).toInt = (f_992 0).toInt := by rw [ef_1003]; rfl
                      have cl_1005 : (f_1003 1).toInt = (f_992 1).toInt := by rw [ef_1003]; rfl
                      have cl_1006 : (f_1003 2).toInt = x_1002.toInt := by rw [ef_1003]; rfl
                      have cl_1007 : (f_1003 3).toInt = (f_992 3).toInt := by rw [ef_1003]; rfl
                      have cl_1008 : (f_1003 4).toInt = (f_992 4).toInt := by rw [ef_1003]; rfl
                      have cl_1009 : (f_1003 5).toInt = (f_992 5).toInt := by rw [ef_1003]; rfl
                      refine lv_iinc (v := 1) (lv' := [(5, .int 1), (2, .int x_999), (4, .int r_741), (3, .int 0), (0, .ref A_self), (1, .int a1)]) hx hb dX7_take_92 hl (k := 1) rfl (by decide) (by decide) rfl (fun ls hl => ?_)
                      refine lv_aload_n hx hb dX7_take_95 rfl (lv_at hl 4 rfl) ?_
                      refine va_get (D := D) (ci := 7) (v := .ref (q 55)) (C := RX7) (T := TX7) (N := 56) hx hb hts (fun _ h => List.mem_cons_of_mem _ (List.mem_append_right _ h)) hown hK hP 0 rfl rfl 55 (by decide) (hts (.fieldLink RX7 118 "CrownTableModel" "cloth" "[I") (mem_i 2 rfl)) (fun _ h9 => h9) rfl dX7_take_96 ?_
                      refine lv_iload hx hb dX7_take_99 (lv_at hl 0 rfl) ?_
                      refine lv_dup2_11 hx hb dX7_take_101 rfl rfl ?_
                      refine va_iald hx hb hK hP 1 1 rfl rfl (vin (a := 1) (by decide) (by decide) (by decide)) dX7_take_102 ?_
                      refine lv_topi (fun x_1010 ex_1010 => ?_)
                      have lf_1011 : (f_1003 1).toInt = x_1010.toInt := by rw [ex_1010]; rfl
                      refine lv_iload hx hb dX7_take_103 (lv_at hl 0 rfl) ?_
                      have hPc := hP.sub (ws' := []) [] rfl
                      have hDc := hD.sub (ws' := []) [] (by decide) rfl
                      have hFc := va_free (wc := []) hD hS hA [] rfl
                      have kzz_1012 : (1 : Int32).toInt = 1 := by decide
                      refine va_csi (va_runS (As := [.int 1]) (rest := [.int x_1010, .int 1, .ref (q 55)]) ⟨hx, hb, hml, hown, hts⟩ (k_X7_next l D c ts H.size 1 1 (by decide) (by omega)) (cwS 1 hts gX7_take_X7_next rfl rfl rfl ⟨rfl, hdX7_next⟩ ⟨(show 1 + 1 ≤ 2 by decide), (show 8 + (1 + 11) + 20 ≤ 43 by decide)⟩) ⟨Pre0.blind, Pre0.at hPc hDc hAm hSt hS hFc⟩ rfl rfl hl.1 rfl (lv_room (Nat.le_of_ble_eq_true rfl)) dX7_take_105 ⟨(show 0 + 0 ≤ 0 by decide), (show 0 + 0 ≤ 0 by decide)⟩) (fun r_1014 hw_1013 => ?_)
                      rcases hw_1013 with ⟨hw_1013, rfl⟩ | ⟨hw_1013, rfl⟩ | ⟨hw_1013, rfl⟩ | ⟨hw_1013, rfl⟩
                      · exfalso; omega
                      · skip
                        refine lv_iadd hx hb dX7_take_108 ?_
                        refine lv_topi (fun x_1015 ex_1015 => ?_)
                        have tx_1015 : x_1015.toInt = (x_1010.toInt + 20) := by rw [ex_1015]; exact add_ti (a := x_1010.toInt) (b := 20) rfl (by decide) (by omega) (by omega)
                        refine va_iast hx hb hK hP hD hS 1 1 rfl rfl (vin (a := 1) (by decide) (by decide) (by decide)) dX7_take_109 (fun H locs hP hD hS => ?_)
                        obtain ⟨f_1016, ef_1016, hP, hD⟩ : ∃ f_1016 : Nat → Int32, f_1016 = upd f_1003 (1 : Int32).toNatClampNeg x_1015 ∧ va_P D vwCl [(A_self, .inr (7, o7 q v w)), (q 55, .inl (c 1, 6, .inl f_1016))] H ∧ va_D A [(A_self, .inr (7, o7 q v w)), (q 55, .inl (c 1, 6, .inl f_1016))] := ⟨_, rfl, hP, hD⟩
                        have cl_1017 : (f_1016 0).toInt = (f_1003 0).toInt := by rw [ef_1016]; rfl
                        have cl_1018 : (f_1016 1).toInt = x_1015.toInt := by rw [ef_1016]; rfl
                        have cl_1019 : (f_1016 2).toInt = (f_1003 2).toInt := by rw [ef_1016]; rfl
                        have cl_1020 : (f_1016 3).toInt = (f_1003 3).toInt := by rw [ef_1016]; rfl
                        have cl_1021 : (f_1016 4).toInt = (f_1003 4).toInt := by rw [ef_1016]; rfl
                        have cl_1022 : (f_1016 5).toInt = (f_1003 5).toInt := by rw [ef_1016]; rfl
                        obtain ⟨x_1023, ex_1023⟩ : ∃ y : Int32, y = x_999 + 1 := ⟨_, rfl⟩
                        refine lv_iinc (v := x_1023) (lv' := [(2, .int x_1023), (5, .int 1), (4, .int r_741), (3, .int 0), (0, .ref A_self), (1, .int a1)]) hx hb dX7_take_110 hl (k := 1) rfl (by rw [ex_1023]; rfl) (by decide) rfl (fun ls hl => ?_)
                        refine lv_goto (tgt := 75) hx hb dX7_take_113 (by decide) ?_
                        refine lv_iload hx hb dX7_take_75 (lv_at hl 1 rfl) ?_
                        refine lv_iload_n hx hb dX7_take_77 rfl (lv_at hl 3 rfl) ?_
                        refine iicmp_leF (a := 1) (b := 0) (tgt := 116) hx hb (by decide) (by decide) dX7_take_78 (by decide) (by decide) ?_
                        refine lv_aload_n hx hb dX7_take_81 rfl (lv_at hl 4 rfl) ?_
                        refine va_get (D := D) (ci := 7) (v := .ref (q 55)) (C := RX7) (T := TX7) (N := 56) hx hb hts (fun _ h => List.mem_cons_of_mem _ (List.mem_append_right _ h)) hown hK hP 0 rfl rfl 55 (by decide) (hts (.fieldLink RX7 118 "CrownTableModel" "cloth" "[I") (mem_i 2 rfl)) (fun _ h9 => h9) rfl dX7_take_82 ?_
                        refine lv_iload hx hb dX7_take_85 (lv_at hl 1 rfl) ?_
                        refine lv_dup2_11 hx hb dX7_take_87 rfl rfl ?_
                        refine va_iald hx hb hK hP 1 1 rfl rfl (vin (a := 1) (by decide) (by decide) (by decide)) dX7_take_88 ?_
                        refine lv_topi (fun x_1024 ex_1024 => ?_)
                        have lf_1025 : (f_1016 1).toInt = x_1024.toInt := by rw [ex_1024]; rfl
                        refine lv_iconst (v := 1) hx hb dX7_take_89 (by decide) ?_
                        refine lv_isub hx hb dX7_take_90 ?_
                        refine lv_topi (fun x_1026 ex_1026 => ?_)
                        have tx_1026 : x_1026.toInt = (x_1024.toInt - 1) := by rw [ex_1026]; exact sub_ti (a := x_1024.toInt) (b := 1) rfl (by decide) (by omega) (by omega)
                        refine va_iast hx hb hK hP hD hS 1 1 rfl rfl (vin (a := 1) (by decide) (by decide) (by decide)) dX7_take_91 (fun H locs hP hD hS => ?_)
                        obtain ⟨f_1027, ef_1027, hP, hD⟩ : ∃ f_1027 : Nat → Int32, f_1027 = upd f_1016 (1 : Int32).toNatClampNeg x_1026 ∧ va_P D vwCl [(A_self, .inr (7, o7 q v w)), (q 55, .inl (c 1, 6, .inl f_1027))] H ∧ va_D A [(A_self, .inr (7, o7 q v w)), (q 55, .inl (c 1, 6, .inl f_1027))] := ⟨_, rfl, hP, hD⟩
                        have cl_1028 : (f_1027 0).toInt = (f_1016 0).toInt := by rw [ef_1027]; rfl
                        have cl_1029 : (f_1027 1).toInt = x_1026.toInt := by rw [ef_1027]; rfl
                        have cl_1030 : (f_1027 2).toInt = (f_1016 2).toInt := by rw [ef_1027]; rfl
                        have cl_1031 : (f_1027 3).toInt = (f_1016 3).toInt := by rw [ef_1027]; rfl
                        have cl_1032 : (f_1027 4).toInt = (f_1016 4).toInt := by rw [ef_1027]; rfl
                        have cl_1033 : (f_1027 5).toInt = (f_1016 5).toInt := by rw [ef_1027]; rfl
                        refine lv_iinc (v := 0) (lv' := [(5, .int 0), (2, .int x_1023), (4, .int r_741), (3, .int 0), (0, .ref A_self), (1, .int a1)]) hx hb dX7_take_92 hl (k := 1) rfl (by decide) (by decide) rfl (fun ls hl => ?_)
                        refine lv_aload_n hx hb dX7_take_95 rfl (lv_at hl 4 rfl) ?_
                        refine va_get (D := D) (ci := 7) (v := .ref (q 55)) (C := RX7) (T := TX7) (N := 56) hx hb hts (fun _ h => List.mem_cons_of_mem _ (List.mem_append_right _ h)) hown hK hP 0 rfl rfl 55 (by decide) (hts (.fieldLink RX7 118 "CrownTableModel" "cloth" "[I") (mem_i 2 rfl)) (fun _ h9 => h9) rfl dX7_take_96 ?_
                        refine lv_iload hx hb dX7_take_99 (lv_at hl 0 rfl) ?_
                        refine lv_dup2_11 hx hb dX7_take_101 rfl rfl ?_
                        refine va_iald hx hb hK hP 1 1 rfl rfl (vin (a := 0) (by decide) (by decide) (by decide)) dX7_take_102 ?_
                        refine lv_topi (fun x_1034 ex_1034 => ?_)
                        have lf_1035 : (f_1027 0).toInt = x_1034.toInt := by rw [ex_1034]; rfl
                        refine lv_iload hx hb dX7_take_103 (lv_at hl 0 rfl) ?_
                        have hPc := hP.sub (ws' := []) [] rfl
                        have hDc := hD.sub (ws' := []) [] (by decide) rfl
                        have hFc := va_free (wc := []) hD hS hA [] rfl
                        have kzz_1036 : (0 : Int32).toInt = 0 := by decide
                        refine va_csi (va_runS (As := [.int 0]) (rest := [.int x_1034, .int 0, .ref (q 55)]) ⟨hx, hb, hml, hown, hts⟩ (k_X7_next l D c ts H.size 0 0 (by decide) (by omega)) (cwS 1 hts gX7_take_X7_next rfl rfl rfl ⟨rfl, hdX7_next⟩ ⟨(show 1 + 1 ≤ 2 by decide), (show 8 + (1 + 11) + 20 ≤ 43 by decide)⟩) ⟨Pre0.blind, Pre0.at hPc hDc hAm hSt hS hFc⟩ rfl rfl hl.1 rfl (lv_room (Nat.le_of_ble_eq_true rfl)) dX7_take_105 ⟨(show 0 + 0 ≤ 0 by decide), (show 0 + 0 ≤ 0 by decide)⟩) (fun r_1038 hw_1037 => ?_)
                        rcases hw_1037 with ⟨hw_1037, rfl⟩ | ⟨hw_1037, rfl⟩ | ⟨hw_1037, rfl⟩ | ⟨hw_1037, rfl⟩
                        · skip
                          refine lv_iadd hx hb dX7_take_108 ?_
                          refine lv_topi (fun x_1039 ex_1039 => ?_)
                          have tx_1039 : x_1039.toInt = (x_1034.toInt + 12) := by rw [ex_1039]; exact add_ti (a := x_1034.toInt) (b := 12) rfl (by decide) (by omega) (by omega)
                          refine va_iast hx hb hK hP hD hS 1 1 rfl rfl (vin (a := 0) (by decide) (by decide) (by decide)) dX7_take_109 (fun H locs hP hD hS => ?_)
                          obtain ⟨f_1040, ef_1040, hP, hD⟩ : ∃ f_1040 : Nat → Int32, f_1040 = upd f_1027 (0 : Int32).toNatClampNeg x_1039 ∧ va_P D vwCl [(A_self, .inr (7, o7 q v w)), (q 55, .inl (c 1, 6, .inl f_1040))] H ∧ va_D A [(A_self, .inr (7, o7 q v w)), (q 55, .inl (c 1, 6, .inl f_1040))] := ⟨_, rfl, hP, hD⟩
                          have cl_1041 : (f_1040 0).toInt = x_1039.toInt := by rw [ef_1040]; rfl
                          have cl_1042 : (f_1040 1).toInt = (f_1027 1).toInt := by rw [ef_1040]; rfl
                          have cl_1043 : (f_1040 2).toInt = (f_1027 2).toInt := by rw [ef_1040]; rfl
                          have cl_1044 : (f_1040 3).toInt = (f_1027 3).toInt := by rw [ef_1040]; rfl
                          have cl_1045 : (f_1040 4).toInt = (f_1027 4).toInt := by rw [ef_1040]; rfl
                          have cl_1046 : (f_1040 5).toInt = (f_1027 5).toInt := by rw [ef_1040]; rfl
                          obtain ⟨x_1047, ex_1047⟩ : ∃ y : Int32, y = x_1023 + 1 := ⟨_, rfl⟩
                          refine lv_iinc (v := x_1047) (lv' := [(2, .int x_1047), (5, .int 0), (4, .int r_741), (3, .int 0), (0, .ref A_self), (1, .int a1)]) hx hb dX7_take_110 hl (k := 1) rfl (by rw [ex_1047]; rfl) (by decide) rfl (fun ls hl => ?_)
                          refine lv_goto (tgt := 75) hx hb dX7_take_113 (by decide) ?_
                          refine lv_iload hx hb dX7_take_75 (lv_at hl 1 rfl) ?_
                          refine lv_iload_n hx hb dX7_take_77 rfl (lv_at hl 3 rfl) ?_
                          refine iicmp_leT (a := 0) (b := 0) (tgt := 116) hx hb (by decide) (by decide) dX7_take_78 (by decide) (by decide) ?_
                          refine lv_goto (tgt := 43) hx hb dX7_take_116 (by decide) ?_
                          refine lv_aload_n hx hb dX7_take_43 rfl (lv_at hl 4 rfl) ?_
                          refine va_get (D := D) (ci := 7) (v := .ref (q 55)) (C := RX7) (T := TX7) (N := 56) hx hb hts (fun _ h => List.mem_cons_of_mem _ (List.mem_append_right _ h)) hown hK hP 0 rfl rfl 55 (by decide) (hts (.fieldLink RX7 118 "CrownTableModel" "cloth" "[I") (mem_i 2 rfl)) (fun _ h9 => h9) rfl dX7_take_44 ?_
                          refine lv_iload_n hx hb dX7_take_47 rfl (lv_at hl 3 rfl) ?_
                          refine va_iald hx hb hK hP 1 1 rfl rfl (vin (a := 0) (by decide) (by decide) (by decide)) dX7_take_48 ?_
                          refine lv_topi (fun x_1048 ex_1048 => ?_)
                          have lf_1049 : (f_1040 0).toInt = x_1048.toInt := by rw [ex_1048]; rfl
                          refine lv_iload hx hb dX7_take_49 (lv_at hl 2 rfl) ?_
                          refine iicmp_ge (a := x_1048.toInt) (b := r_741.toInt) (tgt := 119) hx hb rfl rfl dX7_take_51 (by decide) (fun k_1050 => ?_) (fun k_1050 => ?_)
                          · skip
                            refine lv_aload_n hx hb dX7_take_119 rfl (lv_at hl 4 rfl) ?_
                            refine va_get (D := D) (ci := 7) (v := .ref (q 55)) (C := RX7) (T := TX7) (N := 56) hx hb hts (fun _ h => List.mem_cons_of_mem _ (List.mem_append_right _ h)) hown hK hP 0 rfl rfl 55 (by decide) (hts (.fieldLink RX7 118 "CrownTableModel" "cloth" "[I") (mem_i 2 rfl)) (fun _ h9 => h9) rfl dX7_take_120 ?_
                            refine lv_iload_n hx hb dX7_take_123 rfl (lv_at hl 3 rfl) ?_
                            refine lv_dup2_11 hx hb dX7_take_124 rfl rfl ?_
                            refine va_iald hx hb hK hP 1 1 rfl rfl (vin (a := 0) (by decide) (by decide) (by decide)) dX7_take_125 ?_
                            refine lv_topi (fun x_1051 ex_1051 => ?_)
                            have lf_1052 : (f_1040 0).toInt = x_1051.toInt := by rw [ex_1051]; rfl
                            refine lv_iload hx hb dX7_take_126 (lv_at hl 2 rfl) ?_
                            refine lv_isub hx hb dX7_take_128 ?_
                            refine lv_topi (fun x_1053 ex_1053 => ?_)
                            have tx_1053 : x_1053.toInt = (x_1051.toInt - r_741.toInt) := by rw [ex_1053]; exact sub_ti (a := x_1051.toInt) (b := r_741.toInt) rfl rfl (by omega) (by omega)
                            refine va_iast hx hb hK hP hD hS 1 1 rfl rfl (vin (a := 0) (by decide) (by decide) (by decide)) dX7_take_129 (fun H locs hP hD hS => ?_)
                            obtain ⟨f_1054, ef_1054, hP, hD⟩ : ∃ f_1054 : Nat → Int32, f_1054 = upd f_1040 (0 : Int32).toNatClampNeg x_1053 ∧ va_P D vwCl [(A_self, .inr (7, o7 q v w)), (q 55, .inl (c 1, 6, .inl f_1054))] H ∧ va_D A [(A_self, .inr (7, o7 q v w)), (q 55, .inl (c 1, 6, .inl f_1054))] := ⟨_, rfl, hP, hD⟩
                            have cl_1055 : (f_1054 0).toInt = x_1053.toInt := by rw [ef_1054]; rfl
                            have cl_1056 : (f_1054 1).toInt = (f_1040 1).toInt := by rw [ef_1054]; rfl
                            have cl_1057 : (f_1054 2).toInt = (f_1040 2).toInt := by rw [ef_1054]; rfl
                            have cl_1058 : (f_1054 3).toInt = (f_1040 3).toInt := by rw [ef_1054]; rfl
                            have cl_1059 : (f_1054 4).toInt = (f_1040 4).toInt := by rw [ef_1054]; rfl
                            have cl_1060 : (f_1054 5).toInt = (f_1040 5).toInt := by rw [ef_1054]; rfl
                            refine lv_iinc (v := 1) (lv' := [(3, .int 1), (2, .int x_1047), (5, .int 0), (4, .int r_741), (0, .ref A_self), (1, .int a1)]) hx hb dX7_take_130 hl (k := 3) rfl (by decide) (by decide) rfl (fun ls hl => ?_)
                            refine lv_goto (tgt := 30) hx hb dX7_take_133 (by decide) ?_
                            have hl := lv_sub hl [0, 4, 5, 1] rfl
                            exact lp_30_1 x_1047 f_1054 (by omega) (by omega) (by omega) (by omega) (by omega) (by omega) (by omega) _ _ _ hP hD hS hl
                          · skip
                            exfalso; omega
                        · exfalso; omega
                        · exfalso; omega
                        · exfalso; omega
                      · exfalso; omega
                      · exfalso; omega
                    · exfalso; omega
                    · exfalso; omega
                  · exfalso; omega
                · skip
                  refine lv_iinc (v := 5) (lv' := [(5, .int 5), (4, .int r_741), (3, .int 0), (0, .ref A_self), (1, .int a1), (2, .int L2)]) hx hb dX7_take_69 hl (k := 0) rfl (by decide) (by decide) rfl (fun ls hl => ?_)
                  refine lv_goto (tgt := 59) hx hb dX7_take_72 (by decide) ?_
                  refine lv_aload_n hx hb dX7_take_59 rfl (lv_at hl 3 rfl) ?_
                  refine va_get (D := D) (ci := 7) (v := .ref (q 55)) (C := RX7) (T := TX7) (N := 56) hx hb hts (fun _ h => List.mem_cons_of_mem _ (List.mem_append_right _ h)) hown hK hP 0 rfl rfl 55 (by decide) (hts (.fieldLink RX7 118 "CrownTableModel" "cloth" "[I") (mem_i 2 rfl)) (fun _ h9 => h9) rfl dX7_take_60 ?_
                  refine lv_iload hx hb dX7_take_63 (lv_at hl 0 rfl) ?_
                  refine va_iald hx hb hK hP 1 1 rfl rfl (vin (a := 5) (by decide) (by decide) (by decide)) dX7_take_65 ?_
                  refine lv_topi (fun x_1061 ex_1061 => ?_)
                  have lf_1062 : (M_cloth 5).toInt = x_1061.toInt := by rw [ex_1061]; rfl
                  refine iif_ne (a := x_1061.toInt) (tgt := 75) hx hb rfl dX7_take_66 (by decide) (fun k_1063 => ?_) (fun k_1063 => ?_)
                  · skip
                    refine lv_iload hx hb dX7_take_75 (lv_at hl 0 rfl) ?_
                    refine lv_iload_n hx hb dX7_take_77 rfl (lv_at hl 2 rfl) ?_
                    refine iicmp_leF (a := 5) (b := 0) (tgt := 116) hx hb (by decide) (by decide) dX7_take_78 (by decide) (by decide) ?_
                    refine lv_aload_n hx hb dX7_take_81 rfl (lv_at hl 3 rfl) ?_
                    refine va_get (D := D) (ci := 7) (v := .ref (q 55)) (C := RX7) (T := TX7) (N := 56) hx hb hts (fun _ h => List.mem_cons_of_mem _ (List.mem_append_right _ h)) hown hK hP 0 rfl rfl 55 (by decide) (hts (.fieldLink RX7 118 "CrownTableModel" "cloth" "[I") (mem_i 2 rfl)) (fun _ h9 => h9) rfl dX7_take_82 ?_
                    refine lv_iload hx hb dX7_take_85 (lv_at hl 0 rfl) ?_
                    refine lv_dup2_11 hx hb dX7_take_87 rfl rfl ?_
                    refine va_iald hx hb hK hP 1 1 rfl rfl (vin (a := 5) (by decide) (by decide) (by decide)) dX7_take_88 ?_
                    refine lv_topi (fun x_1064 ex_1064 => ?_)
                    have lf_1065 : (M_cloth 5).toInt = x_1064.toInt := by rw [ex_1064]; rfl
                    refine lv_iconst (v := 1) hx hb dX7_take_89 (by decide) ?_
                    refine lv_isub hx hb dX7_take_90 ?_
                    refine lv_topi (fun x_1066 ex_1066 => ?_)
                    have tx_1066 : x_1066.toInt = (x_1064.toInt - 1) := by rw [ex_1066]; exact sub_ti (a := x_1064.toInt) (b := 1) rfl (by decide) (by omega) (by omega)
                    refine va_iast hx hb hK hP hD hS 1 1 rfl rfl (vin (a := 5) (by decide) (by decide) (by decide)) dX7_take_91 (fun H locs hP hD hS => ?_)
                    obtain ⟨f_1067, ef_1067, hP, hD⟩ : ∃ f_1067 : Nat → Int32, f_1067 = upd M_cloth (5 : Int32).toNatClampNeg x_1066 ∧ va_P D vwCl [(A_self, .inr (7, o7 q v w)), (q 55, .inl (c 1, 6, .inl f_1067))] H ∧ va_D A [(A_self, .inr (7, o7 q v w)), (q 55, .inl (c 1, 6, .inl f_1067))] := ⟨_, rfl, hP, hD⟩
                    have cl_1068 : (f_1067 0).toInt = (M_cloth 0).toInt := by rw [ef_1067]; rfl
                    have cl_1069 : (f_1067 1).toInt = (M_cloth 1).toInt := by rw [ef_1067]; rfl
                    have cl_1070 : (f_1067 2).toInt = (M_cloth 2).toInt := by rw [ef_1067]; rfl
                    have cl_1071 : (f_1067 3).toInt = (M_cloth 3).toInt := by rw [ef_1067]; rfl
                    have cl_1072 : (f_1067 4).toInt = (M_cloth 4).toInt := by rw [ef_1067]; rfl
                    have cl_1073 : (f_1067 5).toInt = x_1066.toInt := by rw [ef_1067]; rfl
                    refine lv_iinc (v := 4) (lv' := [(5, .int 4), (4, .int r_741), (3, .int 0), (0, .ref A_self), (1, .int a1), (2, .int L2)]) hx hb dX7_take_92 hl (k := 0) rfl (by decide) (by decide) rfl (fun ls hl => ?_)
                    refine lv_aload_n hx hb dX7_take_95 rfl (lv_at hl 3 rfl) ?_
                    refine va_get (D := D) (ci := 7) (v := .ref (q 55)) (C := RX7) (T := TX7) (N := 56) hx hb hts (fun _ h => List.mem_cons_of_mem _ (List.mem_append_right _ h)) hown hK hP 0 rfl rfl 55 (by decide) (hts (.fieldLink RX7 118 "CrownTableModel" "cloth" "[I") (mem_i 2 rfl)) (fun _ h9 => h9) rfl dX7_take_96 ?_
                    refine lv_iload hx hb dX7_take_99 (lv_at hl 0 rfl) ?_
                    refine lv_dup2_11 hx hb dX7_take_101 rfl rfl ?_
                    refine va_iald hx hb hK hP 1 1 rfl rfl (vin (a := 4) (by decide) (by decide) (by decide)) dX7_take_102 ?_
                    refine lv_topi (fun x_1074 ex_1074 => ?_)
                    have lf_1075 : (f_1067 4).toInt = x_1074.toInt := by rw [ex_1074]; rfl
                    refine lv_iload hx hb dX7_take_103 (lv_at hl 0 rfl) ?_
                    have hPc := hP.sub (ws' := []) [] rfl
                    have hDc := hD.sub (ws' := []) [] (by decide) rfl
                    have hFc := va_free (wc := []) hD hS hA [] rfl
                    have kzz_1076 : (4 : Int32).toInt = 4 := by decide
                    refine va_csi (va_runS (As := [.int 4]) (rest := [.int x_1074, .int 4, .ref (q 55)]) ⟨hx, hb, hml, hown, hts⟩ (k_X7_next l D c ts H.size 4 4 (by decide) (by omega)) (cwS 1 hts gX7_take_X7_next rfl rfl rfl ⟨rfl, hdX7_next⟩ ⟨(show 1 + 1 ≤ 2 by decide), (show 8 + (1 + 11) + 20 ≤ 43 by decide)⟩) ⟨Pre0.blind, Pre0.at hPc hDc hAm hSt hS hFc⟩ rfl rfl hl.1 rfl (lv_room (Nat.le_of_ble_eq_true rfl)) dX7_take_105 ⟨(show 0 + 0 ≤ 0 by decide), (show 0 + 0 ≤ 0 by decide)⟩) (fun r_1078 hw_1077 => ?_)
                    rcases hw_1077 with ⟨hw_1077, rfl⟩ | ⟨hw_1077, rfl⟩ | ⟨hw_1077, rfl⟩ | ⟨hw_1077, rfl⟩
                    · exfalso; omega
                    · exfalso; omega
                    · exfalso; omega
                    · skip
                      refine lv_iadd hx hb dX7_take_108 ?_
                      refine lv_topi (fun x_1079 ex_1079 => ?_)
                      have tx_1079 : x_1079.toInt = (x_1074.toInt + 10) := by rw [ex_1079]; exact add_ti (a := x_1074.toInt) (b := 10) rfl (by decide) (by omega) (by omega)
                      refine va_iast hx hb hK hP hD hS 1 1 rfl rfl (vin (a := 4) (by decide) (by decide) (by decide)) dX7_take_109 (fun H locs hP hD hS => ?_)
                      obtain ⟨f_1080, ef_1080, hP, hD⟩ : ∃ f_1080 : Nat → Int32, f_1080 = upd f_1067 (4 : Int32).toNatClampNeg x_1079 ∧ va_P D vwCl [(A_self, .inr (7, o7 q v w)), (q 55, .inl (c 1, 6, .inl f_1080))] H ∧ va_D A [(A_self, .inr (7, o7 q v w)), (q 55, .inl (c 1, 6, .inl f_1080))] := ⟨_, rfl, hP, hD⟩
                      have cl_1081 : (f_1080 0).toInt = (f_1067 0).toInt := by rw [ef_1080]; rfl
                      have cl_1082 : (f_1080 1).toInt = (f_1067 1).toInt := by rw [ef_1080]; rfl
                      have cl_1083 : (f_1080 2).toInt = (f_1067 2).toInt := by rw [ef_1080]; rfl
                      have cl_1084 : (f_1080 3).toInt = (f_1067 3).toInt := by rw [ef_1080]; rfl
                      have cl_1085 : (f_1080 4).toInt = x_1079.toInt := by rw [ef_1080]; rfl
                      have cl_1086 : (f_1080 5).toInt = (f_1067 5).toInt := by rw [ef_1080]; rfl
                      obtain ⟨x_1087, ex_1087⟩ : ∃ y : Int32, y = L2 + 1 := ⟨_, rfl⟩
                      refine lv_iinc (v := x_1087) (lv' := [(2, .int x_1087), (5, .int 4), (4, .int r_741), (3, .int 0), (0, .ref A_self), (1, .int a1)]) hx hb dX7_take_110 hl (k := 5) rfl (by rw [ex_1087]; rfl) (by decide) rfl (fun ls hl => ?_)
                      refine lv_goto (tgt := 75) hx hb dX7_take_113 (by decide) ?_
                      refine lv_iload hx hb dX7_take_75 (lv_at hl 1 rfl) ?_
                      refine lv_iload_n hx hb dX7_take_77 rfl (lv_at hl 3 rfl) ?_
                      refine iicmp_leF (a := 4) (b := 0) (tgt := 116) hx hb (by decide) (by decide) dX7_take_78 (by decide) (by decide) ?_
                      refine lv_aload_n hx hb dX7_take_81 rfl (lv_at hl 4 rfl) ?_
                      refine va_get (D := D) (ci := 7) (v := .ref (q 55)) (C := RX7) (T := TX7) (N := 56) hx hb hts (fun _ h => List.mem_cons_of_mem _ (List.mem_append_right _ h)) hown hK hP 0 rfl rfl 55 (by decide) (hts (.fieldLink RX7 118 "CrownTableModel" "cloth" "[I") (mem_i 2 rfl)) (fun _ h9 => h9) rfl dX7_take_82 ?_
                      refine lv_iload hx hb dX7_take_85 (lv_at hl 1 rfl) ?_
                      refine lv_dup2_11 hx hb dX7_take_87 rfl rfl ?_
                      refine va_iald hx hb hK hP 1 1 rfl rfl (vin (a := 4) (by decide) (by decide) (by decide)) dX7_take_88 ?_
                      refine lv_topi (fun x_1088 ex_1088 => ?_)
                      have lf_1089 : (f_1080 4).toInt = x_1088.toInt := by rw [ex_1088]; rfl
                      refine lv_iconst (v := 1) hx hb dX7_take_89 (by decide) ?_
                      refine lv_isub hx hb dX7_take_90 ?_
                      refine lv_topi (fun x_1090 ex_1090 => ?_)
                      have tx_1090 : x_1090.toInt = (x_1088.toInt - 1) := by rw [ex_1090]; exact sub_ti (a := x_1088.toInt) (b := 1) rfl (by decide) (by omega) (by omega)
                      refine va_iast hx hb hK hP hD hS 1 1 rfl rfl (vin (a := 4) (by decide) (by decide) (by decide)) dX7_take_91 (fun H locs hP hD hS => ?_)
                      obtain ⟨f_1091, ef_1091, hP, hD⟩ : ∃ f_1091 : Nat → Int32, f_1091 = upd f_1080 (4 : Int32).toNatClampNeg x_1090 ∧ va_P D vwCl [(A_self, .inr (7, o7 q v w)), (q 55, .inl (c 1, 6, .inl f_1091))] H ∧ va_D A [(A_self, .inr (7, o7 q v w)), (q 55, .inl (c 1, 6, .inl f_1091))] := ⟨_, rfl, hP, hD⟩
                      have cl_1092 : (f_1091 0).toInt = (f_1080 0).toInt := by rw [ef_1091]; rfl
                      have cl_1093 : (f_1091 1).toInt = (f_1080 1).toInt := by rw [ef_1091]; rfl
                      have cl_1094 : (f_1091 2).toInt = (f_1080 2).toInt := by rw [ef_1091]; rfl
                      have cl_1095 : (f_1091 3).toInt = (f_1080 3).toInt := by rw [ef_1091]; rfl
                      have cl_1096 : (f_1091 4).toInt = x_1090.toInt := by rw [ef_1091]; rfl
                      have cl_1097 : (f_1091 5).toInt = (f_1080 5).toInt := by rw [ef_1091]; rfl
                      refine lv_iinc (v := 3) (lv' := [(5, .int 3), (2, .int x_1087), (4, .int r_741), (3, .int 0), (0, .ref A_self), (1, .int a1)]) hx hb dX7_take_92 hl (k := 1) rfl (by decide) (by decide) rfl (fun ls hl => ?_)
                      refine lv_aload_n hx hb dX7_take_95 rfl (lv_at hl 4 rfl) ?_
                      refine va_get (D := D) (ci := 7) (v := .ref (q 55)) (C := RX7) (T := TX7) (N := 56) hx hb hts (fun _ h => List.mem_cons_of_mem _ (List.mem_append_right _ h)) hown hK hP 0 rfl rfl 55 (by decide) (hts (.fieldLink RX7 118 "CrownTableModel" "cloth" "[I") (mem_i 2 rfl)) (fun _ h9 => h9) rfl dX7_take_96 ?_
                      refine lv_iload hx hb dX7_take_99 (lv_at hl 0 rfl) ?_
                      refine lv_dup2_11 hx hb dX7_take_101 rfl rfl ?_
                      refine va_iald hx hb hK hP 1 1 rfl rfl (vin (a := 3) (by decide) (by decide) (by decide)) dX7_take_102 ?_
                      refine lv_topi (fun x_1098 ex_1098 => ?_)
                      have lf_1099 : (f_1091 3).toInt = x_1098.toInt := by rw [ex_1098]; rfl
                      refine lv_iload hx hb dX7_take_103 (lv_at hl 0 rfl) ?_
                      have hPc := hP.sub (ws' := []) [] rfl
                      have hDc := hD.sub (ws' := []) [] (by decide) rfl
                      have hFc := va_free (wc := []) hD hS hA [] rfl
                      have kzz_1100 : (3 : Int32).toInt = 3 := by decide
                      refine va_csi (va_runS (As := [.int 3]) (rest := [.int x_1098, .int 3, .ref (q 55)]) ⟨hx, hb, hml, hown, hts⟩ (k_X7_next l D c ts H.size 3 3 (by decide) (by omega)) (cwS 1 hts gX7_take_X7_next rfl rfl rfl ⟨rfl, hdX7_next⟩ ⟨(show 1 + 1 ≤ 2 by decide), (show 8 + (1 + 11) + 20 ≤ 43 by decide)⟩) ⟨Pre0.blind, Pre0.at hPc hDc hAm hSt hS hFc⟩ rfl rfl hl.1 rfl (lv_room (Nat.le_of_ble_eq_true rfl)) dX7_take_105 ⟨(show 0 + 0 ≤ 0 by decide), (show 0 + 0 ≤ 0 by decide)⟩) (fun r_1102 hw_1101 => ?_)
                      rcases hw_1101 with ⟨hw_1101, rfl⟩ | ⟨hw_1101, rfl⟩ | ⟨hw_1101, rfl⟩ | ⟨hw_1101, rfl⟩
                      · exfalso; omega
                      · exfalso; omega
                      · skip
                        refine lv_iadd hx hb dX7_take_108 ?_
                        refine lv_topi (fun x_1103 ex_1103 => ?_)
                        have tx_1103 : x_1103.toInt = (x_1098.toInt + 5) := by rw [ex_1103]; exact add_ti (a := x_1098.toInt) (b := 5) rfl (by decide) (by omega) (by omega)
                        refine va_iast hx hb hK hP hD hS 1 1 rfl rfl (vin (a := 3) (by decide) (by decide) (by decide)) dX7_take_109 (fun H locs hP hD hS => ?_)
                        obtain ⟨f_1104, ef_1104, hP, hD⟩ : ∃ f_1104 : Nat → Int32, f_1104 = upd f_1091 (3 : Int32).toNatClampNeg x_1103 ∧ va_P D vwCl [(A_self, .inr (7, o7 q v w)), (q 55, .inl (c 1, 6, .inl f_1104))] H ∧ va_D A [(A_self, .inr (7, o7 q v w)), (q 55, .inl (c 1, 6, .inl f_1104))] := ⟨_, rfl, hP, hD⟩
                        have cl_1105 : (f_1104 0).toInt = (f_1091 0).toInt := by rw [ef_1104]; rfl
                        have cl_1106 : (f_1104 1).toInt = (f_1091 1).toInt := by rw [ef_1104]; rfl
                        have cl_1107 : (f_1104 2).toInt = (f_1091 2).toInt := by rw [ef_1104]; rfl
                        have cl_1108 : (f_1104 3).toInt = x_1103.toInt := by rw [ef_1104]; rfl
                        have cl_1109 : (f_1104 4).toInt = (f_1091 4).toInt := by rw [ef_1104]; rfl
                        have cl_1110 : (f_1104 5).toInt = (f_1091 5).toInt := by rw [ef_1104]; rfl
                        obtain ⟨x_1111, ex_1111⟩ : ∃ y : Int32, y = x_1087 + 1 := ⟨_, rfl⟩
                        refine lv_iinc (v := x_1111) (lv' := [(2, .int x_1111), (5, .int 3), (4, .int r_741), (3, .int 0), (0, .ref A_self), (1, .int a1)]) hx hb dX7_take_110 hl (k := 1) rfl (by rw [ex_1111]; rfl) (by decide) rfl (fun ls hl => ?_)
                        refine lv_goto (tgt := 75) hx hb dX7_take_113 (by decide) ?_
                        refine lv_iload hx hb dX7_take_75 (lv_at hl 1 rfl) ?_
                        refine lv_iload_n hx hb dX7_take_77 rfl (lv_at hl 3 rfl) ?_
                        refine iicmp_leF (a := 3) (b := 0) (tgt := 116) hx hb (by decide) (by decide) dX7_take_78 (by decide) (by decide) ?_
                        refine lv_aload_n hx hb dX7_take_81 rfl (lv_at hl 4 rfl) ?_
                        refine va_get (D := D) (ci := 7) (v := .ref (q 55)) (C := RX7) (T := TX7) (N := 56) hx hb hts (fun _ h => List.mem_cons_of_mem _ (List.mem_append_right _ h)) hown hK hP 0 rfl rfl 55 (by decide) (hts (.fieldLink RX7 118 "CrownTableModel" "cloth" "[I") (mem_i 2 rfl)) (fun _ h9 => h9) rfl dX7_take_82 ?_
                        refine lv_iload hx hb dX7_take_85 (lv_at hl 1 rfl) ?_
                        refine lv_dup2_11 hx hb dX7_take_87 rfl rfl ?_
                        refine va_iald hx hb hK hP 1 1 rfl rfl (vin (a := 3) (by decide) (by decide) (by decide)) dX7_take_88 ?_
                        refine lv_topi (fun x_1112 ex_1112 => ?_)
                        have lf_1113 : (f_1104 3).toInt = x_1112.toInt := by rw [ex_1112]; rfl
                        refine lv_iconst (v := 1) hx hb dX7_take_89 (by decide) ?_
                        refine lv_isub hx hb dX7_take_90 ?_
                        refine lv_topi (fun x_1114 ex_1114 => ?_)
                        have tx_1114 : x_1114.toInt = (x_1112.toInt - 1) := by rw [ex_1114]; exact sub_ti (a := x_1112.toInt) (b := 1) rfl (by decide) (by omega) (by omega)
                        refine va_iast hx hb hK hP hD hS 1 1 rfl rfl (vin (a := 3) (by decide) (by decide) (by decide)) dX7_take_91 (fun H locs hP hD hS => ?_)
                        obtain ⟨f_1115, ef_1115, hP, hD⟩ : ∃ f_1115 : Nat → Int32, f_1115 = upd f_1104 (3 : Int32).toNatClampNeg x_1114 ∧ va_P D vwCl [(A_self, .inr (7, o7 q v w)), (q 55, .inl (c 1, 6, .inl f_1115))] H ∧ va_D A [(A_self, .inr (7, o7 q v w)), (q 55, .inl (c 1, 6, .inl f_1115))] := ⟨_, rfl, hP, hD⟩
                        have cl_1116 : (f_1115 0).toInt = (f_1104 0).toInt := by rw [ef_1115]; rfl
                        have cl_1117 : (f_1115 1).toInt = (f_1104 1).toInt := by rw [ef_1115]; rfl
                        have cl_1118 : (f_1115 2).toInt = (f_1104 2).toInt := by rw [ef_1115]; rfl
                        have cl_1119 : (f_1115 3).toInt = x_1114.toInt := by rw [ef_1115]; rfl
                        have cl_1120 : (f_1115 4).toInt = (f_1104 4).toInt := by rw [ef_1115]; rfl
                        have cl_1121 : (f_1115 5).toInt = (f_1104 5).toInt := by rw [ef_1115]; rfl
                        refine lv_iinc (v := 2) (lv' := [(5, .int 2), (2, .int x_1111), (4, .int r_741), (3, .int 0), (0, .ref A_self), (1, .int a1)]) hx hb dX7_take_92 hl (k := 1) rfl (by decide) (by decide) rfl (fun ls hl => ?_)
                        refine lv_aload_n hx hb dX7_take_95 rfl (lv_at hl 4 rfl) ?_
                        refine va_get (D := D) (ci := 7) (v := .ref (q 55)) (C := RX7) (T := TX7) (N := 56) hx hb hts (fun _ h => List.mem_cons_of_mem _ (List.mem_append_right _ h)) hown hK hP 0 rfl rfl 55 (by decide) (hts (.fieldLink RX7 118 "CrownTableModel" "cloth" "[I") (mem_i 2 rfl)) (fun _ h9 => h9) rfl dX7_take_96 ?_
                        refine lv_iload hx hb dX7_take_99 (lv_at hl 0 rfl) ?_
                        refine lv_dup2_11 hx hb dX7_take_101 rfl rfl ?_
                        refine va_iald hx hb hK hP 1 1 rfl rfl (vin (a := 2) (by decide) (by decide) (by decide)) dX7_take_102 ?_
                        refine lv_topi (fun x_1122 ex_1122 => ?_)
                        have lf_1123 : (f_1115 2).toInt = x_1122.toInt := by rw [ex_1122]; rfl
                        refine lv_iload hx hb dX7_take_103 (lv_at hl 0 rfl) ?_
                        have hPc := hP.sub (ws' := []) [] rfl
                        have hDc := hD.sub (ws' := []) [] (by decide) rfl
                        have hFc := va_free (wc := []) hD hS hA [] rfl
                        have kzz_1124 : (2 : Int32).toInt = 2 := by decide
                        refine va_csi (va_runS (As := [.int 2]) (rest := [.int x_1122, .int 2, .ref (q 55)]) ⟨hx, hb, hml, hown, hts⟩ (k_X7_next l D c ts H.size 2 2 (by decide) (by omega)) (cwS 1 hts gX7_take_X7_next rfl rfl rfl ⟨rfl, hdX7_next⟩ ⟨(show 1 + 1 ≤ 2 by decide), (show 8 + (1 + 11) + 20 ≤ 43 by decide)⟩) ⟨Pre0.blind, Pre0.at hPc hDc hAm hSt hS hFc⟩ rfl rfl hl.1 rfl (lv_room (Nat.le_of_ble_eq_true rfl)) dX7_take_105 ⟨(show 0 + 0 ≤ 0 by decide), (show 0 + 0 ≤ 0 by decide)⟩) (fun r_1126 hw_1125 => ?_)
                        rcases hw_1125 with ⟨hw_1125, rfl⟩ | ⟨hw_1125, rfl⟩ | ⟨hw_1125, rfl⟩ | ⟨hw_1125, rfl⟩
                        · exfalso; omega
                        · skip
                          refine lv_iadd hx hb dX7_take_108 ?_
                          refine lv_topi (fun x_1127 ex_1127 => ?_)
                          have tx_1127 : x_1127.toInt = (x_1122.toInt + 20) := by rw [ex_1127]; exact add_ti (a := x_1122.toInt) (b := 20) rfl (by decide) (by omega) (by omega)
                          refine va_iast hx hb hK hP hD hS 1 1 rfl rfl (vin (a := 2) (by decide) (by decide) (by decide)) dX7_take_109 (fun H locs hP hD hS => ?_)
                          obtain ⟨f_1128, ef_1128, hP, hD⟩ : ∃ f_1128 : Nat → Int32, f_1128 = upd f_1115 (2 : Int32).toNatClampNeg x_1127 ∧ va_P D vwCl [(A_self, .inr (7, o7 q v w)), (q 55, .inl (c 1, 6, .inl f_1128))] H ∧ va_D A [(A_self, .inr (7, o7 q v w)), (q 55, .inl (c 1, 6, .inl f_1128))] := ⟨_, rfl, hP, hD⟩
                          have cl_1129 : (f_1128 0).toInt = (f_1115 0).toInt := by rw [ef_1128]; rfl
                          have cl_1130 : (f_1128 1).toInt = (f_1115 1).toInt := by rw [ef_1128]; rfl
                          have cl_1131 : (f_1128 2).toInt = x_1127.toInt := by rw [ef_1128]; rfl
                          have cl_1132 : (f_1128 3).toInt = (f_1115 3).toInt := by rw [ef_1128]; rfl
                          have cl_1133 : (f_1128 4).toInt = (f_1115 4).toInt := by rw [ef_1128]; rfl
                          have cl_1134 : (f_1128 5).toInt = (f_1115 5).toInt := by rw [ef_1128]; rfl
                          obtain ⟨x_1135, ex_1135⟩ : ∃ y : Int32, y = x_1111 + 1 := ⟨_, rfl⟩
                          refine lv_iinc (v := x_1135) (lv' := [(2, .int x_1135), (5, .int 2), (4, .int r_741), (3, .int 0), (0, .ref A_self), (1, .int a1)]) hx hb dX7_take_110 hl (k := 1) rfl (by rw [ex_1135]; rfl) (by decide) rfl (fun ls hl => ?_)
                          refine lv_goto (tgt := 75) hx hb dX7_take_113 (by decide) ?_
                          refine lv_iload hx hb dX7_take_75 (lv_at hl 1 rfl) ?_
                          refine lv_iload_n hx hb dX7_take_77 rfl (lv_at hl 3 rfl) ?_
                          refine iicmp_leF (a := 2) (b := 0) (tgt := 116) hx hb (by decide) (by decide) dX7_take_78 (by decide) (by decide) ?_
                          refine lv_aload_n hx hb dX7_take_81 rfl (lv_at hl 4 rfl) ?_
                          refine va_get (D := D) (ci := 7) (v := .ref (q 55)) (C := RX7) (T := TX7) (N := 56) hx hb hts (fun _ h => List.mem_cons_of_mem _ (List.mem_append_right _ h)) hown hK hP 0 rfl rfl 55 (by decide) (hts (.fieldLink RX7 118 "CrownTableModel" "cloth" "[I") (mem_i 2 rfl)) (fun _ h9 => h9) rfl dX7_take_82 ?_
                          refine lv_iload hx hb dX7_take_85 (lv_at hl 1 rfl) ?_
                          refine lv_dup2_11 hx hb dX7_take_87 rfl rfl ?_
                          refine va_iald hx hb hK hP 1 1 rfl rfl (vin (a := 2) (by decide) (by decide) (by decide)) dX7_take_88 ?_
                          refine lv_topi (fun x_1136 ex_1136 => ?_)
                          have lf_1137 : (f_1128 2).toInt = x_1136.toInt := by rw [ex_1136]; rfl
                          refine lv_iconst (v := 1) hx hb dX7_take_89 (by decide) ?_
                          refine lv_isub hx hb dX7_take_90 ?_
                          refine lv_topi (fun x_1138 ex_1138 => ?_)
                          have tx_1138 : x_1138.toInt = (x_1136.toInt - 1) := by rw [ex_1138]; exact sub_ti (a := x_1136.toInt) (b := 1) rfl (by decide) (by omega) (by omega)
                          refine va_iast hx hb hK hP hD hS 1 1 rfl rfl (vin (a := 2) (by decide) (by decide) (by decide)) dX7_take_91 (fun H locs hP hD hS => ?_)
                          obtain ⟨f_1139, ef_1139, hP, hD⟩ : ∃ f_1139 : Nat → Int32, f_1139 = upd f_1128 (2 : Int32).toNatClampNeg x_1138 ∧ va_P D vwCl [(A_self, .inr (7, o7 q v w)), (q 55, .inl (c 1, 6, .inl f_1139))] H ∧ va_D A [(A_self, .inr (7, o7 q v w)), (q 55, .inl (c 1, 6, .inl f_1139))] := ⟨_, rfl, hP, hD⟩
                          have cl_1140 : (f_1139 0).toInt = (f_1128 0).toInt := by rw [ef_1139]; rfl
                          have cl_1141 : (f_1139 1).toInt = (f_1128 1).toInt := by rw [ef_1139]; rfl
                          have cl_1142 : (f_1139 2).toInt = x_1138.toInt := by rw [ef_1139]; rfl
                          have cl_1143 : (f_1139 3).toInt = (f_1128 3).toInt := by rw [ef_1139]; rfl
                          have cl_1144 : (f_1139 4).toInt = (f_1128 4).toInt := by rw [ef_1139]; rfl
                          have cl_1145 : (f_1139 5).toInt = (f_1128 5).toInt := by rw [ef_1139]; rfl
                          refine lv_iinc (v := 1) (lv' := [(5, .int 1), (2, .int x_1135), (4, .int r_741), (3, .int 0), (0, .ref A_self), (1, .int a1)]) hx hb dX7_take_92 hl (k := 1) rfl (by decide) (by decide) rfl (fun ls hl => ?_)
                          refine lv_aload_n hx hb dX7_take_95 rfl (lv_at hl 4 rfl) ?_
                          refine va_get (D := D) (ci := 7) (v := .ref (q 55)) (C := RX7) (T := TX7) (N := 56) hx hb hts (fun _ h => List.mem_cons_of_mem _ (List.mem_append_right _ h)) hown hK hP 0 rfl rfl 55 (by decide) (hts (.fieldLink RX7 118 "CrownTableModel" "cloth" "[I") (mem_i 2 rfl)) (fun _ h9 => h9) rfl dX7_take_96 ?_
                          refine lv_iload hx hb dX7_take_99 (lv_at hl 0 rfl) ?_
                          refine lv_dup2_11 hx hb dX7_take_101 rfl rfl ?_
                          refine va_iald hx hb hK hP 1 1 rfl rfl (vin (a := 1) (by decide) (by decide) (by decide)) dX7_take_102 ?_
                          refine lv_topi (fun x_1146 ex_1146 => ?_)
                          have lf_1147 : (f_1139 1).toInt = x_1146.toInt := by rw [ex_1146]; rfl
                          refine lv_iload hx hb dX7_take_103 (lv_at hl 0 rfl) ?_
                          have hPc := hP.sub (ws' := []) [] rfl
                          have hDc := hD.sub (ws' := []) [] (by decide) rfl
                          have hFc := va_free (wc := []) hD hS hA [] rfl
                          have kzz_1148 : (1 : Int32).toInt = 1 := by decide
                          refine va_csi (va_runS (As := [.int 1]) (rest := [.int x_1146, .int 1, .ref (q 55)]) ⟨hx, hb, hml, hown, hts⟩ (k_X7_next l D c ts H.size 1 1 (by decide) (by omega)) (cwS 1 hts gX7_take_X7_next rfl rfl rfl ⟨rfl, hdX7_next⟩ ⟨(show 1 + 1 ≤ 2 by decide), (show 8 + (1 + 11) + 20 ≤ 43 by decide)⟩) ⟨Pre0.blind, Pre0.at hPc hDc hAm hSt hS hFc⟩ rfl rfl hl.1 rfl (lv_room (Nat.le_of_ble_eq_true rfl)) dX7_take_105 ⟨(show 0 + 0 ≤ 0 by decide), (show 0 + 0 ≤ 0 by decide)⟩) (fun r_1150 hw_1149 => ?_)
                          rcases hw_1149 with ⟨hw_1149, rfl⟩ | ⟨hw_1149, rfl⟩ | ⟨hw_1149, rfl⟩ | ⟨hw_1149, rfl⟩
                          · exfalso; omega
                          · skip
                            refine lv_iadd hx hb dX7_take_108 ?_
                            refine lv_topi (fun x_1151 ex_1151 => ?_)
                            have tx_1151 : x_1151.toInt = (x_1146.toInt + 20) := by rw [ex_1151]; exact add_ti (a := x_1146.toInt) (b := 20) rfl (by decide) (by omega) (by omega)
                            refine va_iast hx hb hK hP hD hS 1 1 rfl rfl (vin (a := 1) (by decide) (by decide) (by decide)) dX7_take_109 (fun H locs hP hD hS => ?_)
                            obtain ⟨f_1152, ef_1152, hP, hD⟩ : ∃ f_1152 : Nat → Int32, f_1152 = upd f_1139 (1 : Int32).toNatClampNeg x_1151 ∧ va_P D vwCl [(A_self, .inr (7, o7 q v w)), (q 55, .inl (c 1, 6, .inl f_1152))] H ∧ va_D A [(A_self, .inr (7, o7 q v w)), (q 55, .inl (c 1, 6, .inl f_1152))] := ⟨_, rfl, hP, hD⟩
                            have cl_1153 : (f_1152 0).toInt = (f_1139 0).toInt := by rw [ef_1152]; rfl
                            have cl_1154 : (f_1152 1).toInt = x_1151.toInt := by rw [ef_1152]; rfl
                            have cl_1155 : (f_1152 2).toInt = (f_1139 2).toInt := by rw [ef_1152]; rfl
                            have cl_1156 : (f_1152 3).toInt = (f_1139 3).toInt := by rw [ef_1152]; rfl
                            have cl_1157 : (f_1152 4).toInt = (f_1139 4).toInt := by rw [ef_1152]; rfl
                            have cl_1158 : (f_1152 5).toInt = (f_1139 5).toInt := by rw [ef_1152]; rfl
                            obtain ⟨x_1159, ex_1159⟩ : ∃ y : Int32, y = x_1135 + 1 := ⟨_, rfl⟩
                            refine lv_iinc (v := x_1159) (lv' := [(2, .int x_1159), (5, .int 1), (4, .int r_741), (3, .int 0), (0, .ref A_self), (1, .int a1)]) hx hb dX7_take_110 hl (k := 1) rfl (by rw [ex_1159]; rfl) (by decide) rfl (fun ls hl => ?_)
                            refine lv_goto (tgt := 75) hx hb dX7_take_113 (by decide) ?_
                            refine lv_iload hx hb dX7_take_75 (lv_at hl 1 rfl) ?_
                            refine lv_iload_n hx hb dX7_take_77 rfl (lv_at hl 3 rfl) ?_
                            refine iicmp_leF (a := 1) (b := 0) (tgt := 116) hx hb (by decide) (by decide) dX7_take_78 (by decide) (by decide) ?_
                            refine lv_aload_n hx hb dX7_take_81 rfl (lv_at hl 4 rfl) ?_
                            refine va_get (D := D) (ci := 7) (v := .ref (q 55)) (C := RX7) (T := TX7) (N := 56) hx hb hts (fun _ h => List.mem_cons_of_mem _ (List.mem_append_right _ h)) hown hK hP 0 rfl rfl 55 (by decide) (hts (.fieldLink RX7 118 "CrownTableModel" "cloth" "[I") (mem_i 2 rfl)) (fun _ h9 => h9) rfl dX7_take_82 ?_
                            refine lv_iload hx hb dX7_take_85 (lv_at hl 1 rfl) ?_
                            refine lv_dup2_11 hx hb dX7_take_87 rfl rfl ?_
                            refine va_iald hx hb hK hP 1 1 rfl rfl (vin (a := 1) (by decide) (by decide) (by decide)) dX7_take_88 ?_
                            refine lv_topi (fun x_1160 ex_1160 => ?_)
                            have lf_1161 : (f_1152 1).toInt = x_1160.toInt := by rw [ex_1160]; rfl
                            refine lv_iconst (v := 1) hx hb dX7_take_89 (by decide) ?_
                            refine lv_isub hx hb dX7_take_90 ?_
                            refine lv_topi (fun x_1162 ex_1162 => ?_)
                            have tx_1162 : x_1162.toInt = (x_1160.toInt - 1) := by rw [ex_1162]; exact sub_ti (a := x_1160.toInt) (b := 1) rfl (by decide) (by omega) (by omega)
                            refine va_iast hx hb hK hP hD hS 1 1 rfl rfl (vin (a := 1) (by decide) (by decide) (by decide)) dX7_take_91 (fun H locs hP hD hS => ?_)
                            obtain ⟨f_1163, ef_1163, hP, hD⟩ : ∃ f_1163 : Nat → Int32, f_1163 = upd f_1152 (1 : Int32).toNatClampNeg x_1162 ∧ va_P D vwCl [(A_self, .inr (7, o7 q v w)), (q 55, .inl (c 1, 6, .inl f_1163))] H ∧ va_D A [(A_self, .inr (7, o7 q v w)), (q 55, .inl (c 1, 6, .inl f_1163))] := ⟨_, rfl, hP, hD⟩
                            have cl_1164 : (f_1163 0).toInt = (f_1152 0).toInt := by rw [ef_1163]; rfl
                            have cl_1165 : (f_1163 1).toInt = x_1162.toInt := by rw [ef_1163]; rfl
                            have cl_1166 : (f_1163 2).toInt = (f_1152 2).toInt := by rw [ef_1163]; rfl
                            have cl_1167 : (f_1163 3).toInt = (f_1152 3).toInt := by rw [ef_1163]; rfl
                            have cl_1168 : (f_1163 4).toInt = (f_1152 4).toInt := by rw [ef_1163]; rfl
                            have cl_1169 : (f_1163 5).toInt = (f_1152 5).toInt := by rw [ef_1163]; rfl
                            refine lv_iinc (v := 0) (lv' := [(5, .int 0), (2, .int x_1159), (4, .int r_741), (3, .int 0), (0, .ref A_self), (1, .int a1)]) hx hb dX7_take_92 hl (k := 1) rfl (by decide) (by decide) rfl (fun ls hl => ?_)
                            refine lv_aload_n hx hb dX7_take_95 rfl (lv_at hl 4 rfl) ?_
                            refine va_get (D := D) (ci := 7) (v := .ref (q 55)) (C := RX7) (T := TX7) (N := 56) hx hb hts (fun _ h => List.mem_cons_of_mem _ (List.mem_append_right _ h)) hown hK hP 0 rfl rfl 55 (by decide) (hts (.fieldLink RX7 118 "CrownTableModel" "cloth" "[I") (mem_i 2 rfl)) (fun _ h9 => h9) rfl dX7_take_96 ?_
                            refine lv_iload hx hb dX7_take_99 (lv_at hl 0 rfl) ?_
                            refine lv_dup2_11 hx hb dX7_take_101 rfl rfl ?_
                            refine va_iald hx hb hK hP 1 1 rfl rfl (vin (a := 0) (by decide) (by decide) (by decide)) dX7_take_102 ?_
                            refine lv_topi (fun x_1170 ex_1170 => ?_)
                            have lf_1171 : (f_1163 0).toInt = x_1170.toInt := by rw [ex_1170]; rfl
                            refine lv_iload hx hb dX7_take_103 (lv_at hl 0 rfl) ?_
                            have hPc := hP.sub (ws' := []) [] rfl
                            have hDc := hD.sub (ws' := []) [] (by decide) rfl
                            have hFc := va_free (wc := []) hD hS hA [] rfl
                            have kzz_1172 : (0 : Int32).toInt = 0 := by decide
                            refine va_csi (va_runS (As := [.int 0]) (rest := [.int x_1170, .int 0, .ref (q 55)]) ⟨hx, hb, hml, hown, hts⟩ (k_X7_next l D c ts H.size 0 0 (by decide) (by omega)) (cwS 1 hts gX7_take_X7_next rfl rfl rfl ⟨rfl, hdX7_next⟩ ⟨(show 1 + 1 ≤ 2 by decide), (show 8 + (1 + 11) + 20 ≤ 43 by decide)⟩) ⟨Pre0.blind, Pre0.at hPc hDc hAm hSt hS hFc⟩ rfl rfl hl.1 rfl (lv_room (Nat.le_of_ble_eq_true rfl)) dX7_take_105 ⟨(show 0 + 0 ≤ 0 by decide), (show 0 + 0 ≤ 0 by decide)⟩) (fun r_1174 hw_1173 => ?_)
                            rcases hw_1173 with ⟨hw_1173, rfl⟩ | ⟨hw_1173, rfl⟩ | ⟨hw_1173, rfl⟩ | ⟨hw_1173, rfl⟩
                            · skip
                              refine lv_iadd hx hb dX7_take_108 ?_
                              refine lv_topi (fun x_1175 ex_1175 => ?_)
                              have tx_1175 : x_1175.toInt = (x_1170.toInt + 12) := by rw [ex_1175]; exact add_ti (a := x_1170.toInt) (b := 12) rfl (by decide) (by omega) (by omega)
                              refine va_iast hx hb hK hP hD hS 1 1 rfl rfl (vin (a := 0) (by decide) (by decide) (by decide)) dX7_take_109 (fun H locs hP hD hS => ?_)
                              obtain ⟨f_1176, ef_1176, hP, hD⟩ : ∃ f_1176 : Nat → Int32, f_1176 = upd f_1163 (0 : Int32).toNatClampNeg x_1175 ∧ va_P D vwCl [(A_self, .inr (7, o7 q v w)), (q 55, .inl (c 1, 6, .inl f_1176))] H ∧ va_D A [(A_self, .inr (7, o7 q v w)), (q 55, .inl (c 1, 6, .inl f_1176))] := ⟨_, rfl, hP, hD⟩
                              have cl_1177 : (f_1176 0).toInt = x_1175.toInt := by rw [ef_1176]; rfl
                              have cl_1178 : (f_1176 1).toInt = (f_1163 1).toInt := by rw [ef_1176]; rfl
                              have cl_1179 : (f_1176 2).toInt = (f_1163 2).toInt := by rw [ef_1176]; rfl
                              have cl_1180 : (f_1176 3).toInt = (f_1163 3).toInt := by rw [ef_1176]; rfl
                              have cl_1181 : (f_1176 4).toInt = (f_1163 4).toInt := by rw [ef_1176]; rfl
                              have cl_1182 : (f_1176 5).toInt = (f_1163 5).toInt := by rw [ef_1176]; rfl
                              obtain ⟨x_1183, ex_1183⟩ : ∃ y : Int32, y = x_1159 + 1 := ⟨_, rfl⟩
                              refine lv_iinc (v := x_1183) (lv' := [(2, .int x_1183), (5, .int 0), (4, .int r_741), (3, .int 0), (0, .ref A_self), (1, .int a1)]) hx hb dX7_take_110 hl (k := 1) rfl (by rw [ex_1183]; rfl) (by decide) rfl (fun ls hl => ?_)
                              refine lv_goto (tgt := 75) hx hb dX7_take_113 (by decide) ?_
                              refine lv_iload hx hb dX7_take_75 (lv_at hl 1 rfl) ?_
                              refine lv_iload_n hx hb dX7_take_77 rfl (lv_at hl 3 rfl) ?_
                              refine iicmp_leT (a := 0) (b := 0) (tgt := 116) hx hb (by decide) (by decide) dX7_take_78 (by decide) (by decide) ?_
                              refine lv_goto (tgt := 43) hx hb dX7_take_116 (by decide) ?_
                              refine lv_aload_n hx hb dX7_take_43 rfl (lv_at hl 4 rfl) ?_
                              refine va_get (D := D) (ci := 7) (v := .ref (q 55)) (C := RX7) (T := TX7) (N := 56) hx hb hts (fun _ h => List.mem_cons_of_mem _ (List.mem_append_right _ h)) hown hK hP 0 rfl rfl 55 (by decide) (hts (.fieldLink RX7 118 "CrownTableModel" "cloth" "[I") (mem_i 2 rfl)) (fun _ h9 => h9) rfl dX7_take_44 ?_
                              refine lv_iload_n hx hb dX7_take_47 rfl (lv_at hl 3 rfl) ?_
                              refine va_iald hx hb hK hP 1 1 rfl rfl (vin (a := 0) (by decide) (by decide) (by decide)) dX7_take_48 ?_
                              refine lv_topi (fun x_1184 ex_1184 => ?_)
                              have lf_1185 : (f_1176 0).toInt = x_1184.toInt := by rw [ex_1184]; rfl
                              refine lv_iload hx hb dX7_take_49 (lv_at hl 2 rfl) ?_
                              refine iicmp_ge (a := x_1184.toInt) (b := r_741.toInt) (tgt := 119) hx hb rfl rfl dX7_take_51 (by decide) (fun k_1186 => ?_) (fun k_1186 => ?_)
                              · skip
                                refine lv_aload_n hx hb dX7_take_119 rfl (lv_at hl 4 rfl) ?_
                                refine va_get (D := D) (ci := 7) (v := .ref (q 55)) (C := RX7) (T := TX7) (N := 56) hx hb hts (fun _ h => List.mem_cons_of_mem _ (List.mem_append_right _ h)) hown hK hP 0 rfl rfl 55 (by decide) (hts (.fieldLink RX7 118 "CrownTableModel" "cloth" "[I") (mem_i 2 rfl)) (fun _ h9 => h9) rfl dX7_take_120 ?_
                                refine lv_iload_n hx hb dX7_take_123 rfl (lv_at hl 3 rfl) ?_
                                refine lv_dup2_11 hx hb dX7_take_124 rfl rfl ?_
                                refine va_iald hx hb hK hP 1 1 rfl rfl (vin (a := 0) (by decide) (by decide) (by decide)) dX7_take_125 ?_
                                refine lv_topi (fun x_1187 ex_1187 => ?_)
                                have lf_1188 : (f_1176 0).toInt = x_1187.toInt := by rw [ex_1187]; rfl
                                refine lv_iload hx hb dX7_take_126 (lv_at hl 2 rfl) ?_
                                refine lv_isub hx hb dX7_take_128 ?_
                                refine lv_topi (fun x_1189 ex_1189 => ?_)
                                have tx_1189 : x_1189.toInt = (x_1187.toInt - r_741.toInt) := by rw [ex_1189]; exact sub_ti (a := x_1187.toInt) (b := r_741.toInt) rfl rfl (by omega) (by omega)
                                refine va_iast hx hb hK hP hD hS 1 1 rfl rfl (vin (a := 0) (by decide) (by decide) (by decide)) dX7_take_129 (fun H locs hP hD hS => ?_)
                                obtain ⟨f_1190, ef_1190, hP, hD⟩ : ∃ f_1190 : Nat → Int32, f_1190 = upd f_1176 (0 : Int32).toNatClampNeg x_1189 ∧ va_P D vwCl [(A_self, .inr (7, o7 q v w)), (q 55, .inl (c 1, 6, .inl f_1190))] H ∧ va_D A [(A_self, .inr (7, o7 q v w)), (q 55, .inl (c 1, 6, .inl f_1190))] := ⟨_, rfl, hP, hD⟩
                                have cl_1191 : (f_1190 0).toInt = x_1189.toInt := by rw [ef_1190]; rfl
                                have cl_1192 : (f_1190 1).toInt = (f_1176 1).toInt := by rw [ef_1190]; rfl
                                have cl_1193 : (f_1190 2).toInt = (f_1176 2).toInt := by rw [ef_1190]; rfl
                                have cl_1194 : (f_1190 3).toInt = (f_1176 3).toInt := by rw [ef_1190]; rfl
                                have cl_1195 : (f_1190 4).toInt = (f_1176 4).toInt := by rw [ef_1190]; rfl
                                have cl_1196 : (f_1190 5).toInt = (f_1176 5).toInt := by rw [ef_1190]; rfl
                                refine lv_iinc (v := 1) (lv' := [(3, .int 1), (2, .int x_1183), (5, .int 0), (4, .int r_741), (0, .ref A_self), (1, .int a1)]) hx hb dX7_take_130 hl (k := 3) rfl (by decide) (by decide) rfl (fun ls hl => ?_)
                                refine lv_goto (tgt := 30) hx hb dX7_take_133 (by decide) ?_
                                have hl := lv_sub hl [0, 4, 5, 1] rfl
                                exact lp_30_1 x_1183 f_1190 (by omega) (by omega) (by omega) (by omega) (by omega) (by omega) (by omega) _ _ _ hP hD hS hl
                              · skip
                                exfalso; omega
                            · exfalso; omega
                            · exfalso; omega
                            · exfalso; omega
                          · exfalso; omega
                          · exfalso; omega
                        · exfalso; omega
                        · exfalso; omega
                      · exfalso; omega
                  · skip
                    exfalso; omega
      have kzz_1197 : (0 : Int32).toInt = 0 := by decide
      have hl := lv_sub hl [0, 2, 3, 1] rfl
      exact lp_30_0 0 f_cloth (by omega) (by omega) (by omega) (by omega) (by omega) (by omega) (by omega) _ _ _ hP hD hS hl
    · skip
      refine lv_bipush (v := (-2)) hx hb dX7_take_23 (by decide) ?_
      have kzz_1198 : ((-2) : Int32).toInt = (-2) := by decide
      have hP9 := hP.sub (ws' := [(A_self, .inr (7, o7 q v w)), (q 55, .inl (c 1, 6, .inl f_cloth))]) [0, 1] rfl
      have hD9 := hD.sub (ws' := [(A_self, .inr (7, o7 q v w)), (q 55, .inl (c 1, 6, .inl f_cloth))]) [0, 1] (by decide) rfl
      refine W.widen (k := 0) (n := 0) (by omega) (by omega) ?_
      exact W.iret (v := (-2)) hx hb hr (fun t ht hW => ⟨⟨_, (f_cloth, ()), rfl, ⟨(show 0 ≤ (f_cloth 0).toInt ∧ (f_cloth 0).toInt ≤ 11 by omega), (show 0 ≤ (f_cloth 1).toInt ∧ (f_cloth 1).toInt ≤ 19 by omega), (show 0 ≤ (f_cloth 2).toInt ∧ (f_cloth 2).toInt ≤ 19 by omega), (show 0 ≤ (f_cloth 3).toInt ∧ (f_cloth 3).toInt ≤ 4 by omega), (show 0 ≤ (f_cloth 4).toInt ∧ (f_cloth 4).toInt ≤ 9 by omega), (show 0 ≤ (f_cloth 5).toInt ∧ (f_cloth 5).toInt ≤ cb by omega)⟩, ⟨by rw [ht]; exact hP9, hD9⟩⟩, hS.F ht⟩) hS.2.2 dX7_take_25
  · skip
    refine iif_neF (a := 0) (tgt := 13) hx hb (by decide) dX7_take_8 (by decide) (by decide) ?_
    refine lv_iconst (v := (-1)) hx hb dX7_take_11 (by decide) ?_
    have kzz_1199 : ((-1) : Int32).toInt = (-1) := by decide
    have hP9 := hP.sub (ws' := [(A_self, .inr (7, o7 q v w)), (q 55, .inl (c 1, 6, .inl f_cloth))]) [0, 1] rfl
    have hD9 := hD.sub (ws' := [(A_self, .inr (7, o7 q v w)), (q 55, .inl (c 1, 6, .inl f_cloth))]) [0, 1] (by decide) rfl
    refine W.widen (k := 0) (n := 0) (by omega) (by omega) ?_
    exact W.iret (v := (-1)) hx hb hr (fun t ht hW => ⟨⟨_, (f_cloth, ()), rfl, ⟨(show 0 ≤ (f_cloth 0).toInt ∧ (f_cloth 0).toInt ≤ 11 by omega), (show 0 ≤ (f_cloth 1).toInt ∧ (f_cloth 1).toInt ≤ 19 by omega), (show 0 ≤ (f_cloth 2).toInt ∧ (f_cloth 2).toInt ≤ 19 by omega), (show 0 ≤ (f_cloth 3).toInt ∧ (f_cloth 3).toInt ≤ 4 by omega), (show 0 ≤ (f_cloth 4).toInt ∧ (f_cloth 4).toInt ≤ 9 by omega), (show 0 ≤ (f_cloth 5).toInt ∧ (f_cloth 5).toInt ≤ cb by omega)⟩, ⟨by rw [ht]; exact hP9, hD9⟩⟩, hS.F ht⟩) hS.2.2 dX7_take_12
