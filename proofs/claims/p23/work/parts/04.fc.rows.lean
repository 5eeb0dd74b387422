set_option maxHeartbeats 4000000 in
set_option maxRecDepth 100000 in
theorem k_X0_takeUp (l : Launch) (D : va_G) (c : Nat → ClassId) (ts : Nat × Nat) (sz : Nat) (A_counters : Nat) (A_self : Nat) (f_counters : Nat → Int32) (a1 : Int32) (i_a1 : Int) (hi_a1 : a1.toInt = i_a1) (hv_a1 : 1 ≤ i_a1 ∧ i_a1 ≤ 1000000) (hq0 : 0 ≤ (f_counters 0).toInt ∧ (f_counters 0).toInt ≤ 11) (hq1 : 0 ≤ (f_counters 1).toInt ∧ (f_counters 1).toInt ≤ 19) (hq2 : 0 ≤ (f_counters 2).toInt ∧ (f_counters 2).toInt ≤ 19) (hq3 : 0 ≤ (f_counters 3).toInt ∧ (f_counters 3).toInt ≤ 4) (hq4 : 0 ≤ (f_counters 4).toInt ∧ (f_counters 4).toInt ≤ 9) (hq5 : 0 ≤ (f_counters 5).toInt ∧ (f_counters 5).toInt ≤ 900000) (hq6 : i_a1 ≤ (f_counters 0).toInt + 12 * (f_counters 1).toInt + 240 * (f_counters 2).toInt + 4800 * (f_counters 3).toInt + 24000 * (f_counters 4).toInt + 240000 * (f_counters 5).toInt) : Met l yX0_takeUp wsX0_takeUp ({ frames := 1, cells := 0, slots := 0, locals := 23 }) (va_Pc [.ref A_self, .int a1] (Pre0 D c ts [(A_self, .inr (0, [.ref A_counters])), (A_counters, .inl (c 1, 6, .inl f_counters))] sz)) (va_Qi (fun (r : Int32) (u : (Nat → Int32) × Unit) => (TakI (f_counters 0).toInt (f_counters 1).toInt (f_counters 2).toInt (f_counters 3).toInt (f_counters 4).toInt (f_counters 5).toInt (u.1 0).toInt (u.1 1).toInt (u.1 2).toInt (u.1 3).toInt (u.1 4).toInt (u.1 5).toInt i_a1 r.toInt) ∧ (0 ≤ (u.1 0).toInt ∧ (u.1 0).toInt ≤ 11) ∧ (0 ≤ (u.1 1).toInt ∧ (u.1 1).toInt ≤ 19) ∧ (0 ≤ (u.1 2).toInt ∧ (u.1 2).toInt ≤ 19) ∧ (0 ≤ (u.1 3).toInt ∧ (u.1 3).toInt ≤ 4) ∧ (0 ≤ (u.1 4).toInt ∧ (u.1 4).toInt ≤ 9)) (fun u t => va_P D vwCl [(A_self, .inr (0, [.ref A_counters])), (A_counters, .inl (c 1, 6, .inl u.1))] t.heap ∧ va_D (va_A [(A_self, .inr (0, [.ref A_counters])), (A_counters, .inl (c 1, 6, .inl f_counters))] sz) [(A_self, .inr (0, [.ref A_counters])), (A_counters, .inl (c 1, 6, .inl u.1))]) (va_A [(A_self, .inr (0, [.ref A_counters])), (A_counters, .inl (c 1, 6, .inl f_counters))] sz)) 0 0 (va_A [(A_self, .inr (0, [.ref A_counters])), (A_counters, .inl (c 1, 6, .inl f_counters))] sz) := by
  refine Met.ofW (cc := cX0_takeUp) (maxL := 5) (ret := (some .int)) (by decide) rfl ?_
  intro p e s m args below meth cd s₁ B hml hv
  obtain ⟨rfl, hsz, hP, hD0, hAm, hSt⟩ := hv
  have hx := B.exec
  have hb := B.bytes
  have hr := B.returns
  have hts := atoms_spec (ws := wsX0_takeUp) B.pre
  have hown : s.vm.findClass RX0 = some m.cls := findClass_of_methodNamed B.named
  have hlocks := B.notSynchronized
  have hK := hAm.1
  subst hsz
  have hD := hD0.self (sz := s.heap.size)
  generalize hAe : va_A [(A_self, .inr (0, [.ref A_counters])), (A_counters, .inl (c 1, 6, .inl f_counters))] s.heap.size = A at hD hSt ⊢
  have hA : ∀ q : Nat, s.heap.size ≤ q → A q := fun q h => by rw [← hAe]; exact Or.inr h
  have hS : va_S A s.heap s.heap [] := va_S.rf
  clear hD0 hAe
  have hl := lv_entry ([.ref A_self, .int a1]) (n := 5) (Nat.le_of_ble_eq_true rfl)
  rw [lg_entry_eq]
  generalize (lg_sl ([.ref A_self, .int a1]) ++ List.replicate (5 - (lg_sl ([.ref A_self, .int a1])).length) Slot.unset).toArray = ls at hl ⊢
  have hl : lv_has ls 5 [(0, .ref A_self), (1, .int a1)] := hl
  obtain ⟨n0, n1, n2, n3, n4, n5, hDg⟩ := DgI.ex i_a1
  obtain ⟨nb0, nb1, nb2, nb3, nb4, nb5, nz⟩ := hDg.bd (by omega)
  have tv : n0 + 12 * n1 + 240 * n2 + 4800 * n3 + 24000 * n4 + 240000 * n5 ≤ (f_counters 0).toInt + 12 * (f_counters 1).toInt + 240 * (f_counters 2).toInt + 4800 * (f_counters 3).toInt + 24000 * (f_counters 4).toInt + 240000 * (f_counters 5).toInt := by omega
  clear nz
  clear hq6
  refine lv_iconst (v := 0) hx hb dX0_takeUp_0 (by decide) ?_
  refine lv_istore_n (lv' := [(2, .int 0), (0, .ref A_self), (1, .int a1)]) hx hb dX0_takeUp_1 rfl hl (by decide) rfl (fun ls hl => ?_)
  refine lv_iconst (v := 0) hx hb dX0_takeUp_2 (by decide) ?_
  refine lv_istore_n (lv' := [(3, .int 0), (2, .int 0), (0, .ref A_self), (1, .int a1)]) hx hb dX0_takeUp_3 rfl hl (by decide) rfl (fun ls hl => ?_)
  have lp_4_6 : ∀ (L2 : Int32) (M_counters : Nat → Int32) (hf4_6_0 : 0 ≤ L2.toInt) (hf4_6_1 : L2.toInt ≤ 5) (hf4_6_2 : TkS6 (f_counters 0).toInt (f_counters 1).toInt (f_counters 2).toInt (f_counters 3).toInt (f_counters 4).toInt (f_counters 5).toInt (M_counters 0).toInt (M_counters 1).toInt (M_counters 2).toInt (M_counters 3).toInt (M_counters 4).toInt (M_counters 5).toInt n0 n1 n2 n3 n4 n5 L2.toInt) (hf4_6_3 : 0 ≤ (M_counters 0).toInt ∧ (M_counters 0).toInt ≤ 11) (hf4_6_4 : 0 ≤ (M_counters 1).toInt ∧ (M_counters 1).toInt ≤ 19) (hf4_6_5 : 0 ≤ (M_counters 2).toInt ∧ (M_counters 2).toInt ≤ 19) (hf4_6_6 : 0 ≤ (M_counters 3).toInt ∧ (M_counters 3).toInt ≤ 4) (hf4_6_7 : 0 ≤ (M_counters 4).toInt ∧ (M_counters 4).toInt ≤ 9) (hf4_6_8 : 0 ≤ (M_counters 5).toInt ∧ (M_counters 5).toInt ≤ 900000) (H : Heap) (locs : List Loc) (ls : Array Slot), va_P D vwCl [(A_self, .inr (0, [.ref A_counters])), (A_counters, .inl (c 1, 6, .inl M_counters))] H → va_D A [(A_self, .inr (0, [.ref A_counters])), (A_counters, .inl (c 1, 6, .inl M_counters))] → va_S A s.heap H locs → lv_has ls 5 [(3, .int 6), (0, .ref A_self), (1, .int a1), (2, .int L2)] → W p l e (headSpec wsX0_takeUp ({ frames := 1, cells := 0, slots := 0, locals := 23 })).room s m (([.ref A_self, .int a1] : List Value).toArray) below meth cd H locs 0 0 (MQ below (va_Qi (fun (r : Int32) (u : (Nat → Int32) × Unit) => (TakI (f_counters 0).toInt (f_counters 1).toInt (f_counters 2).toInt (f_counters 3).toInt (f_counters 4).toInt (f_counters 5).toInt (u.1 0).toInt (u.1 1).toInt (u.1 2).toInt (u.1 3).toInt (u.1 4).toInt (u.1 5).toInt i_a1 r.toInt) ∧ (0 ≤ (u.1 0).toInt ∧ (u.1 0).toInt ≤ 11) ∧ (0 ≤ (u.1 1).toInt ∧ (u.1 1).toInt ≤ 19) ∧ (0 ≤ (u.1 2).toInt ∧ (u.1 2).toInt ≤ 19) ∧ (0 ≤ (u.1 3).toInt ∧ (u.1 3).toInt ≤ 4) ∧ (0 ≤ (u.1 4).toInt ∧ (u.1 4).toInt ≤ 9)) (fun u t => va_P D vwCl [(A_self, .inr (0, [.ref A_counters])), (A_counters, .inl (c 1, 6, .inl u.1))] t.heap ∧ va_D A [(A_self, .inr (0, [.ref A_counters])), (A_counters, .inl (c 1, 6, .inl u.1))]) A) ([.ref A_self, .int a1] : List Value).toArray s 0 0 A) (F0 m 4 ls []) := by
    intro L2 M_counters hf4_6_0 hf4_6_1 hf4_6_2 hf4_6_3 hf4_6_4 hf4_6_5 hf4_6_6 hf4_6_7 hf4_6_8 H locs ls hP hD hS hl
    clear tv
    have tle := TkS.le hf4_6_2
    refine lv_iload_n hx hb dX0_takeUp_4 rfl (lv_at hl 0 rfl) ?_
    refine lv_bipush (v := 6) hx hb dX0_takeUp_5 (by decide) ?_
    refine iicmp_geT (a := 6) (b := 6) (tgt := 53) hx hb (by decide) (by decide) dX0_takeUp_7 (by decide) (by decide) ?_
    refine lv_iload_n hx hb dX0_takeUp_53 rfl (lv_at hl 3 rfl) ?_
    have hP9 := hP.sub (ws' := [(A_self, .inr (0, [.ref A_counters])), (A_counters, .inl (c 1, 6, .inl M_counters))]) [0, 1] rfl
    have hD9 := hD.sub (ws' := [(A_self, .inr (0, [.ref A_counters])), (A_counters, .inl (c 1, 6, .inl M_counters))]) [0, 1] (by decide) rfl
    refine W.widen (k := 0) (n := 0) (by omega) (by omega) ?_
    exact W.iret (v := L2) hx hb hr (fun t ht hW => ⟨⟨_, (M_counters, ()), rfl, ⟨(show TakI (f_counters 0).toInt (f_counters 1).toInt (f_counters 2).toInt (f_counters 3).toInt (f_counters 4).toInt (f_counters 5).toInt (M_counters 0).toInt (M_counters 1).toInt (M_counters 2).toInt (M_counters 3).toInt (M_counters 4).toInt (M_counters 5).toInt i_a1 L2.toInt from (TkS.fin hf4_6_2 hDg)), (show 0 ≤ (M_counters 0).toInt ∧ (M_counters 0).toInt ≤ 11 by omega), (show 0 ≤ (M_counters 1).toInt ∧ (M_counters 1).toInt ≤ 19 by omega), (show 0 ≤ (M_counters 2).toInt ∧ (M_counters 2).toInt ≤ 19 by omega), (show 0 ≤ (M_counters 3).toInt ∧ (M_counters 3).toInt ≤ 4 by omega), (show 0 ≤ (M_counters 4).toInt ∧ (M_counters 4).toInt ≤ 9 by omega)⟩, ⟨by rw [ht]; exact hP9, hD9⟩⟩, hS.F ht⟩) hS.2.2 dX0_takeUp_54
  have lp_4_5 : ∀ (L2 : Int32) (M_counters : Nat → Int32) (hf4_5_0 : 0 ≤ L2.toInt) (hf4_5_1 : L2.toInt ≤ 5) (hf4_5_2 : TkS5 (f_counters 0).toInt (f_counters 1).toInt (f_counters 2).toInt (f_counters 3).toInt (f_counters 4).toInt (f_counters 5).toInt (M_counters 0).toInt (M_counters 1).toInt (M_counters 2).toInt (M_counters 3).toInt (M_counters 4).toInt (M_counters 5).toInt n0 n1 n2 n3 n4 n5 L2.toInt) (hf4_5_3 : 0 ≤ (M_counters 0).toInt ∧ (M_counters 0).toInt ≤ 11) (hf4_5_4 : 0 ≤ (M_counters 1).toInt ∧ (M_counters 1).toInt ≤ 19) (hf4_5_5 : 0 ≤ (M_counters 2).toInt ∧ (M_counters 2).toInt ≤ 19) (hf4_5_6 : 0 ≤ (M_counters 3).toInt ∧ (M_counters 3).toInt ≤ 4) (hf4_5_7 : 0 ≤ (M_counters 4).toInt ∧ (M_counters 4).toInt ≤ 9) (hf4_5_8 : 0 ≤ (M_counters 5).toInt ∧ (M_counters 5).toInt ≤ 900000) (H : Heap) (locs : List Loc) (ls : Array Slot), va_P D vwCl [(A_self, .inr (0, [.ref A_counters])), (A_counters, .inl (c 1, 6, .inl M_counters))] H → va_D A [(A_self, .inr (0, [.ref A_counters])), (A_counters, .inl (c 1, 6, .inl M_counters))] → va_S A s.heap H locs → lv_has ls 5 [(3, .int 5), (0, .ref A_self), (1, .int a1), (2, .int L2)] → W p l e (headSpec wsX0_takeUp ({ frames := 1, cells := 0, slots := 0, locals := 23 })).room s m (([.ref A_self, .int a1] : List Value).toArray) below meth cd H locs 0 0 (MQ below (va_Qi (fun (r : Int32) (u : (Nat → Int32) × Unit) => (TakI (f_counters 0).toInt (f_counters 1).toInt (f_counters 2).toInt (f_counters 3).toInt (f_counters 4).toInt (f_counters 5).toInt (u.1 0).toInt (u.1 1).toInt (u.1 2).toInt (u.1 3).toInt (u.1 4).toInt (u.1 5).toInt i_a1 r.toInt) ∧ (0 ≤ (u.1 0).toInt ∧ (u.1 0).toInt ≤ 11) ∧ (0 ≤ (u.1 1).toInt ∧ (u.1 1).toInt ≤ 19) ∧ (0 ≤ (u.1 2).toInt ∧ (u.1 2).toInt ≤ 19) ∧ (0 ≤ (u.1 3).toInt ∧ (u.1 3).toInt ≤ 4) ∧ (0 ≤ (u.1 4).toInt ∧ (u.1 4).toInt ≤ 9)) (fun u t => va_P D vwCl [(A_self, .inr (0, [.ref A_counters])), (A_counters, .inl (c 1, 6, .inl u.1))] t.heap ∧ va_D A [(A_self, .inr (0, [.ref A_counters])), (A_counters, .inl (c 1, 6, .inl u.1))]) A) ([.ref A_self, .int a1] : List Value).toArray s 0 0 A) (F0 m 4 ls []) := by
    intro L2 M_counters hf4_5_0 hf4_5_1 hf4_5_2 hf4_5_3 hf4_5_4 hf4_5_5 hf4_5_6 hf4_5_7 hf4_5_8 H locs ls hP hD hS hl
    clear tv
    refine lv_iload_n hx hb dX0_takeUp_4 rfl (lv_at hl 0 rfl) ?_
    refine lv_bipush (v := 6) hx hb dX0_takeUp_5 (by decide) ?_
    refine iicmp_geF (a := 5) (b := 6) (tgt := 53) hx hb (by decide) (by decide) dX0_takeUp_7 (by decide) (by decide) ?_
    refine lv_iload_n hx hb dX0_takeUp_10 rfl (lv_at hl 2 rfl) ?_
    refine lv_iload_n hx hb dX0_takeUp_11 rfl (lv_at hl 0 rfl) ?_
    have hPc := hP.sub (ws' := []) [] rfl
    have hDc := hD.sub (ws' := []) [] (by decide) rfl
    have hFc := va_free (wc := []) hD hS hA [] rfl
    have kzz_1 : (5 : Int32).toInt = 5 := by decide
    refine va_csi (va_runS (As := [.int a1, .int 5]) (rest := []) ⟨hx, hb, hml, hown, hts⟩ (k_X0_notches_P l D c ts H.size a1 i_a1 hi_a1 5 5 (by decide) (by omega) (by omega)) (cwS 2 hts gX0_takeUp_X0_notches rfl rfl rfl ⟨rfl, hdX0_notches⟩ ⟨(show 0 + 1 ≤ 1 by decide), (show 8 + (2 + 11) + 0 ≤ 23 by decide)⟩) ⟨Pre0.blind, Pre0.at hPc hDc hAm hSt hS hFc⟩ rfl rfl hl.1 rfl (lv_room (Nat.le_of_ble_eq_true rfl)) dX0_takeUp_12 ⟨(show 0 + 0 ≤ 0 by decide), (show 0 + 0 ≤ 0 by decide)⟩) (fun r_3 hw_2 => ?_)
    have nf_4 : r_3.toInt = n5 := (hw_2.2.2.2.2.2.2 rfl).trans hDg.2.2.2.2.2
    clear hw_2
    have rg_r_3 := i32r r_3
    refine lv_istore (lv' := [(4, .int r_3), (3, .int 5), (0, .ref A_self), (1, .int a1), (2, .int L2)]) hx hb dX0_takeUp_15 hl (by decide) rfl (fun ls hl => ?_)
    refine lv_aload_n hx hb dX0_takeUp_17 rfl (lv_at hl 2 rfl) ?_
    refine va_get (D := D) (ci := 0) (v := .ref A_counters) (C := RX0) (T := TX0) (N := 1) hx hb hts (fun _ h => List.mem_cons_of_mem _ (List.mem_append_right _ h)) hown hK hP 0 rfl rfl 0 (by decide) (hts (.fieldLink RX0 9 "CrownTable$Cloth" "counters" "[I") (mem_i 1 rfl)) (fun _ h9 => h9) rfl dX0_takeUp_18 ?_
    refine lv_iload_n hx hb dX0_takeUp_21 rfl (lv_at hl 1 rfl) ?_
    refine va_iald hx hb hK hP 1 1 rfl rfl (vin (a := 5) (by decide) (by decide) (by decide)) dX0_takeUp_22 ?_
    refine lv_topi (fun x_5 ex_5 => ?_)
    have lf_6 : (M_counters 5).toInt = x_5.toInt := by rw [ex_5]; rfl
    refine lv_iload hx hb dX0_takeUp_23 (lv_at hl 0 rfl) ?_
    refine iicmp_ge (a := x_5.toInt) (b := r_3.toInt) (tgt := 36) hx hb rfl rfl dX0_takeUp_25 (by decide) (fun k_7 => ?_) (fun k_7 => ?_)
    · skip
      refine lv_aload_n hx hb dX0_takeUp_36 rfl (lv_at hl 2 rfl) ?_
      refine va_get (D := D) (ci := 0) (v := .ref A_counters) (C := RX0) (T := TX0) (N := 1) hx hb hts (fun _ h => List.mem_cons_of_mem _ (List.mem_append_right _ h)) hown hK hP 0 rfl rfl 0 (by decide) (hts (.fieldLink RX0 9 "CrownTable$Cloth" "counters" "[I") (mem_i 1 rfl)) (fun _ h9 => h9) rfl dX0_takeUp_37 ?_
      refine lv_iload_n hx hb dX0_takeUp_40 rfl (lv_at hl 1 rfl) ?_
      refine lv_dup2_11 hx hb dX0_takeUp_41 rfl rfl ?_
      refine va_iald hx hb hK hP 1 1 rfl rfl (vin (a := 5) (by decide) (by decide) (by decide)) dX0_takeUp_42 ?_
      refine lv_topi (fun x_8 ex_8 => ?_)
      have lf_9 : (M_counters 5).toInt = x_8.toInt := by rw [ex_8]; rfl
      refine lv_iload hx hb dX0_takeUp_43 (lv_at hl 0 rfl) ?_
      refine lv_isub hx hb dX0_takeUp_45 ?_
      refine lv_topi (fun x_10 ex_10 => ?_)
      have tx_10 : x_10.toInt = (x_8.toInt - r_3.toInt) := by rw [ex_10]; exact sub_ti (a := x_8.toInt) (b := r_3.toInt) rfl rfl (by omega) (by omega)
      refine va_iast hx hb hK hP hD hS 1 1 rfl rfl (vin (a := 5) (by decide) (by decide) (by decide)) dX0_takeUp_46 (fun H locs hP hD hS => ?_)
      obtain ⟨f_11, ef_11, hP, hD⟩ : ∃ f_11 : Nat → Int32, f_11 = upd M_counters (5 : Int32).toNatClampNeg x_10 ∧ va_P D vwCl [(A_self, .inr (0, [.ref A_counters])), (A_counters, .inl (c 1, 6, .inl f_11))] H ∧ va_D A [(A_self, .inr (0, [.ref A_counters])), (A_counters, .inl (c 1, 6, .inl f_11))] := ⟨_, rfl, hP, hD⟩
      have cl_12 : (f_11 0).toInt = (M_counters 0).toInt := by rw [ef_11]; rfl
      have cl_13 : (f_11 1).toInt = (M_counters 1).toInt := by rw [ef_11]; rfl
      have cl_14 : (f_11 2).toInt = (M_counters 2).toInt := by rw [ef_11]; rfl
      have cl_15 : (f_11 3).toInt = (M_counters 3).toInt := by rw [ef_11]; rfl
      have cl_16 : (f_11 4).toInt = (M_counters 4).toInt := by rw [ef_11]; rfl
      have cl_17 : (f_11 5).toInt = x_10.toInt := by rw [ef_11]; rfl
      refine lv_iinc (v := 6) (lv' := [(3, .int 6), (4, .int r_3), (0, .ref A_self), (1, .int a1), (2, .int L2)]) hx hb dX0_takeUp_47 hl (k := 1) rfl (by decide) (by decide) rfl (fun ls hl => ?_)
      refine lv_goto (tgt := 4) hx hb dX0_takeUp_50 (by decide) ?_
      obtain ⟨ts, td0, td1, td2, td3, td4, td5, tl⟩ := TkS.s5 (d0 := (f_11 0).toInt) (d1 := (f_11 1).toInt) (d2 := (f_11 2).toInt) (d3 := (f_11 3).toInt) (d4 := (f_11 4).toInt) (d5 := (f_11 5).toInt) hf4_5_2 (by omega) (by omega) (by omega) (by omega) (by omega) (by omega) (by omega)
      have hl := lv_sub hl [0, 2, 3, 4] rfl
      exact lp_4_6 L2 f_11 (by omega) (by omega) ts td0 td1 td2 td3 td4 td5 _ _ _ hP hD hS hl
    · skip
      exact (TkS.n5 hf4_5_2 (by omega)).elim
  have lp_4_4 : ∀ (L2 : Int32) (M_counters : Nat → Int32) (hf4_4_0 : 0 ≤ L2.toInt) (hf4_4_1 : L2.toInt ≤ 5) (hf4_4_2 : TkS4 (f_counters 0).toInt (f_counters 1).toInt (f_counters 2).toInt (f_counters 3).toInt (f_counters 4).toInt (f_counters 5).toInt (M_counters 0).toInt (M_counters 1).toInt (M_counters 2).toInt (M_counters 3).toInt (M_counters 4).toInt (M_counters 5).toInt n0 n1 n2 n3 n4 n5 L2.toInt) (hf4_4_3 : 0 ≤ (M_counters 0).toInt ∧ (M_counters 0).toInt ≤ 11) (hf4_4_4 : 0 ≤ (M_counters 1).toInt ∧ (M_counters 1).toInt ≤ 19) (hf4_4_5 : 0 ≤ (M_counters 2).toInt ∧ (M_counters 2).toInt ≤ 19) (hf4_4_6 : 0 ≤ (M_counters 3).toInt ∧ (M_counters 3).toInt ≤ 4) (hf4_4_7 : 0 ≤ (M_counters 4).toInt ∧ (M_counters 4).toInt ≤ 9) (hf4_4_8 : 0 ≤ (M_counters 5).toInt ∧ (M_counters 5).toInt ≤ 900000) (H : Heap) (locs : List Loc) (ls : Array Slot), va_P D vwCl [(A_self, .inr (0, [.ref A_counters])), (A_counters, .inl (c 1, 6, .inl M_counters))] H → va_D A [(A_self, .inr (0, [.ref A_counters])), (A_counters, .inl (c 1, 6, .inl M_counters))] → va_S A s.heap H locs → lv_has ls 5 [(3, .int 4), (0, .ref A_self), (1, .int a1), (2, .int L2)] → W p l e (headSpec wsX0_takeUp ({ frames := 1, cells := 0, slots := 0, locals := 23 })).room s m (([.ref A_self, .int a1] : List Value).toArray) below meth cd H locs 0 0 (MQ below (va_Qi (fun (r : Int32) (u : (Nat → Int32) × Unit) => (TakI (f_counters 0).toInt (f_counters 1).toInt (f_counters 2).toInt (f_counters 3).toInt (f_counters 4).toInt (f_counters 5).toInt (u.1 0).toInt (u.1 1).toInt (u.1 2).toInt (u.1 3).toInt (u.1 4).toInt (u.1 5).toInt i_a1 r.toInt) ∧ (0 ≤ (u.1 0).toInt ∧ (u.1 0).toInt ≤ 11) ∧ (0 ≤ (u.1 1).toInt ∧ (u.1 1).toInt ≤ 19) ∧ (0 ≤ (u.1 2).toInt ∧ (u.1 2).toInt ≤ 19) ∧ (0 ≤ (u.1 3).toInt ∧ (u.1 3).toInt ≤ 4) ∧ (0 ≤ (u.1 4).toInt ∧ (u.1 4).toInt ≤ 9)) (fun u t => va_P D vwCl [(A_self, .inr (0, [.ref A_counters])), (A_counters, .inl (c 1, 6, .inl u.1))] t.heap ∧ va_D A [(A_self, .inr (0, [.ref A_counters])), (A_counters, .inl (c 1, 6, .inl u.1))]) A) ([.ref A_self, .int a1] : List Value).toArray s 0 0 A) (F0 m 4 ls []) := by
    intro L2 M_counters hf4_4_0 hf4_4_1 hf4_4_2 hf4_4_3 hf4_4_4 hf4_4_5 hf4_4_6 hf4_4_7 hf4_4_8 H locs ls hP hD hS hl
    clear tv
    refine lv_iload_n hx hb dX0_takeUp_4 rfl (lv_at hl 0 rfl) ?_
    refine lv_bipush (v := 6) hx hb dX0_takeUp_5 (by decide) ?_
    refine iicmp_geF (a := 4) (b := 6) (tgt := 53) hx hb (by decide) (by decide) dX0_takeUp_7 (by decide) (by decide) ?_
    refine lv_iload_n hx hb dX0_takeUp_10 rfl (lv_at hl 2 rfl) ?_
    refine lv_iload_n hx hb dX0_takeUp_11 rfl (lv_at hl 0 rfl) ?_
    have hPc := hP.sub (ws' := []) [] rfl
    have hDc := hD.sub (ws' := []) [] (by decide) rfl
    have hFc := va_free (wc := []) hD hS hA [] rfl
    have kzz_18 : (4 : Int32).toInt = 4 := by decide
    refine va_csi (va_runS (As := [.int a1, .int 4]) (rest := []) ⟨hx, hb, hml, hown, hts⟩ (k_X0_notches_P l D c ts H.size a1 i_a1 hi_a1 4 4 (by decide) (by omega) (by omega)) (cwS 2 hts gX0_takeUp_X0_notches rfl rfl rfl ⟨rfl, hdX0_notches⟩ ⟨(show 0 + 1 ≤ 1 by decide), (show 8 + (2 + 11) + 0 ≤ 23 by decide)⟩) ⟨Pre0.blind, Pre0.at hPc hDc hAm hSt hS hFc⟩ rfl rfl hl.1 rfl (lv_room (Nat.le_of_ble_eq_true rfl)) dX0_takeUp_12 ⟨(show 0 + 0 ≤ 0 by decide), (show 0 + 0 ≤ 0 by decide)⟩) (fun r_20 hw_19 => ?_)
    have nf_21 : r_20.toInt = n4 := (hw_19.2.2.2.2.2.1 rfl).trans hDg.2.2.2.2.1
    clear hw_19
    have rg_r_20 := i32r r_20
    refine lv_istore (lv' := [(4, .int r_20), (3, .int 4), (0, .ref A_self), (1, .int a1), (2, .int L2)]) hx hb dX0_takeUp_15 hl (by decide) rfl (fun ls hl => ?_)
    refine lv_aload_n hx hb dX0_takeUp_17 rfl (lv_at hl 2 rfl) ?_
    refine va_get (D := D) (ci := 0) (v := .ref A_counters) (C := RX0) (T := TX0) (N := 1) hx hb hts (fun _ h => List.mem_cons_of_mem _ (List.mem_append_right _ h)) hown hK hP 0 rfl rfl 0 (by decide) (hts (.fieldLink RX0 9 "CrownTable$Cloth" "counters" "[I") (mem_i 1 rfl)) (fun _ h9 => h9) rfl dX0_takeUp_18 ?_
    refine lv_iload_n hx hb dX0_takeUp_21 rfl (lv_at hl 1 rfl) ?_
    refine va_iald hx hb hK hP 1 1 rfl rfl (vin (a := 4) (by decide) (by decide) (by decide)) dX0_takeUp_22 ?_
    refine lv_topi (fun x_22 ex_22 => ?_)
    have lf_23 : (M_counters 4).toInt = x_22.toInt := by rw [ex_22]; rfl
    refine lv_iload hx hb dX0_takeUp_23 (lv_at hl 0 rfl) ?_
    refine iicmp_ge (a := x_22.toInt) (b := r_20.toInt) (tgt := 36) hx hb rfl rfl dX0_takeUp_25 (by decide) (fun k_24 => ?_) (fun k_24 => ?_)
    · skip
      refine lv_aload_n hx hb dX0_takeUp_36 rfl (lv_at hl 2 rfl) ?_
      refine va_get (D := D) (ci := 0) (v := .ref A_counters) (C := RX0) (T := TX0) (N := 1) hx hb hts (fun _ h => List.mem_cons_of_mem _ (List.mem_append_right _ h)) hown hK hP 0 rfl rfl 0 (by decide) (hts (.fieldLink RX0 9 "CrownTable$Cloth" "counters" "[I") (mem_i 1 rfl)) (fun _ h9 => h9) rfl dX0_takeUp_37 ?_
      refine lv_iload_n hx hb dX0_takeUp_40 rfl (lv_at hl 1 rfl) ?_
      refine lv_dup2_11 hx hb dX0_takeUp_41 rfl rfl ?_
      refine va_iald hx hb hK hP 1 1 rfl rfl (vin (a := 4) (by decide) (by decide) (by decide)) dX0_takeUp_42 ?_
      refine lv_topi (fun x_25 ex_25 => ?_)
      have lf_26 : (M_counters 4).toInt = x_25.toInt := by rw [ex_25]; rfl
      refine lv_iload hx hb dX0_takeUp_43 (lv_at hl 0 rfl) ?_
      refine lv_isub hx hb dX0_takeUp_45 ?_
      refine lv_topi (fun x_27 ex_27 => ?_)
      have tx_27 : x_27.toInt = (x_25.toInt - r_20.toInt) := by rw [ex_27]; exact sub_ti (a := x_25.toInt) (b := r_20.toInt) rfl rfl (by omega) (by omega)
      refine va_iast hx hb hK hP hD hS 1 1 rfl rfl (vin (a := 4) (by decide) (by decide) (by decide)) dX0_takeUp_46 (fun H locs hP hD hS => ?_)
      obtain ⟨f_28, ef_28, hP, hD⟩ : ∃ f_28 : Nat → Int32, f_28 = upd M_counters (4 : Int32).toNatClampNeg x_27 ∧ va_P D vwCl [(A_self, .inr (0, [.ref A_counters])), (A_counters, .inl (c 1, 6, .inl f_28))] H ∧ va_D A [(A_self, .inr (0, [.ref A_counters])), (A_counters, .inl (c 1, 6, .inl f_28))] := ⟨_, rfl, hP, hD⟩
      have cl_29 : (f_28 0).toInt = (M_counters 0).toInt := by rw [ef_28]; rfl
      have cl_30 : (f_28 1).toInt = (M_counters 1).toInt := by rw [ef_28]; rfl
      have cl_31 : (f_28 2).toInt = (M_counters 2).toInt := by rw [ef_28]; rfl
      have cl_32 : (f_28 3).toInt = (M_counters 3).toInt := by rw [ef_28]; rfl
      have cl_33 : (f_28 4).toInt = x_27.toInt := by rw [ef_28]; rfl
      have cl_34 : (f_28 5).toInt = (M_counters 5).toInt := by rw [ef_28]; rfl
      refine lv_iinc (v := 5) (lv' := [(3, .int 5), (4, .int r_20), (0, .ref A_self), (1, .int a1), (2, .int L2)]) hx hb dX0_takeUp_47 hl (k := 1) rfl (by decide) (by decide) rfl (fun ls hl => ?_)
      refine lv_goto (tgt := 4) hx hb dX0_takeUp_50 (by decide) ?_
      obtain ⟨ts, td0, td1, td2, td3, td4, td5, tl⟩ := TkS.s4 (d0 := (f_28 0).toInt) (d1 := (f_28 1).toInt) (d2 := (f_28 2).toInt) (d3 := (f_28 3).toInt) (d4 := (f_28 4).toInt) (d5 := (f_28 5).toInt) hf4_4_2 (by omega) (by omega) (by omega) (by omega) (by omega) (by omega) (by omega)
      have hl := lv_sub hl [0, 2, 3, 4] rfl
      exact lp_4_5 L2 f_28 (by omega) (by omega) ts td0 td1 td2 td3 td4 td5 _ _ _ hP hD hS hl
    · skip
      refine lv_iload_n hx hb dX0_takeUp_28 rfl (lv_at hl 4 rfl) ?_
      refine lv_aload_n hx hb dX0_takeUp_29 rfl (lv_at hl 2 rfl) ?_
      refine lv_iload_n hx hb dX0_takeUp_30 rfl (lv_at hl 1 rfl) ?_
      have hPc := hP.sub (ws' := [(A_self, .inr (0, [.ref A_counters])), (A_counters, .inl (c 1, 6, .inl M_counters))]) [0, 1] rfl
      have hDc := hD.sub (ws' := [(A_self, .inr (0, [.ref A_counters])), (A_counters, .inl (c 1, 6, .inl M_counters))]) [0, 1] (by decide) rfl
      have hFc := va_free (wc := [(A_self, .inr (0, [.ref A_counters])), (A_counters, .inl (c 1, 6, .inl M_counters))]) hD hS hA [0, 1] rfl
      have kzz_35 : (4 : Int32).toInt = 4 := by decide
      refine va_calli (va_runV (As := [.int 4]) (rest := [.int L2]) ⟨hx, hb, hml, hown, hts⟩ (k_X0_bringDown l D c ts H.size A_counters A_self M_counters 4 4 (by decide) (by omega) (by omega) (by omega) (by omega) (by omega) (by omega) (by omega)) (cwV 1 hts gX0_takeUp_X0_bringDown rfl rfl rfl ⟨rfl, hdX0_bringDown⟩ ⟨(show 0 + 1 ≤ 1 by decide), (show 8 + (4 + 11) + 0 ≤ 23 by decide)⟩) ⟨Pre0.blind, va_recv hK hPc (ci := 0) (q0 := 0) rfl rfl, Pre0.at hPc hDc hAm hSt hS hFc⟩ rfl rfl hl.1 rfl (lv_room (Nat.le_of_ble_eq_true rfl)) dX0_takeUp_31 ⟨(show 0 + 0 ≤ 0 by decide), (show 0 + 0 ≤ 0 by decide)⟩) hS (fun q _ h => hFc q h) hFc (fun r_37 u_38 t1 H locs ht hvm hw_36 hB_9 hz1_9 hk1_9 hS => ?_)
      obtain ⟨f_39, _⟩ := u_38
      have hw_36 : (BdI (4 : Int) (M_counters 0).toInt (M_counters 1).toInt (M_counters 2).toInt (M_counters 3).toInt (M_counters 4).toInt (M_counters 5).toInt (f_39 0).toInt (f_39 1).toInt (f_39 2).toInt (f_39 3).toInt (f_39 4).toInt (f_39 5).toInt r_37.toInt) := hw_36
      obtain ⟨hP1_9, hD1_9⟩ := hB_9
      rw [ht] at hP1_9
      have hP1_9 : va_P D vwCl [(A_self, .inr (0, [.ref A_counters])), (A_counters, .inl (c 1, 6, .inl f_39))] H := hP1_9
      obtain ⟨hP, hD⟩ := va_join (wr := []) (w1 := [(A_self, .inr (0, [.ref A_counters])), (A_counters, .inl (c 1, 6, .inl f_39))]) hP hD [0, 1] [] rfl rfl (by decide) (by decide) hk1_9 hFc hP1_9 hD1_9
      have hP : va_P D vwCl [(A_self, .inr (0, [.ref A_counters])), (A_counters, .inl (c 1, 6, .inl f_39))] H := hP
      have hD : va_D A [(A_self, .inr (0, [.ref A_counters])), (A_counters, .inl (c 1, 6, .inl f_39))] := hD
      refine W.widen (k := 0) (n := 0) (by omega) (by omega) ?_
      have rg_r_37 := i32r r_37
      have bd9 := BdI.e4 hw_36
      rcases bd9 with ⟨bd_0, bd_1, bd_2, bd_3, bd_4, bd_5, bd_6, bd_7⟩ | ⟨bd_0, bd_1, bd_2, bd_3, bd_4, bd_5, bd_6, bd_7⟩
      · skip
        refine lv_iadd hx hb dX0_takeUp_34 ?_
        refine lv_topi (fun x_40 ex_40 => ?_)
        have tx_40 : x_40.toInt = (L2.toInt + r_37.toInt) := by rw [ex_40]; exact add_ti (a := L2.toInt) (b := r_37.toInt) rfl rfl (by omega) (by omega)
        refine lv_istore_n (lv' := [(2, .int x_40), (4, .int r_20), (3, .int 4), (0, .ref A_self), (1, .int a1)]) hx hb dX0_takeUp_35 rfl hl (by decide) rfl (fun ls hl => ?_)
        refine lv_aload_n hx hb dX0_takeUp_36 rfl (lv_at hl 3 rfl) ?_
        refine va_get (D := D) (ci := 0) (v := .ref A_counters) (C := RX0) (T := TX0) (N := 1) hx hb hts (fun _ h => List.mem_cons_of_mem _ (List.mem_append_right _ h)) hown hK hP 0 rfl rfl 0 (by decide) (hts (.fieldLink RX0 9 "CrownTable$Cloth" "counters" "[I") (mem_i 1 rfl)) (fun _ h9 => h9) rfl dX0_takeUp_37 ?_
        refine lv_iload_n hx hb dX0_takeUp_40 rfl (lv_at hl 2 rfl) ?_
        refine lv_dup2_11 hx hb dX0_takeUp_41 rfl rfl ?_
        refine va_iald hx hb hK hP 1 1 rfl rfl (vin (a := 4) (by decide) (by decide) (by decide)) dX0_takeUp_42 ?_
        refine lv_topi (fun x_41 ex_41 => ?_)
        have lf_42 : (f_39 4).toInt = x_41.toInt := by rw [ex_41]; rfl
        refine lv_iload hx hb dX0_takeUp_43 (lv_at hl 1 rfl) ?_
        refine lv_isub hx hb dX0_takeUp_45 ?_
        refine lv_topi (fun x_43 ex_43 => ?_)
        have tx_43 : x_43.toInt = (x_41.toInt - r_20.toInt) := by rw [ex_43]; exact sub_ti (a := x_41.toInt) (b := r_20.toInt) rfl rfl (by omega) (by omega)
        refine va_iast hx hb hK hP hD hS 1 1 rfl rfl (vin (a := 4) (by decide) (by decide) (by decide)) dX0_takeUp_46 (fun H locs hP hD hS => ?_)
        obtain ⟨f_44, ef_44, hP, hD⟩ : ∃ f_44 : Nat → Int32, f_44 = upd f_39 (4 : Int32).toNatClampNeg x_43 ∧ va_P D vwCl [(A_self, .inr (0, [.ref A_counters])), (A_counters, .inl (c 1, 6, .inl f_44))] H ∧ va_D A [(A_self, .inr (0, [.ref A_counters])), (A_counters, .inl (c 1, 6, .inl f_44))] := ⟨_, rfl, hP, hD⟩
        have cl_45 : (f_44 0).toInt = (f_39 0).toInt := by rw [ef_44]; rfl
        have cl_46 : (f_44 1).toInt = (f_39 1).toInt := by rw [ef_44]; rfl
        have cl_47 : (f_44 2).toInt = (f_39 2).toInt := by rw [ef_44]; rfl
        have cl_48 : (f_44 3).toInt = (f_39 3).toInt := by rw [ef_44]; rfl
        have cl_49 : (f_44 4).toInt = x_43.toInt := by rw [ef_44]; rfl
        have cl_50 : (f_44 5).toInt = (f_39 5).toInt := by rw [ef_44]; rfl
        refine lv_iinc (v := 5) (lv' := [(3, .int 5), (2, .int x_40), (4, .int r_20), (0, .ref A_self), (1, .int a1)]) hx hb dX0_takeUp_47 hl (k := 2) rfl (by decide) (by decide) rfl (fun ls hl => ?_)
        refine lv_goto (tgt := 4) hx hb dX0_takeUp_50 (by decide) ?_
        obtain ⟨ts, td0, td1, td2, td3, td4, td5, tl⟩ := TkS.b4_5 (d0 := (f_44 0).toInt) (d1 := (f_44 1).toInt) (d2 := (f_44 2).toInt) (d3 := (f_44 3).toInt) (d4 := (f_44 4).toInt) (d5 := (f_44 5).toInt) (L1 := x_40.toInt) hf4_4_2 (by omega) (by omega) (by omega) (by omega) (by omega) (by omega) (by omega) (by omega) (by omega)
        have hl := lv_sub hl [0, 3, 4, 1] rfl
        exact lp_4_5 x_40 f_44 (by omega) (by omega) ts td0 td1 td2 td3 td4 td5 _ _ _ hP hD hS hl
      · skip
        exact (TkS.n4 hf4_4_2 (by omega) (by omega)).elim
  have lp_4_3 : ∀ (L2 : Int32) (M_counters : Nat → Int32) (hf4_3_0 : 0 ≤ L2.toInt) (hf4_3_1 : L2.toInt ≤ 5) (hf4_3_2 : TkS3 (f_counters 0).toInt (f_counters 1).toInt (f_counters 2).toInt (f_counters 3).toInt (f_counters 4).toInt (f_counters 5).toInt (M_counters 0).toInt (M_counters 1).toInt (M_counters 2).toInt (M_counters 3).toInt (M_counters 4).toInt (M_counters 5).toInt n0 n1 n2 n3 n4 n5 L2.toInt) (hf4_3_3 : 0 ≤ (M_counters 0).toInt ∧ (M_counters 0).toInt ≤ 11) (hf4_3_4 : 0 ≤ (M_counters 1).toInt ∧ (M_counters 1).toInt ≤ 19) (hf4_3_5 : 0 ≤ (M_counters 2).toInt ∧ (M_counters 2).toInt ≤ 19) (hf4_3_6 : 0 ≤ (M_counters 3).toInt ∧ (M_counters 3).toInt ≤ 4) (hf4_3_7 : 0 ≤ (M_counters 4).toInt ∧ (M_counters 4).toInt ≤ 9) (hf4_3_8 : 0 ≤ (M_counters 5).toInt ∧ (M_counters 5).toInt ≤ 900000) (H : Heap) (locs : List Loc) (ls : Array Slot), va_P D vwCl [(A_self, .inr (0, [.ref A_counters])), (A_counters, .inl (c 1, 6, .inl M_counters))] H → va_D A [(A_self, .inr (0, [.ref A_counters])), (A_counters, .inl (c 1, 6, .inl M_counters))] → va_S A s.heap H locs → lv_has ls 5 [(3, .int 3), (0, .ref A_self), (1, .int a1), (2, .int L2)] → W p l e (headSpec wsX0_takeUp ({ frames := 1, cells := 0, slots := 0, locals := 23 })).room s m (([.ref A_self, .int a1] : List Value).toArray) below meth cd H locs 0 0 (MQ below (va_Qi (fun (r : Int32) (u : (Nat → Int32) × Unit) => (TakI (f_counters 0).toInt (f_counters 1).toInt (f_counters 2).toInt (f_counters 3).toInt (f_counters 4).toInt (f_counters 5).toInt (u.1 0).toInt (u.1 1).toInt (u.1 2).toInt (u.1 3).toInt (u.1 4).toInt (u.1 5).toInt i_a1 r.toInt) ∧ (0 ≤ (u.1 0).toInt ∧ (u.1 0).toInt ≤ 11) ∧ (0 ≤ (u.1 1).toInt ∧ (u.1 1).toInt ≤ 19) ∧ (0 ≤ (u.1 2).toInt ∧ (u.1 2).toInt ≤ 19) ∧ (0 ≤ (u.1 3).toInt ∧ (u.1 3).toInt ≤ 4) ∧ (0 ≤ (u.1 4).toInt ∧ (u.1 4).toInt ≤ 9)) (fun u t => va_P D vwCl [(A_self, .inr (0, [.ref A_counters])), (A_counters, .inl (c 1, 6, .inl u.1))] t.heap ∧ va_D A [(A_self, .inr (0, [.ref A_counters])), (A_counters, .inl (c 1, 6, .inl u.1))]) A) ([.ref A_self, .int a1] : List Value).toArray s 0 0 A) (F0 m 4 ls []) := by
    intro L2 M_counters hf4_3_0 hf4_3_1 hf4_3_2 hf4_3_3 hf4_3_4 hf4_3_5 hf4_3_6 hf4_3_7 hf4_3_8 H locs ls hP hD hS hl
    clear tv
    refine lv_iload_n hx hb dX0_takeUp_4 rfl (lv_at hl 0 rfl) ?_
    refine lv_bipush (v := 6) hx hb dX0_takeUp_5 (by decide) ?_
    refine iicmp_geF (a := 3) (b := 6) (tgt := 53) hx hb (by decide) (by decide) dX0_takeUp_7 (by decide) (by decide) ?_
    refine lv_iload_n hx hb dX0_takeUp_10 rfl (lv_at hl 2 rfl) ?_
    refine lv_iload_n hx hb dX0_takeUp_11 rfl (lv_at hl 0 rfl) ?_
    have hPc := hP.sub (ws' := []) [] rfl
    have hDc := hD.sub (ws' := []) [] (by decide) rfl
    have hFc := va_free (wc := []) hD hS hA [] rfl
    have kzz_51 : (3 : Int32).toInt = 3 := by decide
    refine va_csi (va_runS (As := [.int a1, .int 3]) (rest := []) ⟨hx, hb, hml, hown, hts⟩ (k_X0_notches_P l D c ts H.size a1 i_a1 hi_a1 3 3 (by decide) (by omega) (by omega)) (cwS 2 hts gX0_takeUp_X0_notches rfl rfl rfl ⟨rfl, hdX0_notches⟩ ⟨(show 0 + 1 ≤ 1 by decide), (show 8 + (2 + 11) + 0 ≤ 23 by decide)⟩) ⟨Pre0.blind, Pre0.at hPc hDc hAm hSt hS hFc⟩ rfl rfl hl.1 rfl (lv_room (Nat.le_of_ble_eq_true rfl)) dX0_takeUp_12 ⟨(show 0 + 0 ≤ 0 by decide), (show 0 + 0 ≤ 0 by decide)⟩) (fun r_53 hw_52 => ?_)
    have nf_54 : r_53.toInt = n3 := (hw_52.2.2.2.2.1 rfl).trans hDg.2.2.2.1
    clear hw_52
    have rg_r_53 := i32r r_53
    refine lv_istore (lv' := [(4, .int r_53), (3, .int 3), (0, .ref A_self), (1, .int a1), (2, .int L2)]) hx hb dX0_takeUp_15 hl (by decide) rfl (fun ls hl => ?_)
    refine lv_aload_n hx hb dX0_takeUp_17 rfl (lv_at hl 2 rfl) ?_
    refine va_get (D := D) (ci := 0) (v := .ref A_counters) (C := RX0) (T := TX0) (N := 1) hx hb hts (fun _ h => List.mem_cons_of_mem _ (List.mem_append_right _ h)) hown hK hP 0 rfl rfl 0 (by decide) (hts (.fieldLink RX0 9 "CrownTable$Cloth" "counters" "[I") (mem_i 1 rfl)) (fun _ h9 => h9) rfl dX0_takeUp_18 ?_
    refine lv_iload_n hx hb dX0_takeUp_21 rfl (lv_at hl 1 rfl) ?_
    refine va_iald hx hb hK hP 1 1 rfl rfl (vin (a := 3) (by decide) (by decide) (by decide)) dX0_takeUp_22 ?_
    refine lv_topi (fun x_55 ex_55 => ?_)
    have lf_56 : (M_counters 3).toInt = x_55.toInt := by rw [ex_55]; rfl
    refine lv_iload hx hb dX0_takeUp_23 (lv_at hl 0 rfl) ?_
    refine iicmp_ge (a := x_55.toInt) (b := r_53.toInt) (tgt := 36) hx hb rfl rfl dX0_takeUp_25 (by decide) (fun k_57 => ?_) (fun k_57 => ?_)
    · skip
      refine lv_aload_n hx hb dX0_takeUp_36 rfl (lv_at hl 2 rfl) ?_
      refine va_get (D := D) (ci := 0) (v := .ref A_counters) (C := RX0) (T := TX0) (N := 1) hx hb hts (fun _ h => List.mem_cons_of_mem _ (List.mem_append_right _ h)) hown hK hP 0 rfl rfl 0 (by decide) (hts (.fieldLink RX0 9 "CrownTable$Cloth" "counters" "[I") (mem_i 1 rfl)) (fun _ h9 => h9) rfl dX0_takeUp_37 ?_
      refine lv_iload_n hx hb dX0_takeUp_40 rfl (lv_at hl 1 rfl) ?_
      refine lv_dup2_11 hx hb dX0_takeUp_41 rfl rfl ?_
      refine va_iald hx hb hK hP 1 1 rfl rfl (vin (a := 3) (by decide) (by decide) (by decide)) dX0_takeUp_42 ?_
      refine lv_topi (fun x_58 ex_58 => ?_)
      have lf_59 : (M_counters 3).toInt = x_58.toInt := by rw [ex_58]; rfl
      refine lv_iload hx hb dX0_takeUp_43 (lv_at hl 0 rfl) ?_
      refine lv_isub hx hb dX0_takeUp_45 ?_
      refine lv_topi (fun x_60 ex_60 => ?_)
      have tx_60 : x_60.toInt = (x_58.toInt - r_53.toInt) := by rw [ex_60]; exact sub_ti (a := x_58.toInt) (b := r_53.toInt) rfl rfl (by omega) (by omega)
      refine va_iast hx hb hK hP hD hS 1 1 rfl rfl (vin (a := 3) (by decide) (by decide) (by decide)) dX0_takeUp_46 (fun H locs hP hD hS => ?_)
      obtain ⟨f_61, ef_61, hP, hD⟩ : ∃ f_61 : Nat → Int32, f_61 = upd M_counters (3 : Int32).toNatClampNeg x_60 ∧ va_P D vwCl [(A_self, .inr (0, [.ref A_counters])), (A_counters, .inl (c 1, 6, .inl f_61))] H ∧ va_D A [(A_self, .inr (0, [.ref A_counters])), (A_counters, .inl (c 1, 6, .inl f_61))] := ⟨_, rfl, hP, hD⟩
      have cl_62 : (f_61 0).toInt = (M_counters 0).toInt := by rw [ef_61]; rfl
      have cl_63 : (f_61 1).toInt = (M_counters 1).toInt := by rw [ef_61]; rfl
      have cl_64 : (f_61 2).toInt = (M_counters 2).toInt := by rw [ef_61]; rfl
      have cl_65 : (f_61 3).toInt = x_60.toInt := by rw [ef_61]; rfl
      have cl_66 : (f_61 4).toInt = (M_counters 4).toInt := by rw [ef_61]; rfl
      have cl_67 : (f_61 5).toInt = (M_counters 5).toInt := by rw [ef_61]; rfl
      refine lv_iinc (v := 4) (lv' := [(3, .int 4), (4, .int r_53), (0, .ref A_self), (1, .int a1), (2, .int L2)]) hx hb dX0_takeUp_47 hl (k := 1) rfl (by decide) (by decide) rfl (fun ls hl => ?_)
      refine lv_goto (tgt := 4) hx hb dX0_takeUp_50 (by decide) ?_
      obtain ⟨ts, td0, td1, td2, td3, td4, td5, tl⟩ := TkS.s3 (d0 := (f_61 0).toInt) (d1 := (f_61 1).toInt) (d2 := (f_61 2).toInt) (d3 := (f_61 3).toInt) (d4 := (f_61 4).toInt) (d5 := (f_61 5).toInt) hf4_3_2 (by omega) (by omega) (by omega) (by omega) (by omega) (by omega) (by omega)
      have hl := lv_sub hl [0, 2, 3, 4] rfl
      exact lp_4_4 L2 f_61 (by omega) (by omega) ts td0 td1 td2 td3 td4 td5 _ _ _ hP hD hS hl
    · skip
      refine lv_iload_n hx hb dX0_takeUp_28 rfl (lv_at hl 4 rfl) ?_
      refine lv_aload_n hx hb dX0_takeUp_29 rfl (lv_at hl 2 rfl) ?_
      refine lv_iload_n hx hb dX0_takeUp_30 rfl (lv_at hl 1 rfl) ?_
      have hPc := hP.sub (ws' := [(A_self, .inr (0, [.ref A_counters])), (A_counters, .inl (c 1, 6, .inl M_counters))]) [0, 1] rfl
      have hDc := hD.sub (ws' := [(A_self, .inr (0, [.ref A_counters])), (A_counters, .inl (c 1, 6, .inl M_counters))]) [0, 1] (by decide) rfl
      have hFc := va_free (wc := [(A_self, .inr (0, [.ref A_counters])), (A_counters, .inl (c 1, 6, .inl M_counters))]) hD hS hA [0, 1] rfl
      have kzz_68 : (3 : Int32).toInt = 3 := by decide
      refine va_calli (va_runV (As := [.int 3]) (rest := [.int L2]) ⟨hx, hb, hml, hown, hts⟩ (k_X0_bringDown l D c ts H.size A_counters A_self M_counters 3 3 (by decide) (by omega) (by omega) (by omega) (by omega) (by omega) (by omega) (by omega)) (cwV 1 hts gX0_takeUp_X0_bringDown rfl rfl rfl ⟨rfl, hdX0_bringDown⟩ ⟨(show 0 + 1 ≤ 1 by decide), (show 8 + (4 + 11) + 0 ≤ 23 by decide)⟩) ⟨Pre0.blind, va_recv hK hPc (ci := 0) (q0 := 0) rfl rfl, Pre0.at hPc hDc hAm hSt hS hFc⟩ rfl rfl hl.1 rfl (lv_room (Nat.le_of_ble_eq_true rfl)) dX0_takeUp_31 ⟨(show 0 + 0 ≤ 0 by decide), (show 0 + 0 ≤ 0 by decide)⟩) hS (fun q _ h => hFc q h) hFc (fun r_70 u_71 t1 H locs ht hvm hw_69 hB_9 hz1_9 hk1_9 hS => ?_)
      obtain ⟨f_72, _⟩ := u_71
      have hw_69 : (BdI (3 : Int) (M_counters 0).toInt (M_counters 1).toInt (M_counters 2).toInt (M_counters 3).toInt (M_counters 4).toInt (M_counters 5).toInt (f_72 0).toInt (f_72 1).toInt (f_72 2).toInt (f_72 3).toInt (f_72 4).toInt (f_72 5).toInt r_70.toInt) := hw_69
      obtain ⟨hP1_9, hD1_9⟩ := hB_9
      rw [ht] at hP1_9
      have hP1_9 : va_P D vwCl [(A_self, .inr (0, [.ref A_counters])), (A_counters, .inl (c 1, 6, .inl f_72))] H := hP1_9
      obtain ⟨hP, hD⟩ := va_join (wr := []) (w1 := [(A_self, .inr (0, [.ref A_counters])), (A_counters, .inl (c 1, 6, .inl f_72))]) hP hD [0, 1] [] rfl rfl (by decide) (by decide) hk1_9 hFc hP1_9 hD1_9
      have hP : va_P D vwCl [(A_self, .inr (0, [.ref A_counters])), (A_counters, .inl (c 1, 6, .inl f_72))] H := hP
      have hD : va_D A [(A_self, .inr (0, [.ref A_counters])), (A_counters, .inl (c 1, 6, .inl f_72))] := hD
      refine W.widen (k := 0) (n := 0) (by omega) (by omega) ?_
      have rg_r_70 := i32r r_70
      have bd9 := BdI.e3 hw_69
      rcases bd9 with ⟨bd_0, bd_1, bd_2, bd_3, bd_4, bd_5, bd_6, bd_7⟩ | ⟨bd_0, bd_1, bd_2, bd_3, bd_4, bd_5, bd_6, bd_7, bd_8⟩ | ⟨bd_0, bd_1, bd_2, bd_3, bd_4, bd_5, bd_6, bd_7, bd_8⟩
      · skip
        refine lv_iadd hx hb dX0_takeUp_34 ?_
        refine lv_topi (fun x_73 ex_73 => ?_)
        have tx_73 : x_73.toInt = (L2.toInt + r_70.toInt) := by rw [ex_73]; exact add_ti (a := L2.toInt) (b := r_70.toInt) rfl rfl (by omega) (by omega)
        refine lv_istore_n (lv' := [(2, .int x_73), (4, .int r_53), (3, .int 3), (0, .ref A_self), (1, .int a1)]) hx hb dX0_takeUp_35 rfl hl (by decide) rfl (fun ls hl => ?_)
        refine lv_aload_n hx hb dX0_takeUp_36 rfl (lv_at hl 3 rfl) ?_
        refine va_get (D := D) (ci := 0) (v := .ref A_counters) (C := RX0) (T := TX0) (N := 1) hx hb hts (fun _ h => List.mem_cons_of_mem _ (List.mem_append_right _ h)) hown hK hP 0 rfl rfl 0 (by decide) (hts (.fieldLink RX0 9 "CrownTable$Cloth" "counters" "[I") (mem_i 1 rfl)) (fun _ h9 => h9) rfl dX0_takeUp_37 ?_
        refine lv_iload_n hx hb dX0_takeUp_40 rfl (lv_at hl 2 rfl) ?_
        refine lv_dup2_11 hx hb dX0_takeUp_41 rfl rfl ?_
        refine va_iald hx hb hK hP 1 1 rfl rfl (vin (a := 3) (by decide) (by decide) (by decide)) dX0_takeUp_42 ?_
        refine lv_topi (fun x_74 ex_74 => ?_)
        have lf_75 : (f_72 3).toInt = x_74.toInt := by rw [ex_74]; rfl
        refine lv_iload hx hb dX0_takeUp_43 (lv_at hl 1 rfl) ?_
        refine lv_isub hx hb dX0_takeUp_45 ?_
        refine lv_topi (fun x_76 ex_76 => ?_)
        have tx_76 : x_76.toInt = (x_74.toInt - r_53.toInt) := by rw [ex_76]; exact sub_ti (a := x_74.toInt) (b := r_53.toInt) rfl rfl (by omega) (by omega)
        refine va_iast hx hb hK hP hD hS 1 1 rfl rfl (vin (a := 3) (by decide) (by decide) (by decide)) dX0_takeUp_46 (fun H locs hP hD hS => ?_)
        obtain ⟨f_77, ef_77, hP, hD⟩ : ∃ f_77 : Nat → Int32, f_77 = upd f_72 (3 : Int32).toNatClampNeg x_76 ∧ va_P D vwCl [(A_self, .inr (0, [.ref A_counters])), (A_counters, .inl (c 1, 6, .inl f_77))] H ∧ va_D A [(A_self, .inr (0, [.ref A_counters])), (A_counters, .inl (c 1, 6, .inl f_77))] := ⟨_, rfl, hP, hD⟩
        have cl_78 : (f_77 0).toInt = (f_72 0).toInt := by rw [ef_77]; rfl
        have cl_79 : (f_77 1).toInt = (f_72 1).toInt := by rw [ef_77]; rfl
        have cl_80 : (f_77 2).toInt = (f_72 2).toInt := by rw [ef_77]; rfl
        have cl_81 : (f_77 3).toInt = x_76.toInt := by rw [ef_77]; rfl
        have cl_82 : (f_77 4).toInt = (f_72 4).toInt := by rw [ef_77]; rfl
        have cl_83 : (f_77 5).toInt = (f_72 5).toInt := by rw [ef_77]; rfl
        refine lv_iinc (v := 4) (lv' := [(3, .int 4), (2, .int x_73), (4, .int r_53), (0, .ref A_self), (1, .int a1)]) hx hb dX0_takeUp_47 hl (k := 2) rfl (by decide) (by decide) rfl (fun ls hl => ?_)
        refine lv_goto (tgt := 4) hx hb dX0_takeUp_50 (by decide) ?_
        obtain ⟨ts, td0, td1, td2, td3, td4, td5, tl⟩ := TkS.b3_4 (d0 := (f_77 0).toInt) (d1 := (f_77 1).toInt) (d2 := (f_77 2).toInt) (d3 := (f_77 3).toInt) (d4 := (f_77 4).toInt) (d5 := (f_77 5).toInt) (L1 := x_73.toInt) hf4_3_2 (by omega) (by omega) (by omega) (by omega) (by omega) (by omega) (by omega) (by omega) (by omega)
        have hl := lv_sub hl [0, 3, 4, 1] rfl
        exact lp_4_4 x_73 f_77 (by omega) (by omega) ts td0 td1 td2 td3 td4 td5 _ _ _ hP hD hS hl
      · skip
        refine lv_iadd hx hb dX0_takeUp_34 ?_
        refine lv_topi (fun x_84 ex_84 => ?_)
        have tx_84 : x_84.toInt = (L2.toInt + r_70.toInt) := by rw [ex_84]; exact add_ti (a := L2.toInt) (b := r_70.toInt) rfl rfl (by omega) (by omega)
        refine lv_istore_n (lv' := [(2, .int x_84), (4, .int r_53), (3, .int 3), (0, .ref A_self), (1, .int a1)]) hx hb dX0_takeUp_35 rfl hl (by decide) rfl (fun ls hl => ?_)
        refine lv_aload_n hx hb dX0_takeUp_36 rfl (lv_at hl 3 rfl) ?_
        refine va_get (D := D) (ci := 0) (v := .ref A_counters) (C := RX0) (T := TX0) (N := 1) hx hb hts (fun _ h => List.mem_cons_of_mem _ (List.mem_append_right _ h)) hown hK hP 0 rfl rfl 0 (by decide) (hts (.fieldLink RX0 9 "CrownTable$Cloth" "counters" "[I") (mem_i 1 rfl)) (fun _ h9 => h9) rfl dX0_takeUp_37 ?_
        refine lv_iload_n hx hb dX0_takeUp_40 rfl (lv_at hl 2 rfl) ?_
        refine lv_dup2_11 hx hb dX0_takeUp_41 rfl rfl ?_
        refine va_iald hx hb hK hP 1 1 rfl rfl (vin (a := 3) (by decide) (by decide) (by decide)) dX0_takeUp_42 ?_
        refine lv_topi (fun x_85 ex_85 => ?_)
        have lf_86 : (f_72 3).toInt = x_85.toInt := by rw [ex_85]; rfl
        refine lv_iload hx hb dX0_takeUp_43 (lv_at hl 1 rfl) ?_
        refine lv_isub hx hb dX0_takeUp_45 ?_
        refine lv_topi (fun x_87 ex_87 => ?_)
        have tx_87 : x_87.toInt = (x_85.toInt - r_53.toInt) := by rw [ex_87]; exact sub_ti (a := x_85.toInt) (b := r_53.toInt) rfl rfl (by omega) (by omega)
        refine va_iast hx hb hK hP hD hS 1 1 rfl rfl (vin (a := 3) (by decide) (by decide) (by decide)) dX0_takeUp_46 (fun H locs hP hD hS => ?_)
        obtain ⟨f_88, ef_88, hP, hD⟩ : ∃ f_88 : Nat → Int32, f_88 = upd f_72 (3 : Int32).toNatClampNeg x_87 ∧ va_P D vwCl [(A_self, .inr (0, [.ref A_counters])), (A_counters, .inl (c 1, 6, .inl f_88))] H ∧ va_D A [(A_self, .inr (0, [.ref A_counters])), (A_counters, .inl (c 1, 6, .inl f_88))] := ⟨_, rfl, hP, hD⟩
        have cl_89 : (f_88 0).toInt = (f_72 0).toInt := by rw [ef_88]; rfl
        have cl_90 : (f_88 1).toInt = (f_72 1).toInt := by rw [ef_88]; rfl
        have cl_91 : (f_88 2).toInt = (f_72 2).toInt := by rw [ef_88]; rfl
        have cl_92 : (f_88 3).toInt = x_87.toInt := by rw [ef_88]; rfl
        have cl_93 : (f_88 4).toInt = (f_72 4).toInt := by rw [ef_88]; rfl
        have cl_94 : (f_88 5).toInt = (f_72 5).toInt := by rw [ef_88]; rfl
        refine lv_iinc (v := 4) (lv' := [(3, .int 4), (2, .int x_84), (4, .int r_53), (0, .ref A_self), (1, .int a1)]) hx hb dX0_takeUp_47 hl (k := 2) rfl (by decide) (by decide) rfl (fun ls hl => ?_)
        refine lv_goto (tgt := 4) hx hb dX0_takeUp_50 (by decide) ?_
        obtain ⟨ts, td0, td1, td2, td3, td4, td5, tl⟩ := TkS.b3_5 (d0 := (f_88 0).toInt) (d1 := (f_88 1).toInt) (d2 := (f_88 2).toInt) (d3 := (f_88 3).toInt) (d4 := (f_88 4).toInt) (d5 := (f_88 5).toInt) (L1 := x_84.toInt) hf4_3_2 (by omega) (by omega) (by omega) (by omega) (by omega) (by omega) (by omega) (by omega) (by omega) (by omega)
        have hl := lv_sub hl [0, 3, 4, 1] rfl
        exact lp_4_4 x_84 f_88 (by omega) (by omega) ts td0 td1 td2 td3 td4 td5 _ _ _ hP hD hS hl
      · skip
        exact (TkS.n3 hf4_3_2 (by omega) (by omega) (by omega)).elim
  have lp_4_2 : ∀ (L2 : Int32) (M_counters : Nat → Int32) (hf4_2_0 : 0 ≤ L2.toInt) (hf4_2_1 : L2.toInt ≤ 5) (hf4_2_2 : TkS2 (f_counters 0).toInt (f_counters 1).toInt (f_counters 2).toInt (f_counters 3).toInt (f_counters 4).toInt (f_counters 5).toInt (M_counters 0).toInt (M_counters 1).toInt (M_counters 2).toInt (M_counters 3).toInt (M_counters 4).toInt (M_counters 5).toInt n0 n1 n2 n3 n4 n5 L2.toInt) (hf4_2_3 : 0 ≤ (M_counters 0).toInt ∧ (M_counters 0).toInt ≤ 11) (hf4_2_4 : 0 ≤ (M_counters 1).toInt ∧ (M_counters 1).toInt ≤ 19) (hf4_2_5 : 0 ≤ (M_counters 2).toInt ∧ (M_counters 2).toInt ≤ 19) (hf4_2_6 : 0 ≤ (M_counters 3).toInt ∧ (M_counters 3).toInt ≤ 4) (hf4_2_7 : 0 ≤ (M_counters 4).toInt ∧ (M_counters 4).toInt ≤ 9) (hf4_2_8 : 0 ≤ (M_counters 5).toInt ∧ (M_counters 5).toInt ≤ 900000) (H : Heap) (locs : List Loc) (ls : Array Slot), va_P D vwCl [(A_self, .inr (0, [.ref A_counters])), (A_counters, .inl (c 1, 6, .inl M_counters))] H → va_D A [(A_self, .inr (0, [.ref A_counters])), (A_counters, .inl (c 1, 6, .inl M_counters))] → va_S A s.heap H locs → lv_has ls 5 [(3, .int 2), (0, .ref A_self), (1, .int a1), (2, .int L2)] → W p l e (headSpec wsX0_takeUp ({ frames := 1, cells := 0, slots := 0, locals := 23 })).room s m (([.ref A_self, .int a1] : List Value).toArray) below meth cd H locs 0 0 (MQ below (va_Qi (fun (r : Int32) (u : (Nat → Int32) × Unit) => (TakI (f_counters 0).toInt (f_counters 1).toInt (f_counters 2).toInt (f_counters 3).toInt (f_counters 4).toInt (f_counters 5).toInt (u.1 0).toInt (u.1 1).toInt (u.1 2).toInt (u.1 3).toInt (u.1 4).toInt (u.1 5).toInt i_a1 r.toInt) ∧ (0 ≤ (u.1 0).toInt ∧ (u.1 0).toInt ≤ 11) ∧ (0 ≤ (u.1 1).toInt ∧ (u.1 1).toInt ≤ 19) ∧ (0 ≤ (u.1 2).toInt ∧ (u.1 2).toInt ≤ 19) ∧ (0 ≤ (u.1 3).toInt ∧ (u.1 3).toInt ≤ 4) ∧ (0 ≤ (u.1 4).toInt ∧ (u.1 4).toInt ≤ 9)) (fun u t => va_P D vwCl [(A_self, .inr (0, [.ref A_counters])), (A_counters, .inl (c 1, 6, .inl u.1))] t.heap ∧ va_D A [(A_self, .inr (0, [.ref A_counters])), (A_counters, .inl (c 1, 6, .inl u.1))]) A) ([.ref A_self, .int a1] : List Value).toArray s 0 0 A) (F0 m 4 ls []) := by
    intro L2 M_counters hf4_2_0 hf4_2_1 hf4_2_2 hf4_2_3 hf4_2_4 hf4_2_5 hf4_2_6 hf4_2_7 hf4_2_8 H locs ls hP hD hS hl
    clear tv
    refine lv_iload_n hx hb dX0_takeUp_4 rfl (lv_at hl 0 rfl) ?_
    refine lv_bipush (v := 6) hx hb dX0_takeUp_5 (by decide) ?_
    refine iicmp_geF (a := 2) (b := 6) (tgt := 53) hx hb (by decide) (by decide) dX0_takeUp_7 (by decide) (by decide) ?_
    refine lv_iload_n hx hb dX0_takeUp_10 rfl (lv_at hl 2 rfl) ?_
    refine lv_iload_n hx hb dX0_takeUp_11 rfl (lv_at hl 0 rfl) ?_
    have hPc := hP.sub (ws' := []) [] rfl
    have hDc := hD.sub (ws' := []) [] (by decide) rfl
    have hFc := va_free (wc := []) hD hS hA [] rfl
    have kzz_95 : (2 : Int32).toInt = 2 := by decide
    refine va_csi (va_runS (As := [.int a1, .int 2]) (rest := []) ⟨hx, hb, hml, hown, hts⟩ (k_X0_notches_P l D c ts H.size a1 i_a1 hi_a1 2 2 (by decide) (by omega) (by omega)) (cwS 2 hts gX0_takeUp_X0_notches rfl rfl rfl ⟨rfl, hdX0_notches⟩ ⟨(show 0 + 1 ≤ 1 by decide), (show 8 + (2 + 11) + 0 ≤ 23 by decide)⟩) ⟨Pre0.blind, Pre0.at hPc hDc hAm hSt hS hFc⟩ rfl rfl hl.1 rfl (lv_room (Nat.le_of_ble_eq_true rfl)) dX0_takeUp_12 ⟨(show 0 + 0 ≤ 0 by decide), (show 0 + 0 ≤ 0 by decide)⟩) (fun r_97 hw_96 => ?_)
    have nf_98 : r_97.toInt = n2 := (hw_96.2.2.2.1 rfl).trans hDg.2.2.1
    clear hw_96
    have rg_r_97 := i32r r_97
    refine lv_istore (lv' := [(4, .int r_97), (3, .int 2), (0, .ref A_self), (1, .int a1), (2, .int L2)]) hx hb dX0_takeUp_15 hl (by decide) rfl (fun ls hl => ?_)
    refine lv_aload_n hx hb dX0_takeUp_17 rfl (lv_at hl 2 rfl) ?_
    refine va_get (D := D) (ci := 0) (v := .ref A_counters) (C := RX0) (T := TX0) (N := 1) hx hb hts (fun _ h => List.mem_cons_of_mem _ (List.mem_append_right _ h)) hown hK hP 0 rfl rfl 0 (by decide) (hts (.fieldLink RX0 9 "CrownTable$Cloth" "counters" "[I") (mem_i 1 rfl)) (fun _ h9 => h9) rfl dX0_takeUp_18 ?_
    refine lv_iload_n hx hb dX0_takeUp_21 rfl (lv_at hl 1 rfl) ?_
    refine va_iald hx hb hK hP 1 1 rfl rfl (vin (a := 2) (by decide) (by decide) (by decide)) dX0_takeUp_22 ?_
    refine lv_topi (fun x_99 ex_99 => ?_)
    have lf_100 : (M_counters 2).toInt = x_99.toInt := by rw [ex_99]; rfl
    refine lv_iload hx hb dX0_takeUp_23 (lv_at hl 0 rfl) ?_
    refine iicmp_ge (a := x_99.toInt) (b := r_97.toInt) (tgt := 36) hx hb rfl rfl dX0_takeUp_25 (by decide) (fun k_101 => ?_) (fun k_101 => ?_)
    · skip
      refine lv_aload_n hx hb dX0_takeUp_36 rfl (lv_at hl 2 rfl) ?_
      refine va_get (D := D) (ci := 0) (v := .ref A_counters) (C := RX0) (T := TX0) (N := 1) hx hb hts (fun _ h => List.mem_cons_of_mem _ (List.mem_append_right _ h)) hown hK hP 0 rfl rfl 0 (by decide) (hts (.fieldLink RX0 9 "CrownTable$Cloth" "counters" "[I") (mem_i 1 rfl)) (fun _ h9 => h9) rfl dX0_takeUp_37 ?_
      refine lv_iload_n hx hb dX0_takeUp_40 rfl (lv_at hl 1 rfl) ?_
      refine lv_dup2_11 hx hb dX0_takeUp_41 rfl rfl ?_
      refine va_iald hx hb hK hP 1 1 rfl rfl (vin (a := 2) (by decide) (by decide) (by decide)) dX0_takeUp_42 ?_
      refine lv_topi (fun x_102 ex_102 => ?_)
      have lf_103 : (M_counters 2).toInt = x_102.toInt := by rw [ex_102]; rfl
      refine lv_iload hx hb dX0_takeUp_43 (lv_at hl 0 rfl) ?_
      refine lv_isub hx hb dX0_takeUp_45 ?_
      refine lv_topi (fun x_104 ex_104 => ?_)
      have tx_104 : x_104.toInt = (x_102.toInt - r_97.toInt) := by rw [ex_104]; exact sub_ti (a := x_102.toInt) (b := r_97.toInt) rfl rfl (by omega) (by omega)
      refine va_iast hx hb hK hP hD hS 1 1 rfl rfl (vin (a := 2) (by decide) (by decide) (by decide)) dX0_takeUp_46 (fun H locs hP hD hS => ?_)
      obtain ⟨f_105, ef_105, hP, hD⟩ : ∃ f_105 : Nat → Int32, f_105 = upd M_counters (2 : Int32).toNatClampNeg x_104 ∧ va_P D vwCl [(A_self, .inr (0, [.ref A_counters])), (A_counters, .inl (c 1, 6, .inl f_105))] H ∧ va_D A [(A_self, .inr (0, [.ref A_counters])), (A_counters, .inl (c 1, 6, .inl f_105))] := ⟨_, rfl, hP, hD⟩
      have cl_106 : (f_105 0).toInt = (M_counters 0).toInt := by rw [ef_105]; rfl
      have cl_107 : (f_105 1).toInt = (M_counters 1).toInt := by rw [ef_105]; rfl
      have cl_108 : (f_105 2).toInt = x_104.toInt := by rw [ef_105]; rfl
      have cl_109 : (f_105 3).toInt = (M_counters 3).toInt := by rw [ef_105]; rfl
      have cl_110 : (f_105 4).toInt = (M_counters 4).toInt := by rw [ef_105]; rfl
      have cl_111 : (f_105 5).toInt = (M_counters 5).toInt := by rw [ef_105]; rfl
      refine lv_iinc (v := 3) (lv' := [(3, .int 3), (4, .int r_97), (0, .ref A_self), (1, .int a1), (2, .int L2)]) hx hb dX0_takeUp_47 hl (k := 1) rfl (by decide) (by decide) rfl (fun ls hl => ?_)
      refine lv_goto (tgt := 4) hx hb dX0_takeUp_50 (by decide) ?_
      obtain ⟨ts, td0, td1, td2, td3, td4, td5, tl⟩ := TkS.s2 (d0 := (f_105 0).toInt) (d1 := (f_105 1).toInt) (d2 := (f_105 2).toInt) (d3 := (f_105 3).toInt) (d4 := (f_105 4).toInt) (d5 := (f_105 5).toInt) hf4_2_2 (by omega) (by omega) (by omega) (by omega) (by omega) (by omega) (by omega)
      have hl := lv_sub hl [0, 2, 3, 4] rfl
      exact lp_4_3 L2 f_105 (by omega) (by omega) ts td0 td1 td2 td3 td4 td5 _ _ _ hP hD hS hl
    · skip
      refine lv_iload_n hx hb dX0_takeUp_28 rfl (lv_at hl 4 rfl) ?_
      refine lv_aload_n hx hb dX0_takeUp_29 rfl (lv_at hl 2 rfl) ?_
      refine lv_iload_n hx hb dX0_takeUp_30 rfl (lv_at hl 1 rfl) ?_
      have hPc := hP.sub (ws' := [(A_self, .inr (0, [.ref A_counters])), (A_counters, .inl (c 1, 6, .inl M_counters))]) [0, 1] rfl
      have hDc := hD.sub (ws' := [(A_self, .inr (0, [.ref A_counters])), (A_counters, .inl (c 1, 6, .inl M_counters))]) [0, 1] (by decide) rfl
      have hFc := va_free (wc := [(A_self, .inr (0, [.ref A_counters])), (A_counters, .inl (c 1, 6, .inl M_counters))]) hD hS hA [0, 1] rfl
      have kzz_112 : (2 : Int32).toInt = 2 := by decide
      refine va_calli (va_runV (As := [.int 2]) (rest := [.int L2]) ⟨hx, hb, hml, hown, hts⟩ (k_X0_bringDown l D c ts H.size A_counters A_self M_counters 2 2 (by decide) (by omega) (by omega) (by omega) (by omega) (by omega) (by omega) (by omega)) (cwV 1 hts gX0_takeUp_X0_bringDown rfl rfl rfl ⟨rfl, hdX0_bringDown⟩ ⟨(show 0 + 1 ≤ 1 by decide), (show 8 + (4 + 11) + 0 ≤ 23 by decide)⟩) ⟨Pre0.blind, va_recv hK hPc (ci := 0) (q0 := 0) rfl rfl, Pre0.at hPc hDc hAm hSt hS hFc⟩ rfl rfl hl.1 rfl (lv_room (Nat.le_of_ble_eq_true rfl)) dX0_takeUp_31 ⟨(show 0 + 0 ≤ 0 by decide), (show 0 + 0 ≤ 0 by decide)⟩) hS (fun q _ h => hFc q h) hFc (fun r_114 u_115 t1 H locs ht hvm hw_113 hB_9 hz1_9 hk1_9 hS => ?_)
      obtain ⟨f_116, _⟩ := u_115
      have hw_113 : (BdI (2 : Int) (M_counters 0).toInt (M_counters 1).toInt (M_counters 2).toInt (M_counters 3).toInt (M_counters 4).toInt (M_counters 5).toInt (f_116 0).toInt (f_116 1).toInt (f_116 2).toInt (f_116 3).toInt (f_116 4).toInt (f_116 5).toInt r_114.toInt) := hw_113
      obtain ⟨hP1_9, hD1_9⟩ := hB_9
      rw [ht] at hP1_9
      have hP1_9 : va_P D vwCl [(A_self, .inr (0, [.ref A_counters])), (A_counters, .inl (c 1, 6, .inl f_116))] H := hP1_9
      obtain ⟨hP, hD⟩ := va_join (wr := []) (w1 := [(A_self, .inr (0, [.ref A_counters])), (A_counters, .inl (c 1, 6, .inl f_116))]) hP hD [0, 1] [] rfl rfl (by decide) (by decide) hk1_9 hFc hP1_9 hD1_9
      have hP : va_P D vwCl [(A_self, .inr (0, [.ref A_counters])), (A_counters, .inl (c 1, 6, .inl f_116))] H := hP
      have hD : va_D A [(A_self, .inr (0, [.ref A_counters])), (A_counters, .inl (c 1, 6, .inl f_116))] := hD
      refine W.widen (k := 0) (n := 0) (by omega) (by omega) ?_
      have rg_r_114 := i32r r_114
      have bd9 := BdI.e2 hw_113
      rcases bd9 with ⟨bd_0, bd_1, bd_2, bd_3, bd_4, bd_5, bd_6, bd_7⟩ | ⟨bd_0, bd_1, bd_2, bd_3, bd_4, bd_5, bd_6, bd_7, bd_8⟩ | ⟨bd_0, bd_1, bd_2, bd_3, bd_4, bd_5, bd_6, bd_7, bd_8, bd_9⟩ | ⟨bd_0, bd_1, bd_2, bd_3, bd_4, bd_5, bd_6, bd_7, bd_8, bd_9⟩
      · skip
        refine lv_iadd hx hb dX0_takeUp_34 ?_
        refine lv_topi (fun x_117 ex_117 => ?_)
        have tx_117 : x_117.toInt = (L2.toInt + r_114.toInt) := by rw [ex_117]; exact add_ti (a := L2.toInt) (b := r_114.toInt) rfl rfl (by omega) (by omega)
        refine lv_istore_n (lv' := [(2, .int x_117), (4, .int r_97), (3, .int 2), (0, .ref A_self), (1, .int a1)]) hx hb dX0_takeUp_35 rfl hl (by decide) rfl (fun ls hl => ?_)
        refine lv_aload_n hx hb dX0_takeUp_36 rfl (lv_at hl 3 rfl) ?_
        refine va_get (D := D) (ci := 0) (v := .ref A_counters) (C := RX0) (T := TX0) (N := 1) hx hb hts (fun _ h => List.mem_cons_of_mem _ (List.mem_append_right _ h)) hown hK hP 0 rfl rfl 0 (by decide) (hts (.fieldLink RX0 9 "CrownTable$Cloth" "counters" "[I") (mem_i 1 rfl)) (fun _ h9 => h9) rfl dX0_takeUp_37 ?_
        refine lv_iload_n hx hb dX0_takeUp_40 rfl (lv_at hl 2 rfl) ?_
        refine lv_dup2_11 hx hb dX0_takeUp_41 rfl rfl ?_
        refine va_iald hx hb hK hP 1 1 rfl rfl (vin (a := 2) (by decide) (by decide) (by decide)) dX0_takeUp_42 ?_
        refine lv_topi (fun x_118 ex_118 => ?_)
        have lf_119 : (f_116 2).toInt = x_118.toInt := by rw [ex_118]; rfl
        refine lv_iload hx hb dX0_takeUp_43 (lv_at hl 1 rfl) ?_
        refine lv_isub hx hb dX0_takeUp_45 ?_
        refine lv_topi (fun x_120 ex_120 => ?_)
        have tx_120 : x_120.toInt = (x_118.toInt - r_97.toInt) := by rw [ex_120]; exact sub_ti (a := x_118.toInt) (b := r_97.toInt) rfl rfl (by omega) (by omega)
        refine va_iast hx hb hK hP hD hS 1 1 rfl rfl (vin (a := 2) (by decide) (by decide) (by decide)) dX0_takeUp_46 (fun H locs hP hD hS => ?_)
        obtain ⟨f_121, ef_121, hP, hD⟩ : ∃ f_121 : Nat → Int32, f_121 = upd f_116 (2 : Int32).toNatClampNeg x_120 ∧ va_P D vwCl [(A_self, .inr (0, [.ref A_counters])), (A_counters, .inl (c 1, 6, .inl f_121))] H ∧ va_D A [(A_self, .inr (0, [.ref A_counters])), (A_counters, .inl (c 1, 6, .inl f_121))] := ⟨_, rfl, hP, hD⟩
        have cl_122 : (f_121 0).toInt = (f_116 0).toInt := by rw [ef_121]; rfl
        have cl_123 : (f_121 1).toInt = (f_116 1).toInt := by rw [ef_121]; rfl
        have cl_124 : (f_121 2).toInt = x_120.toInt := by rw [ef_121]; rfl
        have cl_125 : (f_121 3).toInt = (f_116 3).toInt := by rw [ef_121]; rfl
        have cl_126 : (f_121 4).toInt = (f_116 4).toInt := by rw [ef_121]; rfl
        have cl_127 : (f_121 5).toInt = (f_116 5).toInt := by rw [ef_121]; rfl
        refine lv_iinc (v := 3) (lv' := [(3, .int 3), (2, .int x_117), (4, .int r_97), (0, .ref A_self), (1, .int a1)]) hx hb dX0_takeUp_47 hl (k := 2) rfl (by decide) (by decide) rfl (fun ls hl => ?_)
        refine lv_goto (tgt := 4) hx hb dX0_takeUp_50 (by decide) ?_
        obtain ⟨ts, td0, td1, td2, td3, td4, td5, tl⟩ := TkS.b2_3 (d0 := (f_121 0).toInt) (d1 := (f_121 1).toInt) (d2 := (f_121 2).toInt) (d3 := (f_121 3).toInt) (d4 := (f_121 4).toInt) (d5 := (f_121 5).toInt) (L1 := x_117.toInt) hf4_2_2 (by omega) (by omega) (by omega) (by omega) (by omega) (by omega) (by omega) (by omega) (by omega)
        have hl := lv_sub hl [0, 3, 4, 1] rfl
        exact lp_4_3 x_117 f_121 (by omega) (by omega) ts td0 td1 td2 td3 td4 td5 _ _ _ hP hD hS hl
      · skip
        refine lv_iadd hx hb dX0_takeUp_34 ?_
        refine lv_topi (fun x_128 ex_128 => ?_)
        have tx_128 : x_128.toInt = (L2.toInt + r_114.toInt) := by rw [ex_128]; exact add_ti (a := L2.toInt) (b := r_114.toInt) rfl rfl (by omega) (by omega)
        refine lv_istore_n (lv' := [(2, .int x_128), (4, .int r_97), (3, .int 2), (0, .ref A_self), (1, .int a1)]) hx hb dX0_takeUp_35 rfl hl (by decide) rfl (fun ls hl => ?_)
        refine lv_aload_n hx hb dX0_takeUp_36 rfl (lv_at hl 3 rfl) ?_
        refine va_get (D := D) (ci := 0) (v := .ref A_counters) (C := RX0) (T := TX0) (N := 1) hx hb hts (fun _ h => List.mem_cons_of_mem _ (List.mem_append_right _ h)) hown hK hP 0 rfl rfl 0 (by decide) (hts (.fieldLink RX0 9 "CrownTable$Cloth" "counters" "[I") (mem_i 1 rfl)) (fun _ h9 => h9) rfl dX0_takeUp_37 ?_
        refine lv_iload_n hx hb dX0_takeUp_40 rfl (lv_at hl 2 rfl) ?_
        refine lv_dup2_11 hx hb dX0_takeUp_41 rfl rfl ?_
        refine va_iald hx hb hK hP 1 1 rfl rfl (vin (a := 2) (by decide) (by decide) (by decide)) dX0_takeUp_42 ?_
        refine lv_topi (fun x_129 ex_129 => ?_)
        have lf_130 : (f_116 2).toInt = x_129.toInt := by rw [ex_129]; rfl
        refine lv_iload hx hb dX0_takeUp_43 (lv_at hl 1 rfl) ?_
        refine lv_isub hx hb dX0_takeUp_45 ?_
        refine lv_topi (fun x_131 ex_131 => ?_)
        have tx_131 : x_131.toInt = (x_129.toInt - r_97.toInt) := by rw [ex_131]; exact sub_ti (a := x_129.toInt) (b := r_97.toInt) rfl rfl (by omega) (by omega)
        refine va_iast hx hb hK hP hD hS 1 1 rfl rfl (vin (a := 2) (by decide) (by decide) (by decide)) dX0_takeUp_46 (fun H locs hP hD hS => ?_)
        obtain ⟨f_132, ef_132, hP, hD⟩ : ∃ f_132 : Nat → Int32, f_132 = upd f_116 (2 : Int32).toNatClampNeg x_131 ∧ va_P D vwCl [(A_self, .inr (0, [.ref A_counters])), (A_counters, .inl (c 1, 6, .inl f_132))] H ∧ va_D A [(A_self, .inr (0, [.ref A_counters])), (A_counters, .inl (c 1, 6, .inl f_132))] := ⟨_, rfl, hP, hD⟩
        have cl_133 : (f_132 0).toInt = (f_116 0).toInt := by rw [ef_132]; rfl
        have cl_134 : (f_132 1).toInt = (f_116 1).toInt := by rw [ef_132]; rfl
        have cl_135 : (f_132 2).toInt = x_131.toInt := by rw [ef_132]; rfl
        have cl_136 : (f_132 3).toInt = (f_116 3).toInt := by rw [ef_132]; rfl
        have cl_137 : (f_132 4).toInt = (f_116 4).toInt := by rw [ef_132]; rfl
        have cl_138 : (f_132 5).toInt = (f_116 5).toInt := by rw [ef_132]; rfl
        refine lv_iinc (v := 3) (lv' := [(3, .int 3), (2, .int x_128), (4, .int r_97), (0, .ref A_self), (1, .int a1)]) hx hb dX0_takeUp_47 hl (k := 2) rfl (by decide) (by decide) rfl (fun ls hl => ?_)
        refine lv_goto (tgt := 4) hx hb dX0_takeUp_50 (by decide) ?_
        obtain ⟨ts, td0, td1, td2, td3, td4, td5, tl⟩ := TkS.b2_4 (d0 := (f_132 0).toInt) (d1 := (f_132 1).toInt) (d2 := (f_132 2).toInt) (d3 := (f_132 3).toInt) (d4 := (f_132 4).toInt) (d5 := (f_132 5).toInt) (L1 := x_128.toInt) hf4_2_2 (by omega) (by omega) (by omega) (by omega) (by omega) (by omega) (by omega) (by omega) (by omega) (by omega)
        have hl := lv_sub hl [0, 3, 4, 1] rfl
        exact lp_4_3 x_128 f_132 (by omega) (by omega) ts td0 td1 td2 td3 td4 td5 _ _ _ hP hD hS hl
      · skip
        refine lv_iadd hx hb dX0_takeUp_34 ?_
        refine lv_topi (fun x_139 ex_139 => ?_)
        have tx_139 : x_139.toInt = (L2.toInt + r_114.toInt) := by rw [ex_139]; exact add_ti (a := L2.toInt) (b := r_114.toInt) rfl rfl (by omega) (by omega)
        refine lv_istore_n (lv' := [(2, .int x_139), (4, .int r_97), (3, .int 2), (0, .ref A_self), (1, .int a1)]) hx hb dX0_takeUp_35 rfl hl (by decide) rfl (fun ls hl => ?_)
        refine lv_aload_n hx hb dX0_takeUp_36 rfl (lv_at hl 3 rfl) ?_
        refine va_get (D := D) (ci := 0) (v := .ref A_counters) (C := RX0) (T := TX0) (N := 1) hx hb hts (fun _ h => List.mem_cons_of_mem _ (List.mem_append_right _ h)) hown hK hP 0 rfl rfl 0 (by decide) (hts (.fieldLink RX0 9 "CrownTable$Cloth" "counters" "[I") (mem_i 1 rfl)) (fun _ h9 => h9) rfl dX0_takeUp_37 ?_
        refine lv_iload_n hx hb dX0_takeUp_40 rfl (lv_at hl 2 rfl) ?_
        refine lv_dup2_11 hx hb dX0_takeUp_41 rfl rfl ?_
        refine va_iald hx hb hK hP 1 1 rfl rfl (vin (a := 2) (by decide) (by decide) (by decide)) dX0_takeUp_42 ?_
        refine lv_topi (fun x_140 ex_140 => ?_)
        have lf_141 : (f_116 2).toInt = x_140.toInt := by rw [ex_140]; rfl
        refine lv_iload hx hb dX0_takeUp_43 (lv_at hl 1 rfl) ?_
        refine lv_isub hx hb dX0_takeUp_45 ?_
        refine lv_topi (fun x_142 ex_142 => ?_)
        have tx_142 : x_142.toInt = (x_140.toInt - r_97.toInt) := by rw [ex_142]; exact sub_ti (a := x_140.toInt) (b := r_97.toInt) rfl rfl (by omega) (by omega)
        refine va_iast hx hb hK hP hD hS 1 1 rfl rfl (vin (a := 2) (by decide) (by decide) (by decide)) dX0_takeUp_46 (fun H locs hP hD hS => ?_)
        obtain ⟨f_143, ef_143, hP, hD⟩ : ∃ f_143 : Nat → Int32, f_143 = upd f_116 (2 : Int32).toNatClampNeg x_142 ∧ va_P D vwCl [(A_self, .inr (0, [.ref A_counters])), (A_counters, .inl (c 1, 6, .inl f_143))] H ∧ va_D A [(A_self, .inr (0, [.ref A_counters])), (A_counters, .inl (c 1, 6, .inl f_143))] := ⟨_, rfl, hP, hD⟩
        have cl_144 : (f_143 0).toInt = (f_116 0).toInt := by rw [ef_143]; rfl
        have cl_145 : (f_143 1).toInt = (f_116 1).toInt := by rw [ef_143]; rfl
        have cl_146 : (f_143 2).toInt = x_142.toInt := by rw [ef_143]; rfl
        have cl_147 : (f_143 3).toInt = (f_116 3).toInt := by rw [ef_143]; rfl
        have cl_148 : (f_143 4).toInt = (f_116 4).toInt := by rw [ef_143]; rfl
        have cl_149 : (f_143 5).toInt = (f_116 5).toInt := by rw [ef_143]; rfl
        refine lv_iinc (v := 3) (lv' := [(3, .int 3), (2, .int x_139), (4, .int r_97), (0, .ref A_self), (1, .int a1)]) hx hb dX0_takeUp_47 hl (k := 2) rfl (by decide) (by decide) rfl (fun ls hl => ?_)
        refine lv_goto (tgt := 4) hx hb dX0_takeUp_50 (by decide) ?_
        obtain ⟨ts, td0, td1, td2, td3, td4, td5, tl⟩ := TkS.b2_5 (d0 := (f_143 0).toInt) (d1 := (f_143 1).toInt) (d2 := (f_143 2).toInt) (d3 := (f_143 3).toInt) (d4 := (f_143 4).toInt) (d5 := (f_143 5).toInt) (L1 := x_139.toInt) hf4_2_2 (by omega) (by omega) (by omega) (by omega) (by omega) (by omega) (by omega) (by omega) (by omega) (by omega) (by omega)
        have hl := lv_sub hl [0, 3, 4, 1] rfl
        exact lp_4_3 x_139 f_143 (by omega) (by omega) ts td0 td1 td2 td3 td4 td5 _ _ _ hP hD hS hl
      · skip
        exact (TkS.n2 hf4_2_2 (by omega) (by omega) (by omega) (by omega)).elim
  have lp_4_1 : ∀ (L2 : Int32) (M_counters : Nat → Int32) (hf4_1_0 : 0 ≤ L2.toInt) (hf4_1_1 : L2.toInt ≤ 5) (hf4_1_2 : TkS1 (f_counters 0).toInt (f_counters 1).toInt (f_counters 2).toInt (f_counters 3).toInt (f_counters 4).toInt (f_counters 5).toInt (M_counters 0).toInt (M_counters 1).toInt (M_counters 2).toInt (M_counters 3).toInt (M_counters 4).toInt (M_counters 5).toInt n0 n1 n2 n3 n4 n5 L2.toInt) (hf4_1_3 : 0 ≤ (M_counters 0).toInt ∧ (M_counters 0).toInt ≤ 11) (hf4_1_4 : 0 ≤ (M_counters 1).toInt ∧ (M_counters 1).toInt ≤ 19) (hf4_1_5 : 0 ≤ (M_counters 2).toInt ∧ (M_counters 2).toInt ≤ 19) (hf4_1_6 : 0 ≤ (M_counters 3).toInt ∧ (M_counters 3).toInt ≤ 4) (hf4_1_7 : 0 ≤ (M_counters 4).toInt ∧ (M_counters 4).toInt ≤ 9) (hf4_1_8 : 0 ≤ (M_counters 5).toInt ∧ (M_counters 5).toInt ≤ 900000) (H : Heap) (locs : List Loc) (ls : Array Slot), va_P D vwCl [(A_self, .inr (0, [.ref A_counters])), (A_counters, .inl (c 1, 6, .inl M_counters))] H → va_D A [(A_self, .inr (0, [.ref A_counters])), (A_counters, .inl (c 1, 6, .inl M_counters))] → va_S A s.heap H locs → lv_has ls 5 [(3, .int 1), (0, .ref A_self), (1, .int a1), (2, .int L2)] → W p l e (headSpec wsX0_takeUp ({ frames := 1, cells := 0, slots := 0, locals := 23 })).room s m (([.ref A_self, .int a1] : List Value).toArray) below meth cd H locs 0 0 (MQ below (va_Qi (fun (r : Int32) (u : (Nat → Int32) × Unit) => (TakI (f_counters 0).toInt (f_counters 1).toInt (f_counters 2).toInt (f_counters 3).toInt (f_counters 4).toInt (f_counters 5).toInt (u.1 0).toInt (u.1 1).toInt (u.1 2).toInt (u.1 3).toInt (u.1 4).toInt (u.1 5).toInt i_a1 r.toInt) ∧ (0 ≤ (u.1 0).toInt ∧ (u.1 0).toInt ≤ 11) ∧ (0 ≤ (u.1 1).toInt ∧ (u.1 1).toInt ≤ 19) ∧ (0 ≤ (u.1 2).toInt ∧ (u.1 2).toInt ≤ 19) ∧ (0 ≤ (u.1 3).toInt ∧ (u.1 3).toInt ≤ 4) ∧ (0 ≤ (u.1 4).toInt ∧ (u.1 4).toInt ≤ 9)) (fun u t => va_P D vwCl [(A_self, .inr (0, [.ref A_counters])), (A_counters, .inl (c 1, 6, .inl u.1))] t.heap ∧ va_D A [(A_self, .inr (0, [.ref A_counters])), (A_counters, .inl (c 1, 6, .inl u.1))]) A) ([.ref A_self, .int a1] : List Value).toArray s 0 0 A) (F0 m 4 ls []) := by
    intro L2 M_counters hf4_1_0 hf4_1_1 hf4_1_2 hf4_1_3 hf4_1_4 hf4_1_5 hf4_1_6 hf4_1_7 hf4_1_8 H locs ls hP hD hS hl
    clear tv
    refine lv_iload_n hx hb dX0_takeUp_4 rfl (lv_at hl 0 rfl) ?_
    refine lv_bipush (v := 6) hx hb dX0_takeUp_5 (by decide) ?_
    refine iicmp_geF (a := 1) (b := 6) (tgt := 53) hx hb (by decide) (by decide) dX0_takeUp_7 (by decide) (by decide) ?_
    refine lv_iload_n hx hb dX0_takeUp_10 rfl (lv_at hl 2 rfl) ?_
    refine lv_iload_n hx hb dX0_takeUp_11 rfl (lv_at hl 0 rfl) ?_
    have hPc := hP.sub (ws' := []) [] rfl
    have hDc := hD.sub (ws' := []) [] (by decide) rfl
    have hFc := va_free (wc := []) hD hS hA [] rfl
    have kzz_150 : (1 : Int32).toInt = 1 := by decide
    refine va_csi (va_runS (As := [.int a1, .int 1]) (rest := []) ⟨hx, hb, hml, hown, hts⟩ (k_X0_notches_P l D c ts H.size a1 i_a1 hi_a1 1 1 (by decide) (by omega) (by omega)) (cwS 2 hts gX0_takeUp_X0_notches rfl rfl rfl ⟨rfl, hdX0_notches⟩ ⟨(show 0 + 1 ≤ 1 by decide), (show 8 + (2 + 11) + 0 ≤ 23 by decide)⟩) ⟨Pre0.blind, Pre0.at hPc hDc hAm hSt hS hFc⟩ rfl rfl hl.1 rfl (lv_room (Nat.le_of_ble_eq_true rfl)) dX0_takeUp_12 ⟨(show 0 + 0 ≤ 0 by decide), (show 0 + 0 ≤ 0 by decide)⟩) (fun r_152 hw_151 => ?_)
    have nf_153 : r_152.toInt = n1 := (hw_151.2.2.1 rfl).trans hDg.2.1
    clear hw_151
    have rg_r_152 := i32r r_152
    refine lv_istore (lv' := [(4, .int r_152), (3, .int 1), (0, .ref A_self), (1, .int a1), (2, .int L2)]) hx hb dX0_takeUp_15 hl (by decide) rfl (fun ls hl => ?_)
    refine lv_aload_n hx hb dX0_takeUp_17 rfl (lv_at hl 2 rfl) ?_
    refine va_get (D := D) (ci := 0) (v := .ref A_counters) (C := RX0) (T := TX0) (N := 1) hx hb hts (fun _ h => List.mem_cons_of_mem _ (List.mem_append_right _ h)) hown hK hP 0 rfl rfl 0 (by decide) (hts (.fieldLink RX0 9 "CrownTable$Cloth" "counters" "[I") (mem_i 1 rfl)) (fun _ h9 => h9) rfl dX0_takeUp_18 ?_
    refine lv_iload_n hx hb dX0_takeUp_21 rfl (lv_at hl 1 rfl) ?_
    refine va_iald hx hb hK hP 1 1 rfl rfl (vin (a := 1) (by decide) (by decide) (by decide)) dX0_takeUp_22 ?_
    refine lv_topi (fun x_154 ex_154 => ?_)
    have lf_155 : (M_counters 1).toInt = x_154.toInt := by rw [ex_154]; rfl
    refine lv_iload hx hb dX0_takeUp_23 (lv_at hl 0 rfl) ?_
    refine iicmp_ge (a := x_154.toInt) (b := r_152.toInt) (tgt := 36) hx hb rfl rfl dX0_takeUp_25 (by decide) (fun k_156 => ?_) (fun k_156 => ?_)
    · skip
      refine lv_aload_n hx hb dX0_takeUp_36 rfl (lv_at hl 2 rfl) ?_
      refine va_get (D := D) (ci := 0) (v := .ref A_counters) (C := RX0) (T := TX0) (N := 1) hx hb hts (fun _ h => List.mem_cons_of_mem _ (List.mem_append_right _ h)) hown hK hP 0 rfl rfl 0 (by decide) (hts (.fieldLink RX0 9 "CrownTable$Cloth" "counters" "[I") (mem_i 1 rfl)) (fun _ h9 => h9) rfl dX0_takeUp_37 ?_
      refine lv_iload_n hx hb dX0_takeUp_40 rfl (lv_at hl 1 rfl) ?_
      refine lv_dup2_11 hx hb dX0_takeUp_41 rfl rfl ?_
      refine va_iald hx hb hK hP 1 1 rfl rfl (vin (a := 1) (by decide) (by decide) (by decide)) dX0_takeUp_42 ?_
      refine lv_topi (fun x_157 ex_157 => ?_)
      have lf_158 : (M_counters 1).toInt = x_157.toInt := by rw [ex_157]; rfl
      refine lv_iload hx hb dX0_takeUp_43 (lv_at hl 0 rfl) ?_
      refine lv_isub hx hb dX0_takeUp_45 ?_
      refine lv_topi (fun x_159 ex_159 => ?_)
      have tx_159 : x_159.toInt = (x_157.toInt - r_152.toInt) := by rw [ex_159]; exact sub_ti (a := x_157.toInt) (b := r_152.toInt) rfl rfl (by omega) (by omega)
      refine va_iast hx hb hK hP hD hS 1 1 rfl rfl (vin (a := 1) (by decide) (by decide) (by decide)) dX0_takeUp_46 (fun H locs hP hD hS => ?_)
      obtain ⟨f_160, ef_160, hP, hD⟩ : ∃ f_160 : Nat → Int32, f_160 = upd M_counters (1 : Int32).toNatClampNeg x_159 ∧ va_P D vwCl [(A_self, .inr (0, [.ref A_counters])), (A_counters, .inl (c 1, 6, .inl f_160))] H ∧ va_D A [(A_self, .inr (0, [.ref A_counters])), (A_counters, .inl (c 1, 6, .inl f_160))] := ⟨_, rfl, hP, hD⟩
      have cl_161 : (f_160 0).toInt = (M_counters 0).toInt := by rw [ef_160]; rfl
      have cl_162 : (f_160 1).toInt = x_159.toInt := by rw [ef_160]; rfl
      have cl_163 : (f_160 2).toInt = (M_counters 2).toInt := by rw [ef_160]; rfl
      have cl_164 : (f_160 3).toInt = (M_counters 3).toInt := by rw [ef_160]; rfl
      have cl_165 : (f_160 4).toInt = (M_counters 4).toInt := by rw [ef_160]; rfl
      have cl_166 : (f_160 5).toInt = (M_counters 5).toInt := by rw [ef_160]; rfl
      refine lv_iinc (v := 2) (lv' := [(3, .int 2), (4, .int r_152), (0, .ref A_self), (1, .int a1), (2, .int L2)]) hx hb dX0_takeUp_47 hl (k := 1) rfl (by decide) (by decide) rfl (fun ls hl => ?_)
      refine lv_goto (tgt := 4) hx hb dX0_takeUp_50 (by decide) ?_
      obtain ⟨ts, td0, td1, td2, td3, td4, td5, tl⟩ := TkS.s1 (d0 := (f_160 0).toInt) (d1 := (f_160 1).toInt) (d2 := (f_160 2).toInt) (d3 := (f_160 3).toInt) (d4 := (f_160 4).toInt) (d5 := (f_160 5).toInt) hf4_1_2 (by omega) (by omega) (by omega) (by omega) (by omega) (by omega) (by omega)
      have hl := lv_sub hl [0, 2, 3, 4] rfl
      exact lp_4_2 L2 f_160 (by omega) (by omega) ts td0 td1 td2 td3 td4 td5 _ _ _ hP hD hS hl
    · skip
      refine lv_iload_n hx hb dX0_takeUp_28 rfl (lv_at hl 4 rfl) ?_
      refine lv_aload_n hx hb dX0_takeUp_29 rfl (lv_at hl 2 rfl) ?_
      refine lv_iload_n hx hb dX0_takeUp_30 rfl (lv_at hl 1 rfl) ?_
      have hPc := hP.sub (ws' := [(A_self, .inr (0, [.ref A_counters])), (A_counters, .inl (c 1, 6, .inl M_counters))]) [0, 1] rfl
      have hDc := hD.sub (ws' := [(A_self, .inr (0, [.ref A_counters])), (A_counters, .inl (c 1, 6, .inl M_counters))]) [0, 1] (by decide) rfl
      have hFc := va_free (wc := [(A_self, .inr (0, [.ref A_counters])), (A_counters, .inl (c 1, 6, .inl M_counters))]) hD hS hA [0, 1] rfl
      have kzz_167 : (1 : Int32).toInt = 1 := by decide
      refine va_calli (va_runV (As := [.int 1]) (rest := [.int L2]) ⟨hx, hb, hml, hown, hts⟩ (k_X0_bringDown l D c ts H.size A_counters A_self M_counters 1 1 (by decide) (by omega) (by omega) (by omega) (by omega) (by omega) (by omega) (by omega)) (cwV 1 hts gX0_takeUp_X0_bringDown rfl rfl rfl ⟨rfl, hdX0_bringDown⟩ ⟨(show 0 + 1 ≤ 1 by decide), (show 8 + (4 + 11) + 0 ≤ 23 by decide)⟩) ⟨Pre0.blind, va_recv hK hPc (ci := 0) (q0 := 0) rfl rfl, Pre0.at hPc hDc hAm hSt hS hFc⟩ rfl rfl hl.1 rfl (lv_room (Nat.le_of_ble_eq_true rfl)) dX0_takeUp_31 ⟨(show 0 + 0 ≤ 0 by decide), (show 0 + 0 ≤ 0 by decide)⟩) hS (fun q _ h => hFc q h) hFc (fun r_169 u_170 t1 H locs ht hvm hw_168 hB_9 hz1_9 hk1_9 hS => ?_)
      obtain ⟨f_171, _⟩ := u_170
      have hw_168 : (BdI (1 : Int) (M_counters 0).toInt (M_counters 1).toInt (M_counters 2).toInt (M_counters 3).toInt (M_counters 4).toInt (M_counters 5).toInt (f_171 0).toInt (f_171 1).toInt (f_171 2).toInt (f_171 3).toInt (f_171 4).toInt (f_171 5).toInt r_169.toInt) := hw_168
      obtain ⟨hP1_9, hD1_9⟩ := hB_9
      rw [ht] at hP1_9
      have hP1_9 : va_P D vwCl [(A_self, .inr (0, [.ref A_counters])), (A_counters, .inl (c 1, 6, .inl f_171))] H := hP1_9
      obtain ⟨hP, hD⟩ := va_join (wr := []) (w1 := [(A_self, .inr (0, [.ref A_counters])), (A_counters, .inl (c 1, 6, .inl f_171))]) hP hD [0, 1] [] rfl rfl (by decide) (by decide) hk1_9 hFc hP1_9 hD1_9
      have hP : va_P D vwCl [(A_self, .inr (0, [.ref A_counters])), (A_counters, .inl (c 1, 6, .inl f_171))] H := hP
      have hD : va_D A [(A_self, .inr (0, [.ref A_counters])), (A_counters, .inl (c 1, 6, .inl f_171))] := hD
      refine W.widen (k := 0) (n := 0) (by omega) (by omega) ?_
      have rg_r_169 := i32r r_169
      have bd9 := BdI.e1 hw_168
      rcases bd9 with ⟨bd_0, bd_1, bd_2, bd_3, bd_4, bd_5, bd_6, bd_7⟩ | ⟨bd_0, bd_1, bd_2, bd_3, bd_4, bd_5, bd_6, bd_7, bd_8⟩ | ⟨bd_0, bd_1, bd_2, bd_3, bd_4, bd_5, bd_6, bd_7, bd_8, bd_9⟩ | ⟨bd_0, bd_1, bd_2, bd_3, bd_4, bd_5, bd_6, bd_7, bd_8, bd_9, bd_10⟩ | ⟨bd_0, bd_1, bd_2, bd_3, bd_4, bd_5, bd_6, bd_7, bd_8, bd_9, bd_10⟩
      · skip
        refine lv_iadd hx hb dX0_takeUp_34 ?_
        refine lv_topi (fun x_172 ex_172 => ?_)
        have tx_172 : x_172.toInt = (L2.toInt + r_169.toInt) := by rw [ex_172]; exact add_ti (a := L2.toInt) (b := r_169.toInt) rfl rfl (by omega) (by omega)
        refine lv_istore_n (lv' := [(2, .int x_172), (4, .int r_152), (3, .int 1), (0, .ref A_self), (1, .int a1)]) hx hb dX0_takeUp_35 rfl hl (by decide) rfl (fun ls hl => ?_)
        refine lv_aload_n hx hb dX0_takeUp_36 rfl (lv_at hl 3 rfl) ?_
        refine va_get (D := D) (ci := 0) (v := .ref A_counters) (C := RX0) (T := TX0) (N := 1) hx hb hts (fun _ h => List.mem_cons_of_mem _ (List.mem_append_right _ h)) hown hK hP 0 rfl rfl 0 (by decide) (hts (.fieldLink RX0 9 "CrownTable$Cloth" "counters" "[I") (mem_i 1 rfl)) (fun _ h9 => h9) rfl dX0_takeUp_37 ?_
        refine lv_iload_n hx hb dX0_takeUp_40 rfl (lv_at hl 2 rfl) ?_
        refine lv_dup2_11 hx hb dX0_takeUp_41 rfl rfl ?_
        refine va_iald hx hb hK hP 1 1 rfl rfl (vin (a := 1) (by decide) (by decide) (by decide)) dX0_takeUp_42 ?_
        refine lv_topi (fun x_173 ex_173 => ?_)
        have lf_174 : (f_171 1).toInt = x_173.toInt := by rw [ex_173]; rfl
        refine lv_iload hx hb dX0_takeUp_43 (lv_at hl 1 rfl) ?_
        refine lv_isub hx hb dX0_takeUp_45 ?_
        refine lv_topi (fun x_175 ex_175 => ?_)
        have tx_175 : x_175.toInt = (x_173.toInt - r_152.toInt) := by rw [ex_175]; exact sub_ti (a := x_173.toInt) (b := r_152.toInt) rfl rfl (by omega) (by omega)
        refine va_iast hx hb hK hP hD hS 1 1 rfl rfl (vin (a := 1) (by decide) (by decide) (by decide)) dX0_takeUp_46 (fun H locs hP hD hS => ?_)
        obtain ⟨f_176, ef_176, hP, hD⟩ : ∃ f_176 : Nat → Int32, f_176 = upd f_171 (1 : Int32).toNatClampNeg x_175 ∧ va_P D vwCl [(A_self, .inr (0, [.ref A_counters])), (A_counters, .inl (c 1, 6, .inl f_176))] H ∧ va_D A [(A_self, .inr (0, [.ref A_counters])), (A_counters, .inl (c 1, 6, .inl f_176))] := ⟨_, rfl, hP, hD⟩
        have cl_177 : (f_176 0).toInt = (f_171 0).toInt := by rw [ef_176]; rfl
        have cl_178 : (f_176 1).toInt = x_175.toInt := by rw [ef_176]; rfl
        have cl_179 : (f_176 2).toInt = (f_171 2).toInt := by rw [ef_176]; rfl
        have cl_180 : (f_176 3).toInt = (f_171 3).toInt := by rw [ef_176]; rfl
        have cl_181 : (f_176 4).toInt = (f_171 4).toInt := by rw [ef_176]; rfl
        have cl_182 : (f_176 5).toInt = (f_171 5).toInt := by rw [ef_176]; rfl
        refine lv_iinc (v := 2) (lv' := [(3, .int 2), (2, .int x_172), (4, .int r_152), (0, .ref A_self), (1, .int a1)]) hx hb dX0_takeUp_47 hl (k := 2) rfl (by decide) (by decide) rfl (fun ls hl => ?_)
        refine lv_goto (tgt := 4) hx hb dX0_takeUp_50 (by decide) ?_
        obtain ⟨ts, td0, td1, td2, td3, td4, td5, tl⟩ := TkS.b1_2 (d0 := (f_176 0).toInt) (d1 := (f_176 1).toInt) (d2 := (f_176 2).toInt) (d3 := (f_176 3).toInt) (d4 := (f_176 4).toInt) (d5 := (f_176 5).toInt) (L1 := x_172.toInt) hf4_1_2 (by omega) (by omega) (by omega) (by omega) (by omega) (by omega) (by omega) (by omega) (by omega)
        have hl := lv_sub hl [0, 3, 4, 1] rfl
        exact lp_4_2 x_172 f_176 (by omega) (by omega) ts td0 td1 td2 td3 td4 td5 _ _ _ hP hD hS hl
      · skip
        refine lv_iadd hx hb dX0_takeUp_34 ?_
        refine lv_topi (fun x_183 ex_183 => ?_)
        have tx_183 : x_183.toInt = (L2.toInt + r_169.toInt) := by rw [ex_183]; exact add_ti (a := L2.toInt) (b := r_169.toInt) rfl rfl (by omega) (by omega)
        refine lv_istore_n (lv' := [(2, .int x_183), (4, .int r_152), (3, .int 1), (0, .ref A_self), (1, .int a1)]) hx hb dX0_takeUp_35 rfl hl (by decide) rfl (fun ls hl => ?_)
        refine lv_aload_n hx hb dX0_takeUp_36 rfl (lv_at hl 3 rfl) ?_
        refine va_get (D := D) (ci := 0) (v := .ref A_counters) (C := RX0) (T := TX0) (N := 1) hx hb hts (fun _ h => List.mem_cons_of_mem _ (List.mem_append_right _ h)) hown hK hP 0 rfl rfl 0 (by decide) (hts (.fieldLink RX0 9 "CrownTable$Cloth" "counters" "[I") (mem_i 1 rfl)) (fun _ h9 => h9) rfl dX0_takeUp_37 ?_
        refine lv_iload_n hx hb dX0_takeUp_40 rfl (lv_at hl 2 rfl) ?_
        refine lv_dup2_11 hx hb dX0_takeUp_41 rfl rfl ?_
        refine va_iald hx hb hK hP 1 1 rfl rfl (vin (a := 1) (by decide) (by decide) (by decide)) dX0_takeUp_42 ?_
        refine lv_topi (fun x_184 ex_184 => ?_)
        have lf_185 : (f_171 1).toInt = x_184.toInt := by rw [ex_184]; rfl
        refine lv_iload hx hb dX0_takeUp_43 (lv_at hl 1 rfl) ?_
        refine lv_isub hx hb dX0_takeUp_45 ?_
        refine lv_topi (fun x_186 ex_186 => ?_)
        have tx_186 : x_186.toInt = (x_184.toInt - r_152.toInt) := by rw [ex_186]; exact sub_ti (a := x_184.toInt) (b := r_152.toInt) rfl rfl (by omega) (by omega)
        refine va_iast hx hb hK hP hD hS 1 1 rfl rfl (vin (a := 1) (by decide) (by decide) (by decide)) dX0_takeUp_46 (fun H locs hP hD hS => ?_)
        obtain ⟨f_187, ef_187, hP, hD⟩ : ∃ f_187 : Nat → Int32, f_187 = upd f_171 (1 : Int32).toNatClampNeg x_186 ∧ va_P D vwCl [(A_self, .inr (0, [.ref A_counters])), (A_counters, .inl (c 1, 6, .inl f_187))] H ∧ va_D A [(A_self, .inr (0, [.ref A_counters])), (A_counters, .inl (c 1, 6, .inl f_187))] := ⟨_, rfl, hP, hD⟩
        have cl_188 : (f_187 0).toInt = (f_171 0).toInt := by rw [ef_187]; rfl
        have cl_189 : (f_187 1).toInt = x_186.toInt := by rw [ef_187]; rfl
        have cl_190 : (f_187 2).toInt = (f_171 2).toInt := by rw [ef_187]; rfl
        have cl_191 : (f_187 3).toInt = (f_171 3).toInt := by rw [ef_187]; rfl
        have cl_192 : (f_187 4).toInt = (f_171 4).toInt := by rw [ef_187]; rfl
        have cl_193 : (f_187 5).toInt = (f_171 5).toInt := by rw [ef_187]; rfl
        refine lv_iinc (v := 2) (lv' := [(3, .int 2), (2, .int x_183), (4, .int r_152), (0, .ref A_self), (1, .int a1)]) hx hb dX0_takeUp_47 hl (k := 2) rfl (by decide) (by decide) rfl (fun ls hl => ?_)
        refine lv_goto (tgt := 4) hx hb dX0_takeUp_50 (by decide) ?_
        obtain ⟨ts, td0, td1, td2, td3, td4, td5, tl⟩ := TkS.b1_3 (d0 := (f_187 0).toInt) (d1 := (f_187 1).toInt) (d2 := (f_187 2).toInt) (d3 := (f_187 3).toInt) (d4 := (f_187 4).toInt) (d5 := (f_187 5).toInt) (L1 := x_183.toInt) hf4_1_2 (by omega) (by omega) (by omega) (by omega) (by omega) (by omega) (by omega) (by omega) (by omega) (by omega)
        have hl := lv_sub hl [0, 3, 4, 1] rfl
        exact lp_4_2 x_183 f_187 (by omega) (by omega) ts td0 td1 td2 td3 td4 td5 _ _ _ hP hD hS hl
      · skip
        refine lv_iadd hx hb dX0_takeUp_34 ?_
        refine lv_topi (fun x_194 ex_194 => ?_)
        have tx_194 : x_194.toInt = (L2.toInt + r_169.toInt) := by rw [ex_194]; exact add_ti (a := L2.toInt) (b := r_169.toInt) rfl rfl (by omega) (by omega)
        refine lv_istore_n (lv' := [(2, .int x_194), (4, .int r_152), (3, .int 1), (0, .ref A_self), (1, .int a1)]) hx hb dX0_takeUp_35 rfl hl (by decide) rfl (fun ls hl => ?_)
        refine lv_aload_n hx hb dX0_takeUp_36 rfl (lv_at hl 3 rfl) ?_
        refine va_get (D := D) (ci := 0) (v := .ref A_counters) (C := RX0) (T := TX0) (N := 1) hx hb hts (fun _ h => List.mem_cons_of_mem _ (List.mem_append_right _ h)) hown hK hP 0 rfl rfl 0 (by decide) (hts (.fieldLink RX0 9 "CrownTable$Cloth" "counters" "[I") (mem_i 1 rfl)) (fun _ h9 => h9) rfl dX0_takeUp_37 ?_
        refine lv_iload_n hx hb dX0_takeUp_40 rfl (lv_at hl 2 rfl) ?_
        refine lv_dup2_11 hx hb dX0_takeUp_41 rfl rfl ?_
        refine va_iald hx hb hK hP 1 1 rfl rfl (vin (a := 1) (by decide) (by decide) (by decide)) dX0_takeUp_42 ?_
        refine lv_topi (fun x_195 ex_195 => ?_)
        have lf_196 : (f_171 1).toInt = x_195.toInt := by rw [ex_195]; rfl
        refine lv_iload hx hb dX0_takeUp_43 (lv_at hl 1 rfl) ?_
        refine lv_isub hx hb dX0_takeUp_45 ?_
        refine lv_topi (fun x_197 ex_197 => ?_)
        have tx_197 : x_197.toInt = (x_195.toInt - r_152.toInt) := by rw [ex_197]; exact sub_ti (a := x_195.toInt) (b := r_152.toInt) rfl rfl (by omega) (by omega)
        refine va_iast hx hb hK hP hD hS 1 1 rfl rfl (vin (a := 1) (by decide) (by decide) (by decide)) dX0_takeUp_46 (fun H locs hP hD hS => ?_)
        obtain ⟨f_198, ef_198, hP, hD⟩ : ∃ f_198 : Nat → Int32, f_198 = upd f_171 (1 : Int32).toNatClampNeg x_197 ∧ va_P D vwCl [(A_self, .inr (0, [.ref A_counters])), (A_counters, .inl (c 1, 6, .inl f_198))] H ∧ va_D A [(A_self, .inr (0, [.ref A_counters])), (A_counters, .inl (c 1, 6, .inl f_198))] := ⟨_, rfl, hP, hD⟩
        have cl_199 : (f_198 0).toInt = (f_171 0).toInt := by rw [ef_198]; rfl
        have cl_200 : (f_198 1).toInt = x_197.toInt := by rw [ef_198]; rfl
        have cl_201 : (f_198 2).toInt = (f_171 2).toInt := by rw [ef_198]; rfl
        have cl_202 : (f_198 3).toInt = (f_171 3).toInt := by rw [ef_198]; rfl
        have cl_203 : (f_198 4).toInt = (f_171 4).toInt := by rw [ef_198]; rfl
        have cl_204 : (f_198 5).toInt = (f_171 5).toInt := by rw [ef_198]; rfl
        refine lv_iinc (v := 2) (lv' := [(3, .int 2), (2, .int x_194), (4, .int r_152), (0, .ref A_self), (1, .int a1)]) hx hb dX0_takeUp_47 hl (k := 2) rfl (by decide) (by decide) rfl (fun ls hl => ?_)
        refine lv_goto (tgt := 4) hx hb dX0_takeUp_50 (by decide) ?_
        obtain ⟨ts, td0, td1, td2, td3, td4, td5, tl⟩ := TkS.b1_4 (d0 := (f_198 0).toInt) (d1 := (f_198 1).toInt) (d2 := (f_198 2).toInt) (d3 := (f_198 3).toInt) (d4 := (f_198 4).toInt) (d5 := (f_198 5).toInt) (L1 := x_194.toInt) hf4_1_2 (by omega) (by omega) (by omega) (by omega) (by omega) (by omega) (by omega) (by omega) (by omega) (by omega) (by omega)
        have hl := lv_sub hl [0, 3, 4, 1] rfl
        exact lp_4_2 x_194 f_198 (by omega) (by omega) ts td0 td1 td2 td3 td4 td5 _ _ _ hP hD hS hl
      · skip
        refine lv_iadd hx hb dX0_takeUp_34 ?_
        refine lv_topi (fun x_205 ex_205 => ?_)
        have tx_205 : x_205.toInt = (L2.toInt + r_169.toInt) := by rw [ex_205]; exact add_ti (a := L2.toInt) (b := r_169.toInt) rfl rfl (by omega) (by omega)
        refine lv_istore_n (lv' := [(2, .int x_205), (4, .int r_152), (3, .int 1), (0, .ref A_self), (1, .int a1)]) hx hb dX0_takeUp_35 rfl hl (by decide) rfl (fun ls hl => ?_)
        refine lv_aload_n hx hb dX0_takeUp_36 rfl (lv_at hl 3 rfl) ?_
        refine va_get (D := D) (ci := 0) (v := .ref A_counters) (C := RX0) (T := TX0) (N := 1) hx hb hts (fun _ h => List.mem_cons_of_mem _ (List.mem_append_right _ h)) hown hK hP 0 rfl rfl 0 (by decide) (hts (.fieldLink RX0 9 "CrownTable$Cloth" "counters" "[I") (mem_i 1 rfl)) (fun _ h9 => h9) rfl dX0_takeUp_37 ?_
        refine lv_iload_n hx hb dX0_takeUp_40 rfl (lv_at hl 2 rfl) ?_
        refine lv_dup2_11 hx hb dX0_takeUp_41 rfl rfl ?_
        refine va_iald hx hb hK hP 1 1 rfl rfl (vin (a := 1) (by decide) (by decide) (by decide)) dX0_takeUp_42 ?_
        refine lv_topi (fun x_206 ex_206 => ?_)
        have lf_207 : (f_171 1).toInt = x_206.toInt := by rw [ex_206]; rfl
        refine lv_iload hx hb dX0_takeUp_43 (lv_at hl 1 rfl) ?_
        refine lv_isub hx hb dX0_takeUp_45 ?_
        refine lv_topi (fun x_208 ex_208 => ?_)
        have tx_208 : x_208.toInt = (x_206.toInt - r_152.toInt) := by rw [ex_208]; exact sub_ti (a := x_206.toInt) (b := r_152.toInt) rfl rfl (by omega) (by omega)
        refine va_iast hx hb hK hP hD hS 1 1 rfl rfl (vin (a := 1) (by decide) (by decide) (by decide)) dX0_takeUp_46 (fun H locs hP hD hS => ?_)
        obtain ⟨f_209, ef_209, hP, hD⟩ : ∃ f_209 : Nat → Int32, f_209 = upd f_171 (1 : Int32).toNatClampNeg x_208 ∧ va_P D vwCl [(A_self, .inr (0, [.ref A_counters])), (A_counters, .inl (c 1, 6, .inl f_209))] H ∧ va_D A [(A_self, .inr (0, [.ref A_counters])), (A_counters, .inl (c 1, 6, .inl f_209))] := ⟨_, rfl, hP, hD⟩
        have cl_210 : (f_209 0).toInt = (f_171 0).toInt := by rw [ef_209]; rfl
        have cl_211 : (f_209 1).toInt = x_208.toInt := by rw [ef_209]; rfl
        have cl_212 : (f_209 2).toInt = (f_171 2).toInt := by rw [ef_209]; rfl
        have cl_213 : (f_209 3).toInt = (f_171 3).toInt := by rw [ef_209]; rfl
        have cl_214 : (f_209 4).toInt = (f_171 4).toInt := by rw [ef_209]; rfl
        have cl_215 : (f_209 5).toInt = (f_171 5).toInt := by rw [ef_209]; rfl
        refine lv_iinc (v := 2) (lv' := [(3, .int 2), (2, .int x_205), (4, .int r_152), (0, .ref A_self), (1, .int a1)]) hx hb dX0_takeUp_47 hl (k := 2) rfl (by decide) (by decide) rfl (fun ls hl => ?_)
        refine lv_goto (tgt := 4) hx hb dX0_takeUp_50 (by decide) ?_
        obtain ⟨ts, td0, td1, td2, td3, td4, td5, tl⟩ := TkS.b1_5 (d0 := (f_209 0).toInt) (d1 := (f_209 1).toInt) (d2 := (f_209 2).toInt) (d3 := (f_209 3).toInt) (d4 := (f_209 4).toInt) (d5 := (f_209 5).toInt) (L1 := x_205.toInt) hf4_1_2 (by omega) (by omega) (by omega) (by omega) (by omega) (by omega) (by omega) (by omega) (by omega) (by omega) (by omega) (by omega)
        have hl := lv_sub hl [0, 3, 4, 1] rfl
        exact lp_4_2 x_205 f_209 (by omega) (by omega) ts td0 td1 td2 td3 td4 td5 _ _ _ hP hD hS hl
      · skip
        exact (TkS.n1 hf4_1_2 (by omega) (by omega) (by omega) (by omega) (by omega)).elim
  have lp_4_0 : ∀ (L2 : Int32) (M_counters : Nat → Int32) (hf4_0_0 : 0 ≤ L2.toInt) (hf4_0_1 : L2.toInt ≤ 5) (hf4_0_2 : TkS0 (f_counters 0).toInt (f_counters 1).toInt (f_counters 2).toInt (f_counters 3).toInt (f_counters 4).toInt (f_counters 5).toInt (M_counters 0).toInt (M_counters 1).toInt (M_counters 2).toInt (M_counters 3).toInt (M_counters 4).toInt (M_counters 5).toInt n0 n1 n2 n3 n4 n5 L2.toInt) (hf4_0_3 : 0 ≤ (M_counters 0).toInt ∧ (M_counters 0).toInt ≤ 11) (hf4_0_4 : 0 ≤ (M_counters 1).toInt ∧ (M_counters 1).toInt ≤ 19) (hf4_0_5 : 0 ≤ (M_counters 2).toInt ∧ (M_counters 2).toInt ≤ 19) (hf4_0_6 : 0 ≤ (M_counters 3).toInt ∧ (M_counters 3).toInt ≤ 4) (hf4_0_7 : 0 ≤ (M_counters 4).toInt ∧ (M_counters 4).toInt ≤ 9) (hf4_0_8 : 0 ≤ (M_counters 5).toInt ∧ (M_counters 5).toInt ≤ 900000) (H : Heap) (locs : List Loc) (ls : Array Slot), va_P D vwCl [(A_self, .inr (0, [.ref A_counters])), (A_counters, .inl (c 1, 6, .inl M_counters))] H → va_D A [(A_self, .inr (0, [.ref A_counters])), (A_counters, .inl (c 1, 6, .inl M_counters))] → va_S A s.heap H locs → lv_has ls 5 [(3, .int 0), (0, .ref A_self), (1, .int a1), (2, .int L2)] → W p l e (headSpec wsX0_takeUp ({ frames := 1, cells := 0, slots := 0, locals := 23 })).room s m (([.ref A_self, .int a1] : List Value).toArray) below meth cd H locs 0 0 (MQ below (va_Qi (fun (r : Int32) (u : (Nat → Int32) × Unit) => (TakI (f_counters 0).toInt (f_counters 1).toInt (f_counters 2).toInt (f_counters 3).toInt (f_counters 4).toInt (f_counters 5).toInt (u.1 0).toInt (u.1 1).toInt (u.1 2).toInt (u.1 3).toInt (u.1 4).toInt (u.1 5).toInt i_a1 r.toInt) ∧ (0 ≤ (u.1 0).toInt ∧ (u.1 0).toInt ≤ 11) ∧ (0 ≤ (u.1 1).toInt ∧ (u.1 1).toInt ≤ 19) ∧ (0 ≤ (u.1 2).toInt ∧ (u.1 2).toInt ≤ 19) ∧ (0 ≤ (u.1 3).toInt ∧ (u.1 3).toInt ≤ 4) ∧ (0 ≤ (u.1 4).toInt ∧ (u.1 4).toInt ≤ 9)) (fun u t => va_P D vwCl [(A_self, .inr (0, [.ref A_counters])), (A_counters, .inl (c 1, 6, .inl u.1))] t.heap ∧ va_D A [(A_self, .inr (0, [.ref A_counters])), (A_counters, .inl (c 1, 6, .inl u.1))]) A) ([.ref A_self, .int a1] : List Value).toArray s 0 0 A) (F0 m 4 ls []) := by
    intro L2 M_counters hf4_0_0 hf4_0_1 hf4_0_2 hf4_0_3 hf4_0_4 hf4_0_5 hf4_0_6 hf4_0_7 hf4_0_8 H locs ls hP hD hS hl
    clear tv
    refine lv_iload_n hx hb dX0_takeUp_4 rfl (lv_at hl 0 rfl) ?_
    refine lv_bipush (v := 6) hx hb dX0_takeUp_5 (by decide) ?_
    refine iicmp_geF (a := 0) (b := 6) (tgt := 53) hx hb (by decide) (by decide) dX0_takeUp_7 (by decide) (by decide) ?_
    refine lv_iload_n hx hb dX0_takeUp_10 rfl (lv_at hl 2 rfl) ?_
    refine lv_iload_n hx hb dX0_takeUp_11 rfl (lv_at hl 0 rfl) ?_
    have hPc := hP.sub (ws' := []) [] rfl
    have hDc := hD.sub (ws' := []) [] (by decide) rfl
    have hFc := va_free (wc := []) hD hS hA [] rfl
    have kzz_216 : (0 : Int32).toInt = 0 := by decide
    refine va_csi (va_runS (As := [.int a1, .int 0]) (rest := []) ⟨hx, hb, hml, hown, hts⟩ (k_X0_notches_P l D c ts H.size a1 i_a1 hi_a1 0 0 (by decide) (by omega) (by omega)) (cwS 2 hts gX0_takeUp_X0_notches rfl rfl rfl ⟨rfl, hdX0_notches⟩ ⟨(show 0 + 1 ≤ 1 by decide), (show 8 + (2 + 11) + 0 ≤ 23 by decide)⟩) ⟨Pre0.blind, Pre0.at hPc hDc hAm hSt hS hFc⟩ rfl rfl hl.1 rfl (lv_room (Nat.le_of_ble_eq_true rfl)) dX0_takeUp_12 ⟨(show 0 + 0 ≤ 0 by decide), (show 0 + 0 ≤ 0 by decide)⟩) (fun r_218 hw_217 => ?_)
    have nf_219 : r_218.toInt = n0 := (hw_217.2.1 rfl).trans hDg.1
    clear hw_217
    have rg_r_218 := i32r r_218
    refine lv_istore (lv' := [(4, .int r_218), (3, .int 0), (0, .ref A_self), (1, .int a1), (2, .int L2)]) hx hb dX0_takeUp_15 hl (by decide) rfl (fun ls hl => ?_)
    refine lv_aload_n hx hb dX0_takeUp_17 rfl (lv_at hl 2 rfl) ?_
    refine va_get (D := D) (ci := 0) (v := .ref A_counters) (C := RX0) (T := TX0) (N := 1) hx hb hts (fun _ h => List.mem_cons_of_mem _ (List.mem_append_right _ h)) hown hK hP 0 rfl rfl 0 (by decide) (hts (.fieldLink RX0 9 "CrownTable$Cloth" "counters" "[I") (mem_i 1 rfl)) (fun _ h9 => h9) rfl dX0_takeUp_18 ?_
    refine lv_iload_n hx hb dX0_takeUp_21 rfl (lv_at hl 1 rfl) ?_
    refine va_iald hx hb hK hP 1 1 rfl rfl (vin (a := 0) (by decide) (by decide) (by decide)) dX0_takeUp_22 ?_
    refine lv_topi (fun x_220 ex_220 => ?_)
    have lf_221 : (M_counters 0).toInt = x_220.toInt := by rw [ex_220]; rfl
    refine lv_iload hx hb dX0_takeUp_23 (lv_at hl 0 rfl) ?_
    refine iicmp_ge (a := x_220.toInt) (b := r_218.toInt) (tgt := 36) hx hb rfl rfl dX0_takeUp_25 (by decide) (fun k_222 => ?_) (fun k_222 => ?_)
    · skip
      refine lv_aload_n hx hb dX0_takeUp_36 rfl (lv_at hl 2 rfl) ?_
      refine va_get (D := D) (ci := 0) (v := .ref A_counters) (C := RX0) (T := TX0) (N := 1) hx hb hts (fun _ h => List.mem_cons_of_mem _ (List.mem_append_right _ h)) hown hK hP 0 rfl rfl 0 (by decide) (hts (.fieldLink RX0 9 "CrownTable$Cloth" "counters" "[I") (mem_i 1 rfl)) (fun _ h9 => h9) rfl dX0_takeUp_37 ?_
      refine lv_iload_n hx hb dX0_takeUp_40 rfl (lv_at hl 1 rfl) ?_
      refine lv_dup2_11 hx hb dX0_takeUp_41 rfl rfl ?_
      refine va_iald hx hb hK hP 1 1 rfl rfl (vin (a := 0) (by decide) (by decide) (by decide)) dX0_takeUp_42 ?_
      refine lv_topi (fun x_223 ex_223 => ?_)
      have lf_224 : (M_counters 0).toInt = x_223.toInt := by rw [ex_223]; rfl
      refine lv_iload hx hb dX0_takeUp_43 (lv_at hl 0 rfl) ?_
      refine lv_isub hx hb dX0_takeUp_45 ?_
      refine lv_topi (fun x_225 ex_225 => ?_)
      have tx_225 : x_225.toInt = (x_223.toInt - r_218.toInt) := by rw [ex_225]; exact sub_ti (a := x_223.toInt) (b := r_218.toInt) rfl rfl (by omega) (by omega)
      refine va_iast hx hb hK hP hD hS 1 1 rfl rfl (vin (a := 0) (by decide) (by decide) (by decide)) dX0_takeUp_46 (fun H locs hP hD hS => ?_)
      obtain ⟨f_226, ef_226, hP, hD⟩ : ∃ f_226 : Nat → Int32, f_226 = upd M_counters (0 : Int32).toNatClampNeg x_225 ∧ va_P D vwCl [(A_self, .inr (0, [.ref A_counters])), (A_counters, .inl (c 1, 6, .inl f_226))] H ∧ va_D A [(A_self, .inr (0, [.ref A_counters])), (A_counters, .inl (c 1, 6, .inl f_226))] := ⟨_, rfl, hP, hD⟩
      have cl_227 : (f_226 0).toInt = x_225.toInt := by rw [ef_226]; rfl
      have cl_228 : (f_226 1).toInt = (M_counters 1).toInt := by rw [ef_226]; rfl
      have cl_229 : (f_226 2).toInt = (M_counters 2).toInt := by rw [ef_226]; rfl
      have cl_230 : (f_226 3).toInt = (M_counters 3).toInt := by rw [ef_226]; rfl
      have cl_231 : (f_226 4).toInt = (M_counters 4).toInt := by rw [ef_226]; rfl
      have cl_232 : (f_226 5).toInt = (M_counters 5).toInt := by rw [ef_226]; rfl
      refine lv_iinc (v := 1) (lv' := [(3, .int 1), (4, .int r_218), (0, .ref A_self), (1, .int a1), (2, .int L2)]) hx hb dX0_takeUp_47 hl (k := 1) rfl (by decide) (by decide) rfl (fun ls hl => ?_)
      refine lv_goto (tgt := 4) hx hb dX0_takeUp_50 (by decide) ?_
      obtain ⟨ts, td0, td1, td2, td3, td4, td5, tl⟩ := TkS.s0 (d0 := (f_226 0).toInt) (d1 := (f_226 1).toInt) (d2 := (f_226 2).toInt) (d3 := (f_226 3).toInt) (d4 := (f_226 4).toInt) (d5 := (f_226 5).toInt) hf4_0_2 (by omega) (by omega) (by omega) (by omega) (by omega) (by omega) (by omega)
      have hl := lv_sub hl [0, 2, 3, 4] rfl
      exact lp_4_1 L2 f_226 (by omega) (by omega) ts td0 td1 td2 td3 td4 td5 _ _ _ hP hD hS hl
    · skip
      refine lv_iload_n hx hb dX0_takeUp_28 rfl (lv_at hl 4 rfl) ?_
      refine lv_aload_n hx hb dX0_takeUp_29 rfl (lv_at hl 2 rfl) ?_
      refine lv_iload_n hx hb dX0_takeUp_30 rfl (lv_at hl 1 rfl) ?_
      have hPc := hP.sub (ws' := [(A_self, .inr (0, [.ref A_counters])), (A_counters, .inl (c 1, 6, .inl M_counters))]) [0, 1] rfl
      have hDc := hD.sub (ws' := [(A_self, .inr (0, [.ref A_counters])), (A_counters, .inl (c 1, 6, .inl M_counters))]) [0, 1] (by decide) rfl
      have hFc := va_free (wc := [(A_self, .inr (0, [.ref A_counters])), (A_counters, .inl (c 1, 6, .inl M_counters))]) hD hS hA [0, 1] rfl
      have kzz_233 : (0 : Int32).toInt = 0 := by decide
      refine va_calli (va_runV (As := [.int 0]) (rest := [.int L2]) ⟨hx, hb, hml, hown, hts⟩ (k_X0_bringDown l D c ts H.size A_counters A_self M_counters 0 0 (by decide) (by omega) (by omega) (by omega) (by omega) (by omega) (by omega) (by omega)) (cwV 1 hts gX0_takeUp_X0_bringDown rfl rfl rfl ⟨rfl, hdX0_bringDown⟩ ⟨(show 0 + 1 ≤ 1 by decide), (show 8 + (4 + 11) + 0 ≤ 23 by decide)⟩) ⟨Pre0.blind, va_recv hK hPc (ci := 0) (q0 := 0) rfl rfl, Pre0.at hPc hDc hAm hSt hS hFc⟩ rfl rfl hl.1 rfl (lv_room (Nat.le_of_ble_eq_true rfl)) dX0_takeUp_31 ⟨(show 0 + 0 ≤ 0 by decide), (show 0 + 0 ≤ 0 by decide)⟩) hS (fun q _ h => hFc q h) hFc (fun r_235 u_236 t1 H locs ht hvm hw_234 hB_9 hz1_9 hk1_9 hS => ?_)
      obtain ⟨f_237, _⟩ := u_236
      have hw_234 : (BdI (0 : Int) (M_counters 0).toInt (M_counters 1).toInt (M_counters 2).toInt (M_counters 3).toInt (M_counters 4).toInt (M_counters 5).toInt (f_237 0).toInt (f_237 1).toInt (f_237 2).toInt (f_237 3).toInt (f_237 4).toInt (f_237 5).toInt r_235.toInt) := hw_234
      obtain ⟨hP1_9, hD1_9⟩ := hB_9
      rw [ht] at hP1_9
      have hP1_9 : va_P D vwCl [(A_self, .inr (0, [.ref A_counters])), (A_counters, .inl (c 1, 6, .inl f_237))] H := hP1_9
      obtain ⟨hP, hD⟩ := va_join (wr := []) (w1 := [(A_self, .inr (0, [.ref A_counters])), (A_counters, .inl (c 1, 6, .inl f_237))]) hP hD [0, 1] [] rfl rfl (by decide) (by decide) hk1_9 hFc hP1_9 hD1_9
      have hP : va_P D vwCl [(A_self, .inr (0, [.ref A_counters])), (A_counters, .inl (c 1, 6, .inl f_237))] H := hP
      have hD : va_D A [(A_self, .inr (0, [.ref A_counters])), (A_counters, .inl (c 1, 6, .inl f_237))] := hD
      refine W.widen (k := 0) (n := 0) (by omega) (by omega) ?_
      have rg_r_235 := i32r r_235
      have bd9 := BdI.e0 hw_234
      rcases bd9 with ⟨bd_0, bd_1, bd_2, bd_3, bd_4, bd_5, bd_6, bd_7⟩ | ⟨bd_0, bd_1, bd_2, bd_3, bd_4, bd_5, bd_6, bd_7, bd_8⟩ | ⟨bd_0, bd_1, bd_2, bd_3, bd_4, bd_5, bd_6, bd_7, bd_8, bd_9⟩ | ⟨bd_0, bd_1, bd_2, bd_3, bd_4, bd_5, bd_6, bd_7, bd_8, bd_9, bd_10⟩ | ⟨bd_0, bd_1, bd_2, bd_3, bd_4, bd_5, bd_6, bd_7, bd_8, bd_9, bd_10, bd_11⟩ | ⟨bd_0, bd_1, bd_2, bd_3, bd_4, bd_5, bd_6, bd_7, bd_8, bd_9, bd_10, bd_11⟩
      · skip
        refine lv_iadd hx hb dX0_takeUp_34 ?_
        refine lv_topi (fun x_238 ex_238 => ?_)
        have tx_238 : x_238.toInt = (L2.toInt + r_235.toInt) := by rw [ex_238]; exact add_ti (a := L2.toInt) (b := r_235.toInt) rfl rfl (by omega) (by omega)
        refine lv_istore_n (lv' := [(2, .int x_238), (4, .int r_218), (3, .int 0), (0, .ref A_self), (1, .int a1)]) hx hb dX0_takeUp_35 rfl hl (by decide) rfl (fun ls hl => ?_)
        refine lv_aload_n hx hb dX0_takeUp_36 rfl (lv_at hl 3 rfl) ?_
        refine va_get (D := D) (ci := 0) (v := .ref A_counters) (C := RX0) (T := TX0) (N := 1) hx hb hts (fun _ h => List.mem_cons_of_mem _ (List.mem_append_right _ h)) hown hK hP 0 rfl rfl 0 (by decide) (hts (.fieldLink RX0 9 "CrownTable$Cloth" "counters" "[I") (mem_i 1 rfl)) (fun _ h9 => h9) rfl dX0_takeUp_37 ?_
        refine lv_iload_n hx hb dX0_takeUp_40 rfl (lv_at hl 2 rfl) ?_
        refine lv_dup2_11 hx hb dX0_takeUp_41 rfl rfl ?_
        refine va_iald hx hb hK hP 1 1 rfl rfl (vin (a := 0) (by decide) (by decide) (by decide)) dX0_takeUp_42 ?_
        refine lv_topi (fun x_239 ex_239 => ?_)
        have lf_240 : (f_237 0).toInt = x_239.toInt := by rw [ex_239]; rfl
        refine lv_iload hx hb dX0_takeUp_43 (lv_at hl 1 rfl) ?_
        refine lv_isub hx hb dX0_takeUp_45 ?_
        refine lv_topi (fun x_241 ex_241 => ?_)
        have tx_241 : x_241.toInt = (x_239.toInt - r_218.toInt) := by rw [ex_241]; exact sub_ti (a := x_239.toInt) (b := r_218.toInt) rfl rfl (by omega) (by omega)
        refine va_iast hx hb hK hP hD hS 1 1 rfl rfl (vin (a := 0) (by decide) (by decide) (by decide)) dX0_takeUp_46 (fun H locs hP hD hS => ?_)
        obtain ⟨f_242, ef_242, hP, hD⟩ : ∃ f_242 : Nat → Int32, f_242 = upd f_237 (0 : Int32).toNatClampNeg x_241 ∧ va_P D vwCl [(A_self, .inr (0, [.ref A_counters])), (A_counters, .inl (c 1, 6, .inl f_242))] H ∧ va_D A [(A_self, .inr (0, [.ref A_counters])), (A_counters, .inl (c 1, 6, .inl f_242))] := ⟨_, rfl, hP, hD⟩
        have cl_243 : (f_242 0).toInt = x_241.toInt := by rw [ef_242]; rfl
        have cl_244 : (f_242 1).toInt = (f_237 1).toInt := by rw [ef_242]; rfl
        have cl_245 : (f_242 2).toInt = (f_237 2).toInt := by rw [ef_242]; rfl
        have cl_246 : (f_242 3).toInt = (f_237 3).toInt := by rw [ef_242]; rfl
        have cl_247 : (f_242 4).toInt = (f_237 4).toInt := by rw [ef_242]; rfl
        have cl_248 : (f_242 5).toInt = (f_237 5).toInt := by rw [ef_242]; rfl
        refine lv_iinc (v := 1) (lv' := [(3, .int 1), (2, .int x_238), (4, .int r_218), (0, .ref A_self), (1, .int a1)]) hx hb dX0_takeUp_47 hl (k := 2) rfl (by decide) (by decide) rfl (fun ls hl => ?_)
        refine lv_goto (tgt := 4) hx hb dX0_takeUp_50 (by decide) ?_
        obtain ⟨ts, td0, td1, td2, td3, td4, td5, tl⟩ := TkS.b0_1 (d0 := (f_242 0).toInt) (d1 := (f_242 1).toInt) (d2 := (f_242 2).toInt) (d3 := (f_242 3).toInt) (d4 := (f_242 4).toInt) (d5 := (f_242 5).toInt) (L1 := x_238.toInt) hf4_0_2 (by omega) (by omega) (by omega) (by omega) (by omega) (by omega) (by omega) (by omega) (by omega)
        have hl := lv_sub hl [0, 3, 4, 1] rfl
        exact lp_4_1 x_238 f_242 (by omega) (by omega) ts td0 td1 td2 td3 td4 td5 _ _ _ hP hD hS hl
      · skip
        refine lv_iadd hx hb dX0_takeUp_34 ?_
        refine lv_topi (fun x_249 ex_249 => ?_)
        have tx_249 : x_249.toInt = (L2.toInt + r_235.toInt) := by rw [ex_249]; exact add_ti (a := L2.toInt) (b := r_235.toInt) rfl rfl (by omega) (by omega)
        refine lv_istore_n (lv' := [(2, .int x_249), (4, .int r_218), (3, .int 0), (0, .ref A_self), (1, .int a1)]) hx hb dX0_takeUp_35 rfl hl (by decide) rfl (fun ls hl => ?_)
        refine lv_aload_n hx hb dX0_takeUp_36 rfl (lv_at hl 3 rfl) ?_
        refine va_get (D := D) (ci := 0) (v := .ref A_counters) (C := RX0) (T := TX0) (N := 1) hx hb hts (fun _ h => List.mem_cons_of_mem _ (List.mem_append_right _ h)) hown hK hP 0 rfl rfl 0 (by decide) (hts (.fieldLink RX0 9 "CrownTable$Cloth" "counters" "[I") (mem_i 1 rfl)) (fun _ h9 => h9) rfl dX0_takeUp_37 ?_
        refine lv_iload_n hx hb dX0_takeUp_40 rfl (lv_at hl 2 rfl) ?_
        refine lv_dup2_11 hx hb dX0_takeUp_41 rfl rfl ?_
        refine va_iald hx hb hK hP 1 1 rfl rfl (vin (a := 0) (by decide) (by decide) (by decide)) dX0_takeUp_42 ?_
        refine lv_topi (fun x_250 ex_250 => ?_)
        have lf_251 : (f_237 0).toInt = x_250.toInt := by rw [ex_250]; rfl
        refine lv_iload hx hb dX0_takeUp_43 (lv_at hl 1 rfl) ?_
        refine lv_isub hx hb dX0_takeUp_45 ?_
        refine lv_topi (fun x_252 ex_252 => ?_)
        have tx_252 : x_252.toInt = (x_250.toInt - r_218.toInt) := by rw [ex_252]; exact sub_ti (a := x_250.toInt) (b := r_218.toInt) rfl rfl (by omega) (by omega)
        refine va_iast hx hb hK hP hD hS 1 1 rfl rfl (vin (a := 0) (by decide) (by decide) (by decide)) dX0_takeUp_46 (fun H locs hP hD hS => ?_)
        obtain ⟨f_253, ef_253, hP, hD⟩ : ∃ f_253 : Nat → Int32, f_253 = upd f_237 (0 : Int32).toNatClampNeg x_252 ∧ va_P D vwCl [(A_self, .inr (0, [.ref A_counters])), (A_counters, .inl (c 1, 6, .inl f_253))] H ∧ va_D A [(A_self, .inr (0, [.ref A_counters])), (A_counters, .inl (c 1, 6, .inl f_253))] := ⟨_, rfl, hP, hD⟩
        have cl_254 : (f_253 0).toInt = x_252.toInt := by rw [ef_253]; rfl
        have cl_255 : (f_253 1).toInt = (f_237 1).toInt := by rw [ef_253]; rfl
        have cl_256 : (f_253 2).toInt = (f_237 2).toInt := by rw [ef_253]; rfl
        have cl_257 : (f_253 3).toInt = (f_237 3).toInt := by rw [ef_253]; rfl
        have cl_258 : (f_253 4).toInt = (f_237 4).toInt := by rw [ef_253]; rfl
        have cl_259 : (f_253 5).toInt = (f_237 5).toInt := by rw [ef_253]; rfl
        refine lv_iinc (v := 1) (lv' := [(3, .int 1), (2, .int x_249), (4, .int r_218), (0, .ref A_self), (1, .int a1)]) hx hb dX0_takeUp_47 hl (k := 2) rfl (by decide) (by decide) rfl (fun ls hl => ?_)
        refine lv_goto (tgt := 4) hx hb dX0_takeUp_50 (by decide) ?_
        obtain ⟨ts, td0, td1, td2, td3, td4, td5, tl⟩ := TkS.b0_2 (d0 := (f_253 0).toInt) (d1 := (f_253 1).toInt) (d2 := (f_253 2).toInt) (d3 := (f_253 3).toInt) (d4 := (f_253 4).toInt) (d5 := (f_253 5).toInt) (L1 := x_249.toInt) hf4_0_2 (by omega) (by omega) (by omega) (by omega) (by omega) (by omega) (by omega) (by omega) (by omega) (by omega)
        have hl := lv_sub hl [0, 3, 4, 1] rfl
        exact lp_4_1 x_249 f_253 (by omega) (by omega) ts td0 td1 td2 td3 td4 td5 _ _ _ hP hD hS hl
      · skip
        refine lv_iadd hx hb dX0_takeUp_34 ?_
        refine lv_topi (fun x_260 ex_260 => ?_)
        have tx_260 : x_260.toInt = (L2.toInt + r_235.toInt) := by rw [ex_260]; exact add_ti (a := L2.toInt) (b := r_235.toInt) rfl rfl (by omega) (by omega)
        refine lv_istore_n (lv' := [(2, .int x_260), (4, .int r_218), (3, .int 0), (0, .ref A_self), (1, .int a1)]) hx hb dX0_takeUp_35 rfl hl (by decide) rfl (fun ls hl => ?_)
        refine lv_aload_n hx hb dX0_takeUp_36 rfl (lv_at hl 3 rfl) ?_
        refine va_get (D := D) (ci := 0) (v := .ref A_counters) (C := RX0) (T := TX0) (N := 1) hx hb hts (fun _ h => List.mem_cons_of_mem _ (List.mem_append_right _ h)) hown hK hP 0 rfl rfl 0 (by decide) (hts (.fieldLink RX0 9 "CrownTable$Cloth" "counters" "[I") (mem_i 1 rfl)) (fun _ h9 => h9) rfl dX0_takeUp_37 ?_
        refine lv_iload_n hx hb dX0_takeUp_40 rfl (lv_at hl 2 rfl) ?_
        refine lv_dup2_11 hx hb dX0_takeUp_41 rfl rfl ?_
        refine va_iald hx hb hK hP 1 1 rfl rfl (vin (a := 0) (by decide) (by decide) (by decide)) dX0_takeUp_42 ?_
        refine lv_topi (fun x_261 ex_261 => ?_)
        have lf_262 : (f_237 0).toInt = x_261.toInt := by rw [ex_261]; rfl
        refine lv_iload hx hb dX0_takeUp_43 (lv_at hl 1 rfl) ?_
        refine lv_isub hx hb dX0_takeUp_45 ?_
        refine lv_topi (fun x_263 ex_263 => ?_)
        have tx_263 : x_263.toInt = (x_261.toInt - r_218.toInt) := by rw [ex_263]; exact sub_ti (a := x_261.toInt) (b := r_218.toInt) rfl rfl (by omega) (by omega)
        refine va_iast hx hb hK hP hD hS 1 1 rfl rfl (vin (a := 0) (by decide) (by decide) (by decide)) dX0_takeUp_46 (fun H locs hP hD hS => ?_)
        obtain ⟨f_264, ef_264, hP, hD⟩ : ∃ f_264 : Nat → Int32, f_264 = upd f_237 (0 : Int32).toNatClampNeg x_263 ∧ va_P D vwCl [(A_self, .inr (0, [.ref A_counters])), (A_counters, .inl (c 1, 6, .inl f_264))] H ∧ va_D A [(A_self, .inr (0, [.ref A_counters])), (A_counters, .inl (c 1, 6, .inl f_264))] := ⟨_, rfl, hP, hD⟩
        have cl_265 : (f_264 0).toInt = x_263.toInt := by rw [ef_264]; rfl
        have cl_266 : (f_264 1).toInt = (f_237 1).toInt := by rw [ef_264]; rfl
        have cl_267 : (f_264 2).toInt = (f_237 2).toInt := by rw [ef_264]; rfl
        have cl_268 : (f_264 3).toInt = (f_237 3).toInt := by rw [ef_264]; rfl
        have cl_269 : (f_264 4).toInt = (f_237 4).toInt := by rw [ef_264]; rfl
        have cl_270 : (f_264 5).toInt = (f_237 5).toInt := by rw [ef_264]; rfl
        refine lv_iinc (v := 1) (lv' := [(3, .int 1), (2, .int x_260), (4, .int r_218), (0, .ref A_self), (1, .int a1)]) hx hb dX0_takeUp_47 hl (k := 2) rfl (by decide) (by decide) rfl (fun ls hl => ?_)
        refine lv_goto (tgt := 4) hx hb dX0_takeUp_50 (by decide) ?_
        obtain ⟨ts, td0, td1, td2, td3, td4, td5, tl⟩ := TkS.b0_3 (d0 := (f_264 0).toInt) (d1 := (f_264 1).toInt) (d2 := (f_264 2).toInt) (d3 := (f_264 3).toInt) (d4 := (f_264 4).toInt) (d5 := (f_264 5).toInt) (L1 := x_260.toInt) hf4_0_2 (by omega) (by omega) (by omega) (by omega) (by omega) (by omega) (by omega) (by omega) (by omega) (by omega) (by omega)
        have hl := lv_sub hl [0, 3, 4, 1] rfl
        exact lp_4_1 x_260 f_264 (by omega) (by omega) ts td0 td1 td2 td3 td4 td5 _ _ _ hP hD hS hl
      · skip
        refine lv_iadd hx hb dX0_takeUp_34 ?_
        refine lv_topi (fun x_271 ex_271 => ?_)
        have tx_271 : x_271.toInt = (L2.toInt + r_235.toInt) := by rw [ex_271]; exact add_ti (a := L2.toInt) (b := r_235.toInt) rfl rfl (by omega) (by omega)
        refine lv_istore_n (lv' := [(2, .int x_271), (4, .int r_218), (3, .int 0), (0, .ref A_self), (1, .int a1)]) hx hb dX0_takeUp_35 rfl hl (by decide) rfl (fun ls hl => ?_)
        refine lv_aload_n hx hb dX0_takeUp_36 rfl (lv_at hl 3 rfl) ?_
        refine va_get (D := D) (ci := 0) (v := .ref A_counters) (C := RX0) (T := TX0) (N := 1) hx hb hts (fun _ h => List.mem_cons_of_mem _ (List.mem_append_right _ h)) hown hK hP 0 rfl rfl 0 (by decide) (hts (.fieldLink RX0 9 "CrownTable$Cloth" "counters" "[I") (mem_i 1 rfl)) (fun _ h9 => h9) rfl dX0_takeUp_37 ?_
        refine lv_iload_n hx hb dX0_takeUp_40 rfl (lv_at hl 2 rfl) ?_
        refine lv_dup2_11 hx hb dX0_takeUp_41 rfl rfl ?_
        refine va_iald hx hb hK hP 1 1 rfl rfl (vin (a := 0) (by decide) (by decide) (by decide)) dX0_takeUp_42 ?_
        refine lv_topi (fun x_272 ex_272 => ?_)
        have lf_273 : (f_237 0).toInt = x_272.toInt := by rw [ex_272]; rfl
        refine lv_iload hx hb dX0_takeUp_43 (lv_at hl 1 rfl) ?_
        refine lv_isub hx hb dX0_takeUp_45 ?_
        refine lv_topi (fun x_274 ex_274 => ?_)
        have tx_274 : x_274.toInt = (x_272.toInt - r_218.toInt) := by rw [ex_274]; exact sub_ti (a := x_272.toInt) (b := r_218.toInt) rfl rfl (by omega) (by omega)
        refine va_iast hx hb hK hP hD hS 1 1 rfl rfl (vin (a := 0) (by decide) (by decide) (by decide)) dX0_takeUp_46 (fun H locs hP hD hS => ?_)
        obtain ⟨f_275, ef_275, hP, hD⟩ : ∃ f_275 : Nat → Int32, f_275 = upd f_237 (0 : Int32).toNatClampNeg x_274 ∧ va_P D vwCl [(A_self, .inr (0, [.ref A_counters])), (A_counters, .inl (c 1, 6, .inl f_275))] H ∧ va_D A [(A_self, .inr (0, [.ref A_counters])), (A_counters, .inl (c 1, 6, .inl f_275))] := ⟨_, rfl, hP, hD⟩
        have cl_276 : (f_275 0).toInt = x_274.toInt := by rw [ef_275]; rfl
        have cl_277 : (f_275 1).toInt = (f_237 1).toInt := by rw [ef_275]; rfl
        have cl_278 : (f_275 2).toInt = (f_237 2).toInt := by rw [ef_275]; rfl
        have cl_279 : (f_275 3).toInt = (f_237 3).toInt := by rw [ef_275]; rfl
        have cl_280 : (f_275 4).toInt = (f_237 4).toInt := by rw [ef_275]; rfl
        have cl_281 : (f_275 5).toInt = (f_237 5).toInt := by rw [ef_275]; rfl
        refine lv_iinc (v := 1) (lv' := [(3, .int 1), (2, .int x_271), (4, .int r_218), (0, .ref A_self), (1, .int a1)]) hx hb dX0_takeUp_47 hl (k := 2) rfl (by decide) (by decide) rfl (fun ls hl => ?_)
        refine lv_goto (tgt := 4) hx hb dX0_takeUp_50 (by decide) ?_
        obtain ⟨ts, td0, td1, td2, td3, td4, td5, tl⟩ := TkS.b0_4 (d0 := (f_275 0).toInt) (d1 := (f_275 1).toInt) (d2 := (f_275 2).toInt) (d3 := (f_275 3).toInt) (d4 := (f_275 4).toInt) (d5 := (f_275 5).toInt) (L1 := x_271.toInt) hf4_0_2 (by omega) (by omega) (by omega) (by omega) (by omega) (by omega) (by omega) (by omega) (by omega) (by omega) (by omega) (by omega)
        have hl := lv_sub hl [0, 3, 4, 1] rfl
        exact lp_4_1 x_271 f_275 (by omega) (by omega) ts td0 td1 td2 td3 td4 td5 _ _ _ hP hD hS hl
      · skip
        refine lv_iadd hx hb dX0_takeUp_34 ?_
        refine lv_topi (fun x_282 ex_282 => ?_)
        have tx_282 : x_282.toInt = (L2.toInt + r_235.toInt) := by rw [ex_282]; exact add_ti (a := L2.toInt) (b := r_235.toInt) rfl rfl (by omega) (by omega)
        refine lv_istore_n (lv' := [(2, .int x_282), (4, .int r_218), (3, .int 0), (0, .ref A_self), (1, .int a1)]) hx hb dX0_takeUp_35 rfl hl (by decide) rfl (fun ls hl => ?_)
        refine lv_aload_n hx hb dX0_takeUp_36 rfl (lv_at hl 3 rfl) ?_
        refine va_get (D := D) (ci := 0) (v := .ref A_counters) (C := RX0) (T := TX0) (N := 1) hx hb hts (fun _ h => List.mem_cons_of_mem _ (List.mem_append_right _ h)) hown hK hP 0 rfl rfl 0 (by decide) (hts (.fieldLink RX0 9 "CrownTable$Cloth" "counters" "[I") (mem_i 1 rfl)) (fun _ h9 => h9) rfl dX0_takeUp_37 ?_
        refine lv_iload_n hx hb dX0_takeUp_40 rfl (lv_at hl 2 rfl) ?_
        refine lv_dup2_11 hx hb dX0_takeUp_41 rfl rfl ?_
        refine va_iald hx hb hK hP 1 1 rfl rfl (vin (a := 0) (by decide) (by decide) (by decide)) dX0_takeUp_42 ?_
        refine lv_topi (fun x_283 ex_283 => ?_)
        have lf_284 : (f_237 0).toInt = x_283.toInt := by rw [ex_283]; rfl
        refine lv_iload hx hb dX0_takeUp_43 (lv_at hl 1 rfl) ?_
        refine lv_isub hx hb dX0_takeUp_45 ?_
        refine lv_topi (fun x_285 ex_285 => ?_)
        have tx_285 : x_285.toInt = (x_283.toInt - r_218.toInt) := by rw [ex_285]; exact sub_ti (a := x_283.toInt) (b := r_218.toInt) rfl rfl (by omega) (by omega)
        refine va_iast hx hb hK hP hD hS 1 1 rfl rfl (vin (a := 0) (by decide) (by decide) (by decide)) dX0_takeUp_46 (fun H locs hP hD hS => ?_)
        obtain ⟨f_286, ef_286, hP, hD⟩ : ∃ f_286 : Nat → Int32, f_286 = upd f_237 (0 : Int32).toNatClampNeg x_285 ∧ va_P D vwCl [(A_self, .inr (0, [.ref A_counters])), (A_counters, .inl (c 1, 6, .inl f_286))] H ∧ va_D A [(A_self, .inr (0, [.ref A_counters])), (A_counters, .inl (c 1, 6, .inl f_286))] := ⟨_, rfl, hP, hD⟩
        have cl_287 : (f_286 0).toInt = x_285.toInt := by rw [ef_286]; rfl
        have cl_288 : (f_286 1).toInt = (f_237 1).toInt := by rw [ef_286]; rfl
        have cl_289 : (f_286 2).toInt = (f_237 2).toInt := by rw [ef_286]; rfl
        have cl_290 : (f_286 3).toInt = (f_237 3).toInt := by rw [ef_286]; rfl
        have cl_291 : (f_286 4).toInt = (f_237 4).toInt := by rw [ef_286]; rfl
        have cl_292 : (f_286 5).toInt = (f_237 5).toInt := by rw [ef_286]; rfl
        refine lv_iinc (v := 1) (lv' := [(3, .int 1), (2, .int x_282), (4, .int r_218), (0, .ref A_self), (1, .int a1)]) hx hb dX0_takeUp_47 hl (k := 2) rfl (by decide) (by decide) rfl (fun ls hl => ?_)
        refine lv_goto (tgt := 4) hx hb dX0_takeUp_50 (by decide) ?_
        obtain ⟨ts, td0, td1, td2, td3, td4, td5, tl⟩ := TkS.b0_5 (d0 := (f_286 0).toInt) (d1 := (f_286 1).toInt) (d2 := (f_286 2).toInt) (d3 := (f_286 3).toInt) (d4 := (f_286 4).toInt) (d5 := (f_286 5).toInt) (L1 := x_282.toInt) hf4_0_2 (by omega) (by omega) (by omega) (by omega) (by omega) (by omega) (by omega) (by omega) (by omega) (by omega) (by omega) (by omega) (by omega)
        have hl := lv_sub hl [0, 3, 4, 1] rfl
        exact lp_4_1 x_282 f_286 (by omega) (by omega) ts td0 td1 td2 td3 td4 td5 _ _ _ hP hD hS hl
      · skip
        exact (TkS.n0 hf4_0_2 (by omega) (by omega) (by omega) (by omega) (by omega) (by omega)).elim
  have kzz_293 : (0 : Int32).toInt = 0 := by decide
  have ts := TkS.ini (L := (0 : Int32).toInt) (by decide) (c0 := (f_counters 0).toInt) (c1 := (f_counters 1).toInt) (c2 := (f_counters 2).toInt) (c3 := (f_counters 3).toInt) (c4 := (f_counters 4).toInt) (c5 := (f_counters 5).toInt) (by omega) (by omega) (by omega) (by omega) (by omega) (by omega) nb0 nb1 nb2 nb3 nb4 nb5 tv
  have hl := lv_sub hl [0, 2, 3, 1] rfl
  exact lp_4_0 0 f_counters (by omega) (by omega) ts (by omega) (by omega) (by omega) (by omega) (by omega) (by omega) _ _ _ hP hD hS hl
