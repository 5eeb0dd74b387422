set_option maxHeartbeats 4000000 in
set_option maxRecDepth 100000 in
theorem k_X0_bringDown (l : Launch) (D : va_G) (c : Nat → ClassId) (ts : Nat × Nat) (sz : Nat) (A_counters : Nat) (A_self : Nat) (f_counters : Nat → Int32) (a1 : Int32) (i_a1 : Int) (hi_a1 : a1.toInt = i_a1) (hv_a1 : 0 ≤ i_a1 ∧ i_a1 ≤ 4) (hq0 : 0 ≤ (f_counters 0).toInt ∧ (f_counters 0).toInt ≤ 11) (hq1 : 0 ≤ (f_counters 1).toInt ∧ (f_counters 1).toInt ≤ 19) (hq2 : 0 ≤ (f_counters 2).toInt ∧ (f_counters 2).toInt ≤ 19) (hq3 : 0 ≤ (f_counters 3).toInt ∧ (f_counters 3).toInt ≤ 4) (hq4 : 0 ≤ (f_counters 4).toInt ∧ (f_counters 4).toInt ≤ 9) (hq5 : 0 ≤ (f_counters 5).toInt ∧ (f_counters 5).toInt ≤ 900000) : Met l yX0_bringDown wsX0_bringDown ({ frames := 0, cells := 0, slots := 0, locals := 0 }) (va_Pc [.ref A_self, .int a1] (Pre0 D c ts [(A_self, .inr (0, [.ref A_counters])), (A_counters, .inl (c 1, 6, .inl f_counters))] sz)) (va_Qi (fun (r : Int32) (u : (Nat → Int32) × Unit) => (BdI i_a1 (f_counters 0).toInt (f_counters 1).toInt (f_counters 2).toInt (f_counters 3).toInt (f_counters 4).toInt (f_counters 5).toInt (u.1 0).toInt (u.1 1).toInt (u.1 2).toInt (u.1 3).toInt (u.1 4).toInt (u.1 5).toInt r.toInt)) (fun u t => va_P D vwCl [(A_self, .inr (0, [.ref A_counters])), (A_counters, .inl (c 1, 6, .inl u.1))] t.heap ∧ va_D (va_A [(A_self, .inr (0, [.ref A_counters])), (A_counters, .inl (c 1, 6, .inl f_counters))] sz) [(A_self, .inr (0, [.ref A_counters])), (A_counters, .inl (c 1, 6, .inl u.1))]) (va_A [(A_self, .inr (0, [.ref A_counters])), (A_counters, .inl (c 1, 6, .inl f_counters))] sz)) 0 0 (va_A [(A_self, .inr (0, [.ref A_counters])), (A_counters, .inl (c 1, 6, .inl f_counters))] sz) := by
  refine Met.ofW (cc := cX0_bringDown) (maxL := 4) (ret := (some .int)) (by decide) rfl ?_
  intro p e s m args below meth cd s₁ B hml hv
  obtain ⟨rfl, hsz, hP, hD0, hAm, hSt⟩ := hv
  have hx := B.exec
  have hb := B.bytes
  have hr := B.returns
  have hts := atoms_spec (ws := wsX0_bringDown) B.pre
  have hown : s.vm.findClass RX0 = some m.cls := findClass_of_methodNamed B.named
  have hlocks := B.notSynchronized
  have hK := hAm.1
  subst hsz
  have hD := hD0.self (sz := s.heap.size)
  generalize hAe : va_A [(A_self, .inr (0, [.ref A_counters])), (A_counters, .inl (c 1, 6, .inl f_counters))] s.heap.size = A at hD hSt ⊢
  have hA : ∀ q : Nat, s.heap.size ≤ q → A q := fun q h => by rw [← hAe]; exact Or.inr h
  have hS : va_S A s.heap s.heap [] := va_S.rf
  clear hD0 hAe
  have hl := lv_entry ([.ref A_self, .int a1]) (n := 4) (Nat.le_of_ble_eq_true rfl)
  rw [lg_entry_eq]
  generalize (lg_sl ([.ref A_self, .int a1]) ++ List.replicate (4 - (lg_sl ([.ref A_self, .int a1])).length) Slot.unset).toArray = ls at hl ⊢
  have hl : lv_has ls 4 [(0, .ref A_self), (1, .int a1)] := hl
  rcases (show i_a1 = 0 ∨ i_a1 = 1 ∨ i_a1 = 2 ∨ i_a1 = 3 ∨ i_a1 = 4 by omega) with hsp | hsp | hsp | hsp | hsp
  · skip
    obtain rfl : a1 = 0 := Int32.toInt_inj.mp (by rw [hi_a1, hsp]; rfl)
    have hl : lv_has ls 4 [(0, .ref A_self), (1, .int 0)] := hl
    refine lv_iload_n hx hb dX0_bringDown_0 rfl (lv_at hl 1 rfl) ?_
    refine lv_iconst (v := 1) hx hb dX0_bringDown_1 (by decide) ?_
    refine lv_iadd hx hb dX0_bringDown_2 ?_
    refine lk_i (y := 1) (by decide) ?_
    refine lv_istore_n (lv' := [(2, .int 1), (0, .ref A_self), (1, .int 0)]) hx hb dX0_bringDown_3 rfl hl (by decide) rfl (fun ls hl => ?_)
    refine lv_iload_n hx hb dX0_bringDown_4 rfl (lv_at hl 0 rfl) ?_
    refine lv_bipush (v := 6) hx hb dX0_bringDown_5 (by decide) ?_
    refine iicmp_geF (a := 1) (b := 6) (tgt := 26) hx hb (by decide) (by decide) dX0_bringDown_7 (by decide) (by decide) ?_
    refine lv_aload_n hx hb dX0_bringDown_10 rfl (lv_at hl 1 rfl) ?_
    refine va_get (D := D) (ci := 0) (v := .ref A_counters) (C := RX0) (T := TX0) (N := 1) hx hb hts (fun _ h => List.mem_cons_of_mem _ (List.mem_append_right _ h)) hown hK hP 0 rfl rfl 0 (by decide) (hts (.fieldLink RX0 9 "CrownTable$Cloth" "counters" "[I") (mem_i 1 rfl)) (fun _ h9 => h9) rfl dX0_bringDown_11 ?_
    refine lv_iload_n hx hb dX0_bringDown_14 rfl (lv_at hl 0 rfl) ?_
    refine va_iald hx hb hK hP 1 1 rfl rfl (vin (a := 1) (by decide) (by decide) (by decide)) dX0_bringDown_15 ?_
    refine lv_topi (fun x_1 ex_1 => ?_)
    have lf_2 : (f_counters 1).toInt = x_1.toInt := by rw [ex_1]; rfl
    refine lv_iconst (v := 1) hx hb dX0_bringDown_16 (by decide) ?_
    refine iicmp_ge (a := x_1.toInt) (b := 1) (tgt := 26) hx hb rfl (by decide) dX0_bringDown_17 (by decide) (fun k_3 => ?_) (fun k_3 => ?_)
    · skip
      refine lv_iload_n hx hb dX0_bringDown_26 rfl (lv_at hl 0 rfl) ?_
      refine lv_bipush (v := 6) hx hb dX0_bringDown_27 (by decide) ?_
      refine iicmp_ltT (a := 1) (b := 6) (tgt := 34) hx hb (by decide) (by decide) dX0_bringDown_29 (by decide) (by decide) ?_
      refine lv_iload_n hx hb dX0_bringDown_34 rfl (lv_at hl 0 rfl) ?_
      refine lv_istore_n (lv' := [(3, .int 1), (2, .int 1), (0, .ref A_self), (1, .int 0)]) hx hb dX0_bringDown_35 rfl hl (by decide) rfl (fun ls hl => ?_)
      refine lv_iload_n hx hb dX0_bringDown_36 rfl (lv_at hl 0 rfl) ?_
      refine lv_iload_n hx hb dX0_bringDown_37 rfl (lv_at hl 3 rfl) ?_
      refine iicmp_leF (a := 1) (b := 0) (tgt := 75) hx hb (by decide) (by decide) dX0_bringDown_38 (by decide) (by decide) ?_
      refine lv_aload_n hx hb dX0_bringDown_41 rfl (lv_at hl 2 rfl) ?_
      refine va_get (D := D) (ci := 0) (v := .ref A_counters) (C := RX0) (T := TX0) (N := 1) hx hb hts (fun _ h => List.mem_cons_of_mem _ (List.mem_append_right _ h)) hown hK hP 0 rfl rfl 0 (by decide) (hts (.fieldLink RX0 9 "CrownTable$Cloth" "counters" "[I") (mem_i 1 rfl)) (fun _ h9 => h9) rfl dX0_bringDown_42 ?_
      refine lv_iload_n hx hb dX0_bringDown_45 rfl (lv_at hl 0 rfl) ?_
      refine lv_dup2_11 hx hb dX0_bringDown_46 rfl rfl ?_
      refine va_iald hx hb hK hP 1 1 rfl rfl (vin (a := 1) (by decide) (by decide) (by decide)) dX0_bringDown_47 ?_
      refine lv_topi (fun x_4 ex_4 => ?_)
      have lf_5 : (f_counters 1).toInt = x_4.toInt := by rw [ex_4]; rfl
      refine lv_iconst (v := 1) hx hb dX0_bringDown_48 (by decide) ?_
      refine lv_isub hx hb dX0_bringDown_49 ?_
      refine lv_topi (fun x_6 ex_6 => ?_)
      have tx_6 : x_6.toInt = (x_4.toInt - 1) := by rw [ex_6]; exact sub_ti (a := x_4.toInt) (b := 1) rfl (by decide) (by omega) (by omega)
      refine va_iast hx hb hK hP hD hS 1 1 rfl rfl (vin (a := 1) (by decide) (by decide) (by decide)) dX0_bringDown_50 (fun H locs hP hD hS => ?_)
      obtain ⟨f_7, ef_7, hP, hD⟩ : ∃ f_7 : Nat → Int32, f_7 = upd f_counters (1 : Int32).toNatClampNeg x_6 ∧ va_P D vwCl [(A_self, .inr (0, [.ref A_counters])), (A_counters, .inl (c 1, 6, .inl f_7))] H ∧ va_D A [(A_self, .inr (0, [.ref A_counters])), (A_counters, .inl (c 1, 6, .inl f_7))] := ⟨_, rfl, hP, hD⟩
      have cl_8 : (f_7 0).toInt = (f_counters 0).toInt := by rw [ef_7]; rfl
      have cl_9 : (f_7 1).toInt = x_6.toInt := by rw [ef_7]; rfl
      have cl_10 : (f_7 2).toInt = (f_counters 2).toInt := by rw [ef_7]; rfl
      have cl_11 : (f_7 3).toInt = (f_counters 3).toInt := by rw [ef_7]; rfl
      have cl_12 : (f_7 4).toInt = (f_counters 4).toInt := by rw [ef_7]; rfl
      have cl_13 : (f_7 5).toInt = (f_counters 5).toInt := by rw [ef_7]; rfl
      refine lv_aload_n hx hb dX0_bringDown_51 rfl (lv_at hl 2 rfl) ?_
      refine va_get (D := D) (ci := 0) (v := .ref A_counters) (C := RX0) (T := TX0) (N := 1) hx hb hts (fun _ h => List.mem_cons_of_mem _ (List.mem_append_right _ h)) hown hK hP 0 rfl rfl 0 (by decide) (hts (.fieldLink RX0 9 "CrownTable$Cloth" "counters" "[I") (mem_i 1 rfl)) (fun _ h9 => h9) rfl dX0_bringDown_52 ?_
      refine lv_iload_n hx hb dX0_bringDown_55 rfl (lv_at hl 0 rfl) ?_
      refine lv_iconst (v := 1) hx hb dX0_bringDown_56 (by decide) ?_
      refine lv_isub hx hb dX0_bringDown_57 ?_
      refine lk_i (y := 0) (by decide) ?_
      refine lv_dup2_11 hx hb dX0_bringDown_58 rfl rfl ?_
      refine va_iald hx hb hK hP 1 1 rfl rfl (vin (a := 0) (by decide) (by decide) (by decide)) dX0_bringDown_59 ?_
      refine lv_topi (fun x_14 ex_14 => ?_)
      have lf_15 : (f_7 0).toInt = x_14.toInt := by rw [ex_14]; rfl
      refine va_gets hx hb hSt.2.2.1 hS hown (hts (.fieldLink RX0 23 "CrownTable$Cloth" "OF_THE_NEXT" "[I") (mem_i 2 rfl)) (fun _ h9 => h9) dX0_bringDown_60 ?_
      refine lv_iload_n hx hb dX0_bringDown_63 rfl (lv_at hl 0 rfl) ?_
      refine lv_iconst (v := 1) hx hb dX0_bringDown_64 (by decide) ?_
      refine lv_isub hx hb dX0_bringDown_65 ?_
      refine lk_i (y := 0) (by decide) ?_
      refine va_ti (v := .int 12) hx hb hSt.2.2.2.1 hS (vin (a := 0) (by decide) (by decide) (by decide)) rfl dX0_bringDown_66 ?_
      refine lv_iadd hx hb dX0_bringDown_67 ?_
      refine lv_topi (fun x_16 ex_16 => ?_)
      have tx_16 : x_16.toInt = (x_14.toInt + 12) := by rw [ex_16]; exact add_ti (a := x_14.toInt) (b := 12) rfl (by decide) (by omega) (by omega)
      refine va_iast hx hb hK hP hD hS 1 1 rfl rfl (vin (a := 0) (by decide) (by decide) (by decide)) dX0_bringDown_68 (fun H locs hP hD hS => ?_)
      obtain ⟨f_17, ef_17, hP, hD⟩ : ∃ f_17 : Nat → Int32, f_17 = upd f_7 (0 : Int32).toNatClampNeg x_16 ∧ va_P D vwCl [(A_self, .inr (0, [.ref A_counters])), (A_counters, .inl (c 1, 6, .inl f_17))] H ∧ va_D A [(A_self, .inr (0, [.ref A_counters])), (A_counters, .inl (c 1, 6, .inl f_17))] := ⟨_, rfl, hP, hD⟩
      have cl_18 : (f_17 0).toInt = x_16.toInt := by rw [ef_17]; rfl
      have cl_19 : (f_17 1).toInt = (f_7 1).toInt := by rw [ef_17]; rfl
      have cl_20 : (f_17 2).toInt = (f_7 2).toInt := by rw [ef_17]; rfl
      have cl_21 : (f_17 3).toInt = (f_7 3).toInt := by rw [ef_17]; rfl
      have cl_22 : (f_17 4).toInt = (f_7 4).toInt := by rw [ef_17]; rfl
      have cl_23 : (f_17 5).toInt = (f_7 5).toInt := by rw [ef_17]; rfl
      refine lv_iinc (v := 0) (lv' := [(3, .int 0), (2, .int 1), (0, .ref A_self), (1, .int 0)]) hx hb dX0_bringDown_69 hl (k := 0) rfl (by decide) (by decide) rfl (fun ls hl => ?_)
      refine lv_goto (tgt := 36) hx hb dX0_bringDown_72 (by decide) ?_
      refine lv_iload_n hx hb dX0_bringDown_36 rfl (lv_at hl 0 rfl) ?_
      refine lv_iload_n hx hb dX0_bringDown_37 rfl (lv_at hl 3 rfl) ?_
      refine iicmp_leT (a := 0) (b := 0) (tgt := 75) hx hb (by decide) (by decide) dX0_bringDown_38 (by decide) (by decide) ?_
      refine lv_iload_n hx hb dX0_bringDown_75 rfl (lv_at hl 1 rfl) ?_
      refine lv_iload_n hx hb dX0_bringDown_76 rfl (lv_at hl 3 rfl) ?_
      refine lv_isub hx hb dX0_bringDown_77 ?_
      refine lk_i (y := 1) (by decide) ?_
      have kzz_24 : (1 : Int32).toInt = 1 := by decide
      have hP9 := hP.sub (ws' := [(A_self, .inr (0, [.ref A_counters])), (A_counters, .inl (c 1, 6, .inl f_17))]) [0, 1] rfl
      have hD9 := hD.sub (ws' := [(A_self, .inr (0, [.ref A_counters])), (A_counters, .inl (c 1, 6, .inl f_17))]) [0, 1] (by decide) rfl
      refine W.widen (k := 0) (n := 0) (by omega) (by omega) ?_
      exact W.iret (v := 1) hx hb hr (fun t ht hW => ⟨⟨_, (f_17, ()), rfl, (show BdI i_a1 (f_counters 0).toInt (f_counters 1).toInt (f_counters 2).toInt (f_counters 3).toInt (f_counters 4).toInt (f_counters 5).toInt (f_17 0).toInt (f_17 1).toInt (f_17 2).toInt (f_17 3).toInt (f_17 4).toInt (f_17 5).toInt (1 : Int32).toInt from (BdI.i0_0 hsp (by omega) (by omega) (by omega) (by omega) (by omega) (by omega) (by omega) (by omega))), ⟨by rw [ht]; exact hP9, hD9⟩⟩, hS.F ht⟩) hS.2.2 dX0_bringDown_78
    · skip
      refine lv_iinc (v := 2) (lv' := [(2, .int 2), (0, .ref A_self), (1, .int 0)]) hx hb dX0_bringDown_20 hl (k := 0) rfl (by decide) (by decide) rfl (fun ls hl => ?_)
      refine lv_goto (tgt := 4) hx hb dX0_bringDown_23 (by decide) ?_
      refine lv_iload_n hx hb dX0_bringDown_4 rfl (lv_at hl 0 rfl) ?_
      refine lv_bipush (v := 6) hx hb dX0_bringDown_5 (by decide) ?_
      refine iicmp_geF (a := 2) (b := 6) (tgt := 26) hx hb (by decide) (by decide) dX0_bringDown_7 (by decide) (by decide) ?_
      refine lv_aload_n hx hb dX0_bringDown_10 rfl (lv_at hl 1 rfl) ?_
      refine va_get (D := D) (ci := 0) (v := .ref A_counters) (C := RX0) (T := TX0) (N := 1) hx hb hts (fun _ h => List.mem_cons_of_mem _ (List.mem_append_right _ h)) hown hK hP 0 rfl rfl 0 (by decide) (hts (.fieldLink RX0 9 "CrownTable$Cloth" "counters" "[I") (mem_i 1 rfl)) (fun _ h9 => h9) rfl dX0_bringDown_11 ?_
      refine lv_iload_n hx hb dX0_bringDown_14 rfl (lv_at hl 0 rfl) ?_
      refine va_iald hx hb hK hP 1 1 rfl rfl (vin (a := 2) (by decide) (by decide) (by decide)) dX0_bringDown_15 ?_
      refine lv_topi (fun x_25 ex_25 => ?_)
      have lf_26 : (f_counters 2).toInt = x_25.toInt := by rw [ex_25]; rfl
      refine lv_iconst (v := 1) hx hb dX0_bringDown_16 (by decide) ?_
      refine iicmp_ge (a := x_25.toInt) (b := 1) (tgt := 26) hx hb rfl (by decide) dX0_bringDown_17 (by decide) (fun k_27 => ?_) (fun k_27 => ?_)
      · skip
        refine lv_iload_n hx hb dX0_bringDown_26 rfl (lv_at hl 0 rfl) ?_
        refine lv_bipush (v := 6) hx hb dX0_bringDown_27 (by decide) ?_
        refine iicmp_ltT (a := 2) (b := 6) (tgt := 34) hx hb (by decide) (by decide) dX0_bringDown_29 (by decide) (by decide) ?_
        refine lv_iload_n hx hb dX0_bringDown_34 rfl (lv_at hl 0 rfl) ?_
        refine lv_istore_n (lv' := [(3, .int 2), (2, .int 2), (0, .ref A_self), (1, .int 0)]) hx hb dX0_bringDown_35 rfl hl (by decide) rfl (fun ls hl => ?_)
        refine lv_iload_n hx hb dX0_bringDown_36 rfl (lv_at hl 0 rfl) ?_
        refine lv_iload_n hx hb dX0_bringDown_37 rfl (lv_at hl 3 rfl) ?_
        refine iicmp_leF (a := 2) (b := 0) (tgt := 75) hx hb (by decide) (by decide) dX0_bringDown_38 (by decide) (by decide) ?_
        refine lv_aload_n hx hb dX0_bringDown_41 rfl (lv_at hl 2 rfl) ?_
        refine va_get (D := D) (ci := 0) (v := .ref A_counters) (C := RX0) (T := TX0) (N := 1) hx hb hts (fun _ h => List.mem_cons_of_mem _ (List.mem_append_right _ h)) hown hK hP 0 rfl rfl 0 (by decide) (hts (.fieldLink RX0 9 "CrownTable$Cloth" "counters" "[I") (mem_i 1 rfl)) (fun _ h9 => h9) rfl dX0_bringDown_42 ?_
        refine lv_iload_n hx hb dX0_bringDown_45 rfl (lv_at hl 0 rfl) ?_
        refine lv_dup2_11 hx hb dX0_bringDown_46 rfl rfl ?_
        refine va_iald hx hb hK hP 1 1 rfl rfl (vin (a := 2) (by decide) (by decide) (by decide)) dX0_bringDown_47 ?_
        refine lv_topi (fun x_28 ex_28 => ?_)
        have lf_29 : (f_counters 2).toInt = x_28.toInt := by rw [ex_28]; rfl
        refine lv_iconst (v := 1) hx hb dX0_bringDown_48 (by decide) ?_
        refine lv_isub hx hb dX0_bringDown_49 ?_
        refine lv_topi (fun x_30 ex_30 => ?_)
        have tx_30 : x_30.toInt = (x_28.toInt - 1) := by rw [ex_30]; exact sub_ti (a := x_28.toInt) (b := 1) rfl (by decide) (by omega) (by omega)
        refine va_iast hx hb hK hP hD hS 1 1 rfl rfl (vin (a := 2) (by decide) (by decide) (by decide)) dX0_bringDown_50 (fun H locs hP hD hS => ?_)
        obtain ⟨f_31, ef_31, hP, hD⟩ : ∃ f_31 : Nat → Int32, f_31 = upd f_counters (2 : Int32).toNatClampNeg x_30 ∧ va_P D vwCl [(A_self, .inr (0, [.ref A_counters])), (A_counters, .inl (c 1, 6, .inl f_31))] H ∧ va_D A [(A_self, .inr (0, [.ref A_counters])), (A_counters, .inl (c 1, 6, .inl f_31))] := ⟨_, rfl, hP, hD⟩
        have cl_32 : (f_31 0).toInt = (f_counters 0).toInt := by rw [ef_31]; rfl
        have cl_33 : (f_31 1).toInt = (f_counters 1).toInt := by rw [ef_31]; rfl
        have cl_34 : (f_31 2).toInt = x_30.toInt := by rw [ef_31]; rfl
        have cl_35 : (f_31 3).toInt = (f_counters 3).toInt := by rw [ef_31]; rfl
        have cl_36 : (f_31 4).toInt = (f_counters 4).toInt := by rw [ef_31]; rfl
        have cl_37 : (f_31 5).toInt = (f_counters 5).toInt := by rw [ef_31]; rfl
        refine lv_aload_n hx hb dX0_bringDown_51 rfl (lv_at hl 2 rfl) ?_
        refine va_get (D := D) (ci := 0) (v := .ref A_counters) (C := RX0) (T := TX0) (N := 1) hx hb hts (fun _ h => List.mem_cons_of_mem _ (List.mem_append_right _ h)) hown hK hP 0 rfl rfl 0 (by decide) (hts (.fieldLink RX0 9 "CrownTable$Cloth" "counters" "[I") (mem_i 1 rfl)) (fun _ h9 => h9) rfl dX0_bringDown_52 ?_
        refine lv_iload_n hx hb dX0_bringDown_55 rfl (lv_at hl 0 rfl) ?_
        refine lv_iconst (v := 1) hx hb dX0_bringDown_56 (by decide) ?_
        refine lv_isub hx hb dX0_bringDown_57 ?_
        refine lk_i (y := 1) (by decide) ?_
        refine lv_dup2_11 hx hb dX0_bringDown_58 rfl rfl ?_
        refine va_iald hx hb hK hP 1 1 rfl rfl (vin (a := 1) (by decide) (by decide) (by decide)) dX0_bringDown_59 ?_
        refine lv_topi (fun x_38 ex_38 => ?_)
        have lf_39 : (f_31 1).toInt = x_38.toInt := by rw [ex_38]; rfl
        refine va_gets hx hb hSt.2.2.1 hS hown (hts (.fieldLink RX0 23 "CrownTable$Cloth" "OF_THE_NEXT" "[I") (mem_i 2 rfl)) (fun _ h9 => h9) dX0_bringDown_60 ?_
        refine lv_iload_n hx hb dX0_bringDown_63 rfl (lv_at hl 0 rfl) ?_
        refine lv_iconst (v := 1) hx hb dX0_bringDown_64 (by decide) ?_
        refine lv_isub hx hb dX0_bringDown_65 ?_
        refine lk_i (y := 1) (by decide) ?_
        refine va_ti (v := .int 20) hx hb hSt.2.2.2.1 hS (vin (a := 1) (by decide) (by decide) (by decide)) rfl dX0_bringDown_66 ?_
        refine lv_iadd hx hb dX0_bringDown_67 ?_
        refine lv_topi (fun x_40 ex_40 => ?_)
        have tx_40 : x_40.toInt = (x_38.toInt + 20) := by rw [ex_40]; exact add_ti (a := x_38.toInt) (b := 20) rfl (by decide) (by omega) (by omega)
        refine va_iast hx hb hK hP hD hS 1 1 rfl rfl (vin (a := 1) (by decide) (by decide) (by decide)) dX0_bringDown_68 (fun H locs hP hD hS => ?_)
        obtain ⟨f_41, ef_41, hP, hD⟩ : ∃ f_41 : Nat → Int32, f_41 = upd f_31 (1 : Int32).toNatClampNeg x_40 ∧ va_P D vwCl [(A_self, .inr (0, [.ref A_counters])), (A_counters, .inl (c 1, 6, .inl f_41))] H ∧ va_D A [(A_self, .inr (0, [.ref A_counters])), (A_counters, .inl (c 1, 6, .inl f_41))] := ⟨_, rfl, hP, hD⟩
        have cl_42 : (f_41 0).toInt = (f_31 0).toInt := by rw [ef_41]; rfl
        have cl_43 : (f_41 1).toInt = x_40.toInt := by rw [ef_41]; rfl
        have cl_44 : (f_41 2).toInt = (f_31 2).toInt := by rw [ef_41]; rfl
        have cl_45 : (f_41 3).toInt = (f_31 3).toInt := by rw [ef_41]; rfl
        have cl_46 : (f_41 4).toInt = (f_31 4).toInt := by rw [ef_41]; rfl
        have cl_47 : (f_41 5).toInt = (f_31 5).toInt := by rw [ef_41]; rfl
        refine lv_iinc (v := 1) (lv' := [(3, .int 1), (2, .int 2), (0, .ref A_self), (1, .int 0)]) hx hb dX0_bringDown_69 hl (k := 0) rfl (by decide) (by decide) rfl (fun ls hl => ?_)
        refine lv_goto (tgt := 36) hx hb dX0_bringDown_72 (by decide) ?_
        refine lv_iload_n hx hb dX0_bringDown_36 rfl (lv_at hl 0 rfl) ?_
        refine lv_iload_n hx hb dX0_bringDown_37 rfl (lv_at hl 3 rfl) ?_
        refine iicmp_leF (a := 1) (b := 0) (tgt := 75) hx hb (by decide) (by decide) dX0_bringDown_38 (by decide) (by decide) ?_
        refine lv_aload_n hx hb dX0_bringDown_41 rfl (lv_at hl 2 rfl) ?_
        refine va_get (D := D) (ci := 0) (v := .ref A_counters) (C := RX0) (T := TX0) (N := 1) hx hb hts (fun _ h => List.mem_cons_of_mem _ (List.mem_append_right _ h)) hown hK hP 0 rfl rfl 0 (by decide) (hts (.fieldLink RX0 9 "CrownTable$Cloth" "counters" "[I") (mem_i 1 rfl)) (fun _ h9 => h9) rfl dX0_bringDown_42 ?_
        refine lv_iload_n hx hb dX0_bringDown_45 rfl (lv_at hl 0 rfl) ?_
        refine lv_dup2_11 hx hb dX0_bringDown_46 rfl rfl ?_
        refine va_iald hx hb hK hP 1 1 rfl rfl (vin (a := 1) (by decide) (by decide) (by decide)) dX0_bringDown_47 ?_
        refine lv_topi (fun x_48 ex_48 => ?_)
        have lf_49 : (f_41 1).toInt = x_48.toInt := by rw [ex_48]; rfl
        refine lv_iconst (v := 1) hx hb dX0_bringDown_48 (by decide) ?_
        refine lv_isub hx hb dX0_bringDown_49 ?_
        refine lv_topi (fun x_50 ex_50 => ?_)
        have tx_50 : x_50.toInt = (x_48.toInt - 1) := by rw [ex_50]; exact sub_ti (a := x_48.toInt) (b := 1) rfl (by decide) (by omega) (by omega)
        refine va_iast hx hb hK hP hD hS 1 1 rfl rfl (vin (a := 1) (by decide) (by decide) (by decide)) dX0_bringDown_50 (fun H locs hP hD hS => ?_)
        obtain ⟨f_51, ef_51, hP, hD⟩ : ∃ f_51 : Nat → Int32, f_51 = upd f_41 (1 : Int32).toNatClampNeg x_50 ∧ va_P D vwCl [(A_self, .inr (0, [.ref A_counters])), (A_counters, .inl (c 1, 6, .inl f_51))] H ∧ va_D A [(A_self, .inr (0, [.ref A_counters])), (A_counters, .inl (c 1, 6, .inl f_51))] := ⟨_, rfl, hP, hD⟩
        have cl_52 : (f_51 0).toInt = (f_41 0).toInt := by rw [ef_51]; rfl
        have cl_53 : (f_51 1).toInt = x_50.toInt := by rw [ef_51]; rfl
        have cl_54 : (f_51 2).toInt = (f_41 2).toInt := by rw [ef_51]; rfl
        have cl_55 : (f_51 3).toInt = (f_41 3).toInt := by rw [ef_51]; rfl
        have cl_56 : (f_51 4).toInt = (f_41 4).toInt := by rw [ef_51]; rfl
        have cl_57 : (f_51 5).toInt = (f_41 5).toInt := by rw [ef_51]; rfl
        refine lv_aload_n hx hb dX0_bringDown_51 rfl (lv_at hl 2 rfl) ?_
        refine va_get (D := D) (ci := 0) (v := .ref A_counters) (C := RX0) (T := TX0) (N := 1) hx hb hts (fun _ h => List.mem_cons_of_mem _ (List.mem_append_right _ h)) hown hK hP 0 rfl rfl 0 (by decide) (hts (.fieldLink RX0 9 "CrownTable$Cloth" "counters" "[I") (mem_i 1 rfl)) (fun _ h9 => h9) rfl dX0_bringDown_52 ?_
        refine lv_iload_n hx hb dX0_bringDown_55 rfl (lv_at hl 0 rfl) ?_
        refine lv_iconst (v := 1) hx hb dX0_bringDown_56 (by decide) ?_
        refine lv_isub hx hb dX0_bringDown_57 ?_
        refine lk_i (y := 0) (by decide) ?_
        refine lv_dup2_11 hx hb dX0_bringDown_58 rfl rfl ?_
        refine va_iald hx hb hK hP 1 1 rfl rfl (vin (a := 0) (by decide) (by decide) (by decide)) dX0_bringDown_59 ?_
        refine lv_topi (fun x_58 ex_58 => ?_)
        have lf_59 : (f_51 0).toInt = x_58.toInt := by rw [ex_58]; rfl
        refine va_gets hx hb hSt.2.2.1 hS hown (hts (.fieldLink RX0 23 "CrownTable$Cloth" "OF_THE_NEXT" "[I") (mem_i 2 rfl)) (fun _ h9 => h9) dX0_bringDown_60 ?_
        refine lv_iload_n hx hb dX0_bringDown_63 rfl (lv_at hl 0 rfl) ?_
        refine lv_iconst (v := 1) hx hb dX0_bringDown_64 (by decide) ?_
        refine lv_isub hx hb dX0_bringDown_65 ?_
        refine lk_i (y := 0) (by decide) ?_
        refine va_ti (v := .int 12) hx hb hSt.2.2.2.1 hS (vin (a := 0) (by decide) (by decide) (by decide)) rfl dX0_bringDown_66 ?_
        refine lv_iadd hx hb dX0_bringDown_67 ?_
        refine lv_topi (fun x_60 ex_60 => ?_)
        have tx_60 : x_60.toInt = (x_58.toInt + 12) := by rw [ex_60]; exact add_ti (a := x_58.toInt) (b := 12) rfl (by decide) (by omega) (by omega)
        refine va_iast hx hb hK hP hD hS 1 1 rfl rfl (vin (a := 0) (by decide) (by decide) (by decide)) dX0_bringDown_68 (fun H locs hP hD hS => ?_)
        obtain ⟨f_61, ef_61, hP, hD⟩ : ∃ f_61 : Nat → Int32, f_61 = upd f_51 (0 : Int32).toNatClampNeg x_60 ∧ va_P D vwCl [(A_self, .inr (0, [.ref A_counters])), (A_counters, .inl (c 1, 6, .inl f_61))] H ∧ va_D A [(A_self, .inr (0, [.ref A_counters])), (A_counters, .inl (c 1, 6, .inl f_61))] := ⟨_, rfl, hP, hD⟩
        have cl_62 : (f_61 0).toInt = x_60.toInt := by rw [ef_61]; rfl
        have cl_63 : (f_61 1).toInt = (f_51 1).toInt := by rw [ef_61]; rfl
        have cl_64 : (f_61 2).toInt = (f_51 2).toInt := by rw [ef_61]; rfl
        have cl_65 : (f_61 3).toInt = (f_51 3).toInt := by rw [ef_61]; rfl
        have cl_66 : (f_61 4).toInt = (f_51 4).toInt := by rw [ef_61]; rfl
        have cl_67 : (f_61 5).toInt = (f_51 5).toInt := by rw [ef_61]; rfl
        refine lv_iinc (v := 0) (lv' := [(3, .int 0), (2, .int 2), (0, .ref A_self), (1, .int 0)]) hx hb dX0_bringDown_69 hl (k := 0) rfl (by decide) (by decide) rfl (fun ls hl => ?_)
        refine lv_goto (tgt := 36) hx hb dX0_bringDown_72 (by decide) ?_
        refine lv_iload_n hx hb dX0_bringDown_36 rfl (lv_at hl 0 rfl) ?_
        refine lv_iload_n hx hb dX0_bringDown_37 rfl (lv_at hl 3 rfl) ?_
        refine iicmp_leT (a := 0) (b := 0) (tgt := 75) hx hb (by decide) (by decide) dX0_bringDown_38 (by decide) (by decide) ?_
        refine lv_iload_n hx hb dX0_bringDown_75 rfl (lv_at hl 1 rfl) ?_
        refine lv_iload_n hx hb dX0_bringDown_76 rfl (lv_at hl 3 rfl) ?_
        refine lv_isub hx hb dX0_bringDown_77 ?_
        refine lk_i (y := 2) (by decide) ?_
        have kzz_68 : (2 : Int32).toInt = 2 := by decide
        have hP9 := hP.sub (ws' := [(A_self, .inr (0, [.ref A_counters])), (A_counters, .inl (c 1, 6, .inl f_61))]) [0, 1] rfl
        have hD9 := hD.sub (ws' := [(A_self, .inr (0, [.ref A_counters])), (A_counters, .inl (c 1, 6, .inl f_61))]) [0, 1] (by decide) rfl
        refine W.widen (k := 0) (n := 0) (by omega) (by omega) ?_
        exact W.iret (v := 2) hx hb hr (fun t ht hW => ⟨⟨_, (f_61, ()), rfl, (show BdI i_a1 (f_counters 0).toInt (f_counters 1).toInt (f_counters 2).toInt (f_counters 3).toInt (f_counters 4).toInt (f_counters 5).toInt (f_61 0).toInt (f_61 1).toInt (f_61 2).toInt (f_61 3).toInt (f_61 4).toInt (f_61 5).toInt (2 : Int32).toInt from (BdI.i0_1 hsp (by omega) (by omega) (by omega) (by omega) (by omega) (by omega) (by omega) (by omega) (by omega))), ⟨by rw [ht]; exact hP9, hD9⟩⟩, hS.F ht⟩) hS.2.2 dX0_bringDown_78
      · skip
        refine lv_iinc (v := 3) (lv' := [(2, .int 3), (0, .ref A_self), (1, .int 0)]) hx hb dX0_bringDown_20 hl (k := 0) rfl (by decide) (by decide) rfl (fun ls hl => ?_)
        refine lv_goto (tgt := 4) hx hb dX0_bringDown_23 (by decide) ?_
        refine lv_iload_n hx hb dX0_bringDown_4 rfl (lv_at hl 0 rfl) ?_
        refine lv_bipush (v := 6) hx hb dX0_bringDown_5 (by decide) ?_
        refine iicmp_geF (a := 3) (b := 6) (tgt := 26) hx hb (by decide) (by decide) dX0_bringDown_7 (by decide) (by decide) ?_
        refine lv_aload_n hx hb dX0_bringDown_10 rfl (lv_at hl 1 rfl) ?_
        refine va_get (D := D) (ci := 0) (v := .ref A_counters) (C := RX0) (T := TX0) (N := 1) hx hb hts (fun _ h => List.mem_cons_of_mem _ (List.mem_append_right _ h)) hown hK hP 0 rfl rfl 0 (by decide) (hts (.fieldLink RX0 9 "CrownTable$Cloth" "counters" "[I") (mem_i 1 rfl)) (fun _ h9 => h9) rfl dX0_bringDown_11 ?_
        refine lv_iload_n hx hb dX0_bringDown_14 rfl (lv_at hl 0 rfl) ?_
        refine va_iald hx hb hK hP 1 1 rfl rfl (vin (a := 3) (by decide) (by decide) (by decide)) dX0_bringDown_15 ?_
        refine lv_topi (fun x_69 ex_69 => ?_)
        have lf_70 : (f_counters 3).toInt = x_69.toInt := by rw [ex_69]; rfl
        refine lv_iconst (v := 1) hx hb dX0_bringDown_16 (by decide) ?_
        refine iicmp_ge (a := x_69.toInt) (b := 1) (tgt := 26) hx hb rfl (by decide) dX0_bringDown_17 (by decide) (fun k_71 => ?_) (fun k_71 => ?_)
        · skip
          refine lv_iload_n hx hb dX0_bringDown_26 rfl (lv_at hl 0 rfl) ?_
          refine lv_bipush (v := 6) hx hb dX0_bringDown_27 (by decide) ?_
          refine iicmp_ltT (a := 3) (b := 6) (tgt := 34) hx hb (by decide) (by decide) dX0_bringDown_29 (by decide) (by decide) ?_
          refine lv_iload_n hx hb dX0_bringDown_34 rfl (lv_at hl 0 rfl) ?_
          refine lv_istore_n (lv' := [(3, .int 3), (2, .int 3), (0, .ref A_self), (1, .int 0)]) hx hb dX0_bringDown_35 rfl hl (by decide) rfl (fun ls hl => ?_)
          refine lv_iload_n hx hb dX0_bringDown_36 rfl (lv_at hl 0 rfl) ?_
          refine lv_iload_n hx hb dX0_bringDown_37 rfl (lv_at hl 3 rfl) ?_
          refine iicmp_leF (a := 3) (b := 0) (tgt := 75) hx hb (by decide) (by decide) dX0_bringDown_38 (by decide) (by decide) ?_
          refine lv_aload_n hx hb dX0_bringDown_41 rfl (lv_at hl 2 rfl) ?_
          refine va_get (D := D) (ci := 0) (v := .ref A_counters) (C := RX0) (T := TX0) (N := 1) hx hb hts (fun _ h => List.mem_cons_of_mem _ (List.mem_append_right _ h)) hown hK hP 0 rfl rfl 0 (by decide) (hts (.fieldLink RX0 9 "CrownTable$Cloth" "counters" "[I") (mem_i 1 rfl)) (fun _ h9 => h9) rfl dX0_bringDown_42 ?_
          refine lv_iload_n hx hb dX0_bringDown_45 rfl (lv_at hl 0 rfl) ?_
          refine lv_dup2_11 hx hb dX0_bringDown_46 rfl rfl ?_
          refine va_iald hx hb hK hP 1 1 rfl rfl (vin (a := 3) (by decide) (by decide) (by decide)) dX0_bringDown_47 ?_
          refine lv_topi (fun x_72 ex_72 => ?_)
          have lf_73 : (f_counters 3).toInt = x_72.toInt := by rw [ex_72]; rfl
          refine lv_iconst (v := 1) hx hb dX0_bringDown_48 (by decide) ?_
          refine lv_isub hx hb dX0_bringDown_49 ?_
          refine lv_topi (fun x_74 ex_74 => ?_)
          have tx_74 : x_74.toInt = (x_72.toInt - 1) := by rw [ex_74]; exact sub_ti (a := x_72.toInt) (b := 1) rfl (by decide) (by omega) (by omega)
          refine va_iast hx hb hK hP hD hS 1 1 rfl rfl (vin (a := 3) (by decide) (by decide) (by decide)) dX0_bringDown_50 (fun H locs hP hD hS => ?_)
          obtain ⟨f_75, ef_75, hP, hD⟩ : ∃ f_75 : Nat → Int32, f_75 = upd f_counters (3 : Int32).toNatClampNeg x_74 ∧ va_P D vwCl [(A_self, .inr (0, [.ref A_counters])), (A_counters, .inl (c 1, 6, .inl f_75))] H ∧ va_D A [(A_self, .inr (0, [.ref A_counters])), (A_counters, .inl (c 1, 6, .inl f_75))] := ⟨_, rfl, hP, hD⟩
          have cl_76 : (f_75 0).toInt = (f_counters 0).toInt := by rw [ef_75]; rfl
          have cl_77 : (f_75 1).toInt = (f_counters 1).toInt := by rw [ef_75]; rfl
          have cl_78 : (f_75 2).toInt = (f_counters 2).toInt := by rw [ef_75]; rfl
          have cl_79 : (f_75 3).toInt = x_74.toInt := by rw [ef_75]; rfl
          have cl_80 : (f_75 4).toInt = (f_counters 4).toInt := by rw [ef_75]; rfl
          have cl_81 : (f_75 5).toInt = (f_counters 5).toInt := by rw [ef_75]; rfl
          refine lv_aload_n hx hb dX0_bringDown_51 rfl (lv_at hl 2 rfl) ?_
          refine va_get (D := D) (ci := 0) (v := .ref A_counters) (C := RX0) (T := TX0) (N := 1) hx hb hts (fun _ h => List.mem_cons_of_mem _ (List.mem_append_right _ h)) hown hK hP 0 rfl rfl 0 (by decide) (hts (.fieldLink RX0 9 "CrownTable$Cloth" "counters" "[I") (mem_i 1 rfl)) (fun _ h9 => h9) rfl dX0_bringDown_52 ?_
          refine lv_iload_n hx hb dX0_bringDown_55 rfl (lv_at hl 0 rfl) ?_
          refine lv_iconst (v := 1) hx hb dX0_bringDown_56 (by decide) ?_
          refine lv_isub hx hb dX0_bringDown_57 ?_
          refine lk_i (y := 2) (by decide) ?_
          refine lv_dup2_11 hx hb dX0_bringDown_58 rfl rfl ?_
          refine va_iald hx hb hK hP 1 1 rfl rfl (vin (a := 2) (by decide) (by decide) (by decide)) dX0_bringDown_59 ?_
          refine lv_topi (fun x_82 ex_82 => ?_)
          have lf_83 : (f_75 2).toInt = x_82.toInt := by rw [ex_82]; rfl
          refine va_gets hx hb hSt.2.2.1 hS hown (hts (.fieldLink RX0 23 "CrownTable$Cloth" "OF_THE_NEXT" "[I") (mem_i 2 rfl)) (fun _ h9 => h9) dX0_bringDown_60 ?_
          refine lv_iload_n hx hb dX0_bringDown_63 rfl (lv_at hl 0 rfl) ?_
          refine lv_iconst (v := 1) hx hb dX0_bringDown_64 (by decide) ?_
          refine lv_isub hx hb dX0_bringDown_65 ?_
          refine lk_i (y := 2) (by decide) ?_
          refine va_ti (v := .int 20) hx hb hSt.2.2.2.1 hS (vin (a := 2) (by decide) (by decide) (by decide)) rfl dX0_bringDown_66 ?_
          refine lv_iadd hx hb dX0_bringDown_67 ?_
          refine lv_topi (fun x_84 ex_84 => ?_)
          have tx_84 : x_84.toInt = (x_82.toInt + 20) := by rw [ex_84]; exact add_ti (a := x_82.toInt) (b := 20) rfl (by decide) (by omega) (by omega)
          refine va_iast hx hb hK hP hD hS 1 1 rfl rfl (vin (a := 2) (by decide) (by decide) (by decide)) dX0_bringDown_68 (fun H locs hP hD hS => ?_)
          obtain ⟨f_85, ef_85, hP, hD⟩ : ∃ f_85 : Nat → Int32, f_85 = upd f_75 (2 : Int32).toNatClampNeg x_84 ∧ va_P D vwCl [(A_self, .inr (0, [.ref A_counters])), (A_counters, .inl (c 1, 6, .inl f_85))] H ∧ va_D A [(A_self, .inr (0, [.ref A_counters])), (A_counters, .inl (c 1, 6, .inl f_85))] := ⟨_, rfl, hP, hD⟩
          have cl_86 : (f_85 0).toInt = (f_75 0).toInt := by rw [ef_85]; rfl
          have cl_87 : (f_85 1).toInt = (f_75 1).toInt := by rw [ef_85]; rfl
          have cl_88 : (f_85 2).toInt = x_84.toInt := by rw [ef_85]; rfl
          have cl_89 : (f_85 3).toInt = (f_75 3).toInt := by rw [ef_85]; rfl
          have cl_90 : (f_85 4).toInt = (f_75 4).toInt := by rw [ef_85]; rfl
          have cl_91 : (f_85 5).toInt = (f_75 5).toInt := by rw [ef_85]; rfl
          refine lv_iinc (v := 2) (lv' := [(3, .int 2), (2, .int 3), (0, .ref A_self), (1, .int 0)]) hx hb dX0_bringDown_69 hl (k := 0) rfl (by decide) (by decide) rfl (fun ls hl => ?_)
          refine lv_goto (tgt := 36) hx hb dX0_bringDown_72 (by decide) ?_
          refine lv_iload_n hx hb dX0_bringDown_36 rfl (lv_at hl 0 rfl) ?_
          refine lv_iload_n hx hb dX0_bringDown_37 rfl (lv_at hl 3 rfl) ?_
          refine iicmp_leF (a := 2) (b := 0) (tgt := 75) hx hb (by decide) (by decide) dX0_bringDown_38 (by decide) (by decide) ?_
          refine lv_aload_n hx hb dX0_bringDown_41 rfl (lv_at hl 2 rfl) ?_
          refine va_get (D := D) (ci := 0) (v := .ref A_counters) (C := RX0) (T := TX0) (N := 1) hx hb hts (fun _ h => List.mem_cons_of_mem _ (List.mem_append_right _ h)) hown hK hP 0 rfl rfl 0 (by decide) (hts (.fieldLink RX0 9 "CrownTable$Cloth" "counters" "[I") (mem_i 1 rfl)) (fun _ h9 => h9) rfl dX0_bringDown_42 ?_
          refine lv_iload_n hx hb dX0_bringDown_45 rfl (lv_at hl 0 rfl) ?_
          refine lv_dup2_11 hx hb dX0_bringDown_46 rfl rfl ?_
          refine va_iald hx hb hK hP 1 1 rfl rfl (vin (a := 2) (by decide) (by decide) (by decide)) dX0_bringDown_47 ?_
          refine lv_topi (fun x_92 ex_92 => ?_)
          have lf_93 : (f_85 2).toInt = x_92.toInt := by rw [ex_92]; rfl
          refine lv_iconst (v := 1) hx hb dX0_bringDown_48 (by decide) ?_
          refine lv_isub hx hb dX0_bringDown_49 ?_
          refine lv_topi (fun x_94 ex_94 => ?_)
          have tx_94 : x_94.toInt = (x_92.toInt - 1) := by rw [ex_94]; exact sub_ti (a := x_92.toInt) (b := 1) rfl (by decide) (by omega) (by omega)
          refine va_iast hx hb hK hP hD hS 1 1 rfl rfl (vin (a := 2) (by decide) (by decide) (by decide)) dX0_bringDown_50 (fun H locs hP hD hS => ?_)
          obtain ⟨f_95, ef_95, hP, hD⟩ : ∃ f_95 : Nat → Int32, f_95 = upd f_85 (2 : Int32).toNatClampNeg x_94 ∧ va_P D vwCl [(A_self, .inr (0, [.ref A_counters])), (A_counters, .inl (c 1, 6, .inl f_95))] H ∧ va_D A [(A_self, .inr (0, [.ref A_counters])), (A_counters, .inl (c 1, 6, .inl f_95))] := ⟨_, rfl, hP, hD⟩
          have cl_96 : (f_95 0).toInt = (f_85 0).toInt := by rw [ef_95]; rfl
          have cl_97 : (f_95 1).toInt = (f_85 1).toInt := by rw [ef_95]; rfl
          have cl_98 : (f_95 2).toInt = x_94.toInt := by rw [ef_95]; rfl
          have cl_99 : (f_95 3).toInt = (f_85 3).toInt := by rw [ef_95]; rfl
          have cl_100 : (f_95 4).toInt = (f_85 4).toInt := by rw [ef_95]; rfl
          have cl_101 : (f_95 5).toInt = (f_85 5).toInt := by rw [ef_95]; rfl
          refine lv_aload_n hx hb dX0_bringDown_51 rfl (lv_at hl 2 rfl) ?_
          refine va_get (D := D) (ci := 0) (v := .ref A_counters) (C := RX0) (T := TX0) (N := 1) hx hb hts (fun _ h => List.mem_cons_of_mem _ (List.mem_append_right _ h)) hown hK hP 0 rfl rfl 0 (by decide) (hts (.fieldLink RX0 9 "CrownTable$Cloth" "counters" "[I") (mem_i 1 rfl)) (fun _ h9 => h9) rfl dX0_bringDown_52 ?_
          refine lv_iload_n hx hb dX0_bringDown_55 rfl (lv_at hl 0 rfl) ?_
          refine lv_iconst (v := 1) hx hb dX0_bringDown_56 (by decide) ?_
          refine lv_isub hx hb dX0_bringDown_57 ?_
          refine lk_i (y := 1) (by decide) ?_
          refine lv_dup2_11 hx hb dX0_bringDown_58 rfl rfl ?_
          refine va_iald hx hb hK hP 1 1 rfl rfl (vin (a := 1) (by decide) (by decide) (by decide)) dX0_bringDown_59 ?_
          refine lv_topi (fun x_102 ex_102 => ?_)
          have lf_103 : (f_95 1).toInt = x_102.toInt := by rw [ex_102]; rfl
          refine va_gets hx hb hSt.2.2.1 hS hown (hts (.fieldLink RX0 23 "CrownTable$Cloth" "OF_THE_NEXT" "[I") (mem_i 2 rfl)) (fun _ h9 => h9) dX0_bringDown_60 ?_
          refine lv_iload_n hx hb dX0_bringDown_63 rfl (lv_at hl 0 rfl) ?_
          refine lv_iconst (v := 1) hx hb dX0_bringDown_64 (by decide) ?_
          refine lv_isub hx hb dX0_bringDown_65 ?_
          refine lk_i (y := 1) (by decide) ?_
          refine va_ti (v := .int 20) hx hb hSt.2.2.2.1 hS (vin (a := 1) (by decide) (by decide) (by decide)) rfl dX0_bringDown_66 ?_
          refine lv_iadd hx hb dX0_bringDown_67 ?_
          refine lv_topi (fun x_104 ex_104 => ?_)
          have tx_104 : x_104.toInt = (x_102.toInt + 20) := by rw [ex_104]; exact add_ti (a := x_102.toInt) (b := 20) rfl (by decide) (by omega) (by omega)
          refine va_iast hx hb hK hP hD hS 1 1 rfl rfl (vin (a := 1) (by decide) (by decide) (by decide)) dX0_bringDown_68 (fun H locs hP hD hS => ?_)
          obtain ⟨f_105, ef_105, hP, hD⟩ : ∃ f_105 : Nat → Int32, f_105 = upd f_95 (1 : Int32).toNatClampNeg x_104 ∧ va_P D vwCl [(A_self, .inr (0, [.ref A_counters])), (A_counters, .inl (c 1, 6, .inl f_105))] H ∧ va_D A [(A_self, .inr (0, [.ref A_counters])), (A_counters, .inl (c 1, 6, .inl f_105))] := ⟨_, rfl, hP, hD⟩
          have cl_106 : (f_105 0).toInt = (f_95 0).toInt := by rw [ef_105]; rfl
          have cl_107 : (f_105 1).toInt = x_104.toInt := by rw [ef_105]; rfl
          have cl_108 : (f_105 2).toInt = (f_95 2).toInt := by rw [ef_105]; rfl
          have cl_109 : (f_105 3).toInt = (f_95 3).toInt := by rw [ef_105]; rfl
          have cl_110 : (f_105 4).toInt = (f_95 4).toInt := by rw [ef_105]; rfl
          have cl_111 : (f_105 5).toInt = (f_95 5).toInt := by rw [ef_105]; rfl
          refine lv_iinc (v := 1) (lv' := [(3, .int 1), (2, .int 3), (0, .ref A_self), (1, .int 0)]) hx hb dX0_bringDown_69 hl (k := 0) rfl (by decide) (by decide) rfl (fun ls hl => ?_)
          refine lv_goto (tgt := 36) hx hb dX0_bringDown_72 (by decide) ?_
          refine lv_iload_n hx hb dX0_bringDown_36 rfl (lv_at hl 0 rfl) ?_
          refine lv_iload_n hx hb dX0_bringDown_37 rfl (lv_at hl 3 rfl) ?_
          refine iicmp_leF (a := 1) (b := 0) (tgt := 75) hx hb (by decide) (by decide) dX0_bringDown_38 (by decide) (by decide) ?_
          refine lv_aload_n hx hb dX0_bringDown_41 rfl (lv_at hl 2 rfl) ?_
          refine va_get (D := D) (ci := 0) (v := .ref A_counters) (C := RX0) (T := TX0) (N := 1) hx hb hts (fun _ h => List.mem_cons_of_mem _ (List.mem_append_right _ h)) hown hK hP 0 rfl rfl 0 (by decide) (hts (.fieldLink RX0 9 "CrownTable$Cloth" "counters" "[I") (mem_i 1 rfl)) (fun _ h9 => h9) rfl dX0_bringDown_42 ?_
          refine lv_iload_n hx hb dX0_bringDown_45 rfl (lv_at hl 0 rfl) ?_
          refine lv_dup2_11 hx hb dX0_bringDown_46 rfl rfl ?_
          refine va_iald hx hb hK hP 1 1 rfl rfl (vin (a := 1) (by decide) (by decide) (by decide)) dX0_bringDown_47 ?_
          refine lv_topi (fun x_112 ex_112 => ?_)
          have lf_113 : (f_105 1).toInt = x_112.toInt := by rw [ex_112]; rfl
          refine lv_iconst (v := 1) hx hb dX0_bringDown_48 (by decide) ?_
          refine lv_isub hx hb dX0_bringDown_49 ?_
          refine lv_topi (fun x_114 ex_114 => ?_)
          have tx_114 : x_114.toInt = (x_112.toInt - 1) := by rw [ex_114]; exact sub_ti (a := x_112.toInt) (b := 1) rfl (by decide) (by omega) (by omega)
          refine va_iast hx hb hK hP hD hS 1 1 rfl rfl (vin (a := 1) (by decide) (by decide) (by decide)) dX0_bringDown_50 (fun H locs hP hD hS => ?_)
          obtain ⟨f_115, ef_115, hP, hD⟩ : ∃ f_115 : Nat → Int32, f_115 = upd f_105 (1 : Int32).toNatClampNeg x_114 ∧ va_P D vwCl [(A_self, .inr (0, [.ref A_counters])), (A_counters, .inl (c 1, 6, .inl f_115))] H ∧ va_D A [(A_self, .inr (0, [.ref A_counters])), (A_counters, .inl (c 1, 6, .inl f_115))] := ⟨_, rfl, hP, hD⟩
          have cl_116 : (f_115 0).toInt = (f_105 0).toInt := by rw [ef_115]; rfl
          have cl_117 : (f_115 1).toInt = x_114.toInt := by rw [ef_115]; rfl
          have cl_118 : (f_115 2).toInt = (f_105 2).toInt := by rw [ef_115]; rfl
          have cl_119 : (f_115 3).toInt = (f_105 3).toInt := by rw [ef_115]; rfl
          have cl_120 : (f_115 4).toInt = (f_105 4).toInt := by rw [ef_115]; rfl
          have cl_121 : (f_115 5).toInt = (f_105 5).toInt := by rw [ef_115]; rfl
          refine lv_aload_n hx hb dX0_bringDown_51 rfl (lv_at hl 2 rfl) ?_
          refine va_get (D := D) (ci := 0) (v := .ref A_counters) (C := RX0) (T := TX0) (N := 1) hx hb hts (fun _ h => List.mem_cons_of_mem _ (List.mem_append_right _ h)) hown hK hP 0 rfl rfl 0 (by decide) (hts (.fieldLink RX0 9 "CrownTable$Cloth" "counters" "[I") (mem_i 1 rfl)) (fun _ h9 => h9) rfl dX0_bringDown_52 ?_
          refine lv_iload_n hx hb dX0_bringDown_55 rfl (lv_at hl 0 rfl) ?_
          refine lv_iconst (v := 1) hx hb dX0_bringDown_56 (by decide) ?_
          refine lv_isub hx hb dX0_bringDown_57 ?_
          refine lk_i (y := 0) (by decide) ?_
          refine lv_dup2_11 hx hb dX0_bringDown_58 rfl rfl ?_
          refine va_iald hx hb hK hP 1 1 rfl rfl (vin (a := 0) (by decide) (by decide) (by decide)) dX0_bringDown_59 ?_
          refine lv_topi (fun x_122 ex_122 => ?_)
          have lf_123 : (f_115 0).toInt = x_122.toInt := by rw [ex_122]; rfl
          refine va_gets hx hb hSt.2.2.1 hS hown (hts (.fieldLink RX0 23 "CrownTable$Cloth" "OF_THE_NEXT" "[I") (mem_i 2 rfl)) (fun _ h9 => h9) dX0_bringDown_60 ?_
          refine lv_iload_n hx hb dX0_bringDown_63 rfl (lv_at hl 0 rfl) ?_
          refine lv_iconst (v := 1) hx hb dX0_bringDown_64 (by decide) ?_
          refine lv_isub hx hb dX0_bringDown_65 ?_
          refine lk_i (y := 0) (by decide) ?_
          refine va_ti (v := .int 12) hx hb hSt.2.2.2.1 hS (vin (a := 0) (by decide) (by decide) (by decide)) rfl dX0_bringDown_66 ?_
          refine lv_iadd hx hb dX0_bringDown_67 ?_
          refine lv_topi (fun x_124 ex_124 => ?_)
          have tx_124 : x_124.toInt = (x_122.toInt + 12) := by rw [ex_124]; exact add_ti (a := x_122.toInt) (b := 12) rfl (by decide) (by omega) (by omega)
          refine va_iast hx hb hK hP hD hS 1 1 rfl rfl (vin (a := 0) (by decide) (by decide) (by decide)) dX0_bringDown_68 (fun H locs hP hD hS => ?_)
          obtain ⟨f_125, ef_125, hP, hD⟩ : ∃ f_125 : Nat → Int32, f_125 = upd f_115 (0 : Int32).toNatClampNeg x_124 ∧ va_P D vwCl [(A_self, .inr (0, [.ref A_counters])), (A_counters, .inl (c 1, 6, .inl f_125))] H ∧ va_D A [(A_self, .inr (0, [.ref A_counters])), (A_counters, .inl (c 1, 6, .inl f_125))] := ⟨_, rfl, hP, hD⟩
          have cl_126 : (f_125 0).toInt = x_124.toInt := by rw [ef_125]; rfl
          have cl_127 : (f_125 1).toInt = (f_115 1).toInt := by rw [ef_125]; rfl
          have cl_128 : (f_125 2).toInt = (f_115 2).toInt := by rw [ef_125]; rfl
          have cl_129 : (f_125 3).toInt = (f_115 3).toInt := by rw [ef_125]; rfl
          have cl_130 : (f_125 4).toInt = (f_115 4).toInt := by rw [ef_125]; rfl
          have cl_131 : (f_125 5).toInt = (f_115 5).toInt := by rw [ef_125]; rfl
          refine lv_iinc (v := 0) (lv' := [(3, .int 0), (2, .int 3), (0, .ref A_self), (1, .int 0)]) hx hb dX0_bringDown_69 hl (k := 0) rfl (by decide) (by decide) rfl (fun ls hl => ?_)
          refine lv_goto (tgt := 36) hx hb dX0_bringDown_72 (by decide) ?_
          refine lv_iload_n hx hb dX0_bringDown_36 rfl (lv_at hl 0 rfl) ?_
          refine lv_iload_n hx hb dX0_bringDown_37 rfl (lv_at hl 3 rfl) ?_
          refine iicmp_leT (a := 0) (b := 0) (tgt := 75) hx hb (by decide) (by decide) dX0_bringDown_38 (by decide) (by decide) ?_
          refine lv_iload_n hx hb dX0_bringDown_75 rfl (lv_at hl 1 rfl) ?_
          refine lv_iload_n hx hb dX0_bringDown_76 rfl (lv_at hl 3 rfl) ?_
          refine lv_isub hx hb dX0_bringDown_77 ?_
          refine lk_i (y := 3) (by decide) ?_
          have kzz_132 : (3 : Int32).toInt = 3 := by decide
          have hP9 := hP.sub (ws' := [(A_self, .inr (0, [.ref A_counters])), (A_counters, .inl (c 1, 6, .inl f_125))]) [0, 1] rfl
          have hD9 := hD.sub (ws' := [(A_self, .inr (0, [.ref A_counters])), (A_counters, .inl (c 1, 6, .inl f_125))]) [0, 1] (by decide) rfl
          refine W.widen (k := 0) (n := 0) (by omega) (by omega) ?_
          exact W.iret (v := 3) hx hb hr (fun t ht hW => ⟨⟨_, (f_125, ()), rfl, (show BdI i_a1 (f_counters 0).toInt (f_counters 1).toInt (f_counters 2).toInt (f_counters 3).toInt (f_counters 4).toInt (f_counters 5).toInt (f_125 0).toInt (f_125 1).toInt (f_125 2).toInt (f_125 3).toInt (f_125 4).toInt (f_125 5).toInt (3 : Int32).toInt from (BdI.i0_2 hsp (by omega) (by omega) (by omega) (by omega) (by omega) (by omega) (by omega) (by omega) (by omega) (by omega))), ⟨by rw [ht]; exact hP9, hD9⟩⟩, hS.F ht⟩) hS.2.2 dX0_bringDown_78
        · skip
          refine lv_iinc (v := 4) (lv' := [(2, .int 4), (0, .ref A_self), (1, .int 0)]) hx hb dX0_bringDown_20 hl (k := 0) rfl (by decide) (by decide) rfl (fun ls hl => ?_)
          refine lv_goto (tgt := 4) hx hb dX0_bringDown_23 (by decide) ?_
          refine lv_iload_n hx hb dX0_bringDown_4 rfl (lv_at hl 0 rfl) ?_
          refine lv_bipush (v := 6) hx hb dX0_bringDown_5 (by decide) ?_
          refine iicmp_geF (a := 4) (b := 6) (tgt := 26) hx hb (by decide) (by decide) dX0_bringDown_7 (by decide) (by decide) ?_
          refine lv_aload_n hx hb dX0_bringDown_10 rfl (lv_at hl 1 rfl) ?_
          refine va_get (D := D) (ci := 0) (v := .ref A_counters) (C := RX0) (T := TX0) (N := 1) hx hb hts (fun _ h => List.mem_cons_of_mem _ (List.mem_append_right _ h)) hown hK hP 0 rfl rfl 0 (by decide) (hts (.fieldLink RX0 9 "CrownTable$Cloth" "counters" "[I") (mem_i 1 rfl)) (fun _ h9 => h9) rfl dX0_bringDown_11 ?_
          refine lv_iload_n hx hb dX0_bringDown_14 rfl (lv_at hl 0 rfl) ?_
          refine va_iald hx hb hK hP 1 1 rfl rfl (vin (a := 4) (by decide) (by decide) (by decide)) dX0_bringDown_15 ?_
          refine lv_topi (fun x_133 ex_133 => ?_)
          have lf_134 : (f_counters 4).toInt = x_133.toInt := by rw [ex_133]; rfl
          refine lv_iconst (v := 1) hx hb dX0_bringDown_16 (by decide) ?_
          refine iicmp_ge (a := x_133.toInt) (b := 1) (tgt := 26) hx hb rfl (by decide) dX0_bringDown_17 (by decide) (fun k_135 => ?_) (fun k_135 => ?_)
          · skip
            refine lv_iload_n hx hb dX0_bringDown_26 rfl (lv_at hl 0 rfl) ?_
            refine lv_bipush (v := 6) hx hb dX0_bringDown_27 (by decide) ?_
            refine iicmp_ltT (a := 4) (b := 6) (tgt := 34) hx hb (by decide) (by decide) dX0_bringDown_29 (by decide) (by decide) ?_
            refine lv_iload_n hx hb dX0_bringDown_34 rfl (lv_at hl 0 rfl) ?_
            refine lv_istore_n (lv' := [(3, .int 4), (2, .int 4), (0, .ref A_self), (1, .int 0)]) hx hb dX0_bringDown_35 rfl hl (by decide) rfl (fun ls hl => ?_)
            refine lv_iload_n hx hb dX0_bringDown_36 rfl (lv_at hl 0 rfl) ?_
            refine lv_iload_n hx hb dX0_bringDown_37 rfl (lv_at hl 3 rfl) ?_
            refine iicmp_leF (a := 4) (b := 0) (tgt := 75) hx hb (by decide) (by decide) dX0_bringDown_38 (by decide) (by decide) ?_
            refine lv_aload_n hx hb dX0_bringDown_41 rfl (lv_at hl 2 rfl) ?_
            refine va_get (D := D) (ci := 0) (v := .ref A_counters) (C := RX0) (T := TX0) (N := 1) hx hb hts (fun _ h => List.mem_cons_of_mem _ (List.mem_append_right _ h)) hown hK hP 0 rfl rfl 0 (by decide) (hts (.fieldLink RX0 9 "CrownTable$Cloth" "counters" "[I") (mem_i 1 rfl)) (fun _ h9 => h9) rfl dX0_bringDown_42 ?_
            refine lv_iload_n hx hb dX0_bringDown_45 rfl (lv_at hl 0 rfl) ?_
            refine lv_dup2_11 hx hb dX0_bringDown_46 rfl rfl ?_
            refine va_iald hx hb hK hP 1 1 rfl rfl (vin (a := 4) (by decide) (by decide) (by decide)) dX0_bringDown_47 ?_
            refine lv_topi (fun x_136 ex_136 => ?_)
            have lf_137 : (f_counters 4).toInt = x_136.toInt := by rw [ex_136]; rfl
            refine lv_iconst (v := 1) hx hb dX0_bringDown_48 (by decide) ?_
            refine lv_isub hx hb dX0_bringDown_49 ?_
            refine lv_topi (fun x_138 ex_138 => ?_)
            have tx_138 : x_138.toInt = (x_136.toInt - 1) := by rw [ex_138]; exact sub_ti (a := x_136.toInt) (b := 1) rfl (by decide) (by omega) (by omega)
            refine va_iast hx hb hK hP hD hS 1 1 rfl rfl (vin (a := 4) (by decide) (by decide) (by decide)) dX0_bringDown_50 (fun H locs hP hD hS => ?_)
            obtain ⟨f_139, ef_139, hP, hD⟩ : ∃ f_139 : Nat → Int32, f_139 = upd f_counters (4 : Int32).toNatClampNeg x_138 ∧ va_P D vwCl [(A_self, .inr (0, [.ref A_counters])), (A_counters, .inl (c 1, 6, .inl f_139))] H ∧ va_D A [(A_self, .inr (0, [.ref A_counters])), (A_counters, .inl (c 1, 6, .inl f_139))] := ⟨_, rfl, hP, hD⟩
            have cl_140 : (f_139 0).toInt = (f_counters 0).toInt := by rw [ef_139]; rfl
            have cl_141 : (f_139 1).toInt = (f_counters 1).toInt := by rw [ef_139]; rfl
            have cl_142 : (f_139 2).toInt = (f_counters 2).toInt := by rw [ef_139]; rfl
            have cl_143 : (f_139 3).toInt = (f_counters 3).toInt := by rw [ef_139]; rfl
            have cl_144 : (f_139 4).toInt = x_138.toInt := by rw [ef_139]; rfl
            have cl_145 : (f_139 5).toInt = (f_counters 5).toInt := by rw [ef_139]; rfl
            refine lv_aload_n hx hb dX0_bringDown_51 rfl (lv_at hl 2 rfl) ?_
            refine va_get (D := D) (ci := 0) (v := .ref A_counters) (C := RX0) (T := TX0) (N := 1) hx hb hts (fun _ h => List.mem_cons_of_mem _ (List.mem_append_right _ h)) hown hK hP 0 rfl rfl 0 (by decide) (hts (.fieldLink RX0 9 "CrownTable$Cloth" "counters" "[I") (mem_i 1 rfl)) (fun _ h9 => h9) rfl dX0_bringDown_52 ?_
            refine lv_iload_n hx hb dX0_bringDown_55 rfl (lv_at hl 0 rfl) ?_
            refine lv_iconst (v := 1) hx hb dX0_bringDown_56 (by decide) ?_
            refine lv_isub hx hb dX0_bringDown_57 ?_
            refine lk_i (y := 3) (by decide) ?_
            refine lv_dup2_11 hx hb dX0_bringDown_58 rfl rfl ?_
            refine va_iald hx hb hK hP 1 1 rfl rfl (vin (a := 3) (by decide) (by decide) (by decide)) dX0_bringDown_59 ?_
            refine lv_topi (fun x_146 ex_146 => ?_)
            have lf_147 : (f_139 3).toInt = x_146.toInt := by rw [ex_146]; rfl
            refine va_gets hx hb hSt.2.2.1 hS hown (hts (.fieldLink RX0 23 "CrownTable$Cloth" "OF_THE_NEXT" "[I") (mem_i 2 rfl)) (fun _ h9 => h9) dX0_bringDown_60 ?_
            refine lv_iload_n hx hb dX0_bringDown_63 rfl (lv_at hl 0 rfl) ?_
            refine lv_iconst (v := 1) hx hb dX0_bringDown_64 (by decide) ?_
            refine lv_isub hx hb dX0_bringDown_65 ?_
            refine lk_i (y := 3) (by decide) ?_
            refine va_ti (v := .int 5) hx hb hSt.2.2.2.1 hS (vin (a := 3) (by decide) (by decide) (by decide)) rfl dX0_bringDown_66 ?_
            refine lv_iadd hx hb dX0_bringDown_67 ?_
            refine lv_topi (fun x_148 ex_148 => ?_)
            have tx_148 : x_148.toInt = (x_146.toInt + 5) := by rw [ex_148]; exact add_ti (a := x_146.toInt) (b := 5) rfl (by decide) (by omega) (by omega)
            refine va_iast hx hb hK hP hD hS 1 1 rfl rfl (vin (a := 3) (by decide) (by decide) (by decide)) dX0_bringDown_68 (fun H locs hP hD hS => ?_)
            obtain ⟨f_149, ef_149, hP, hD⟩ : ∃ f_149 : Nat → Int32, f_149 = upd f_139 (3 : Int32).toNatClampNeg x_148 ∧ va_P D vwCl [(A_self, .inr (0, [.ref A_counters])), (A_counters, .inl (c 1, 6, .inl f_149))] H ∧ va_D A [(A_self, .inr (0, [.ref A_counters])), (A_counters, .inl (c 1, 6, .inl f_149))] := ⟨_, rfl, hP, hD⟩
            have cl_150 : (f_149 0).toInt = (f_139 0).toInt := by rw [ef_149]; rfl
            have cl_151 : (f_149 1).toInt = (f_139 1).toInt := by rw [ef_149]; rfl
            have cl_152 : (f_149 2).toInt = (f_139 2).toInt := by rw [ef_149]; rfl
            have cl_153 : (f_149 3).toInt = x_148.toInt := by rw [ef_149]; rfl
            have cl_154 : (f_149 4).toInt = (f_139 4).toInt := by rw [ef_149]; rfl
            have cl_155 : (f_149 5).toInt = (f_139 5).toInt := by rw [ef_149]; rfl
            refine lv_iinc (v := 3) (lv' := [(3, .int 3), (2, .int 4), (0, .ref A_self), (1, .int 0)]) hx hb dX0_bringDown_69 hl (k := 0) rfl (by decide) (by decide) rfl (fun ls hl => ?_)
            refine lv_goto (tgt := 36) hx hb dX0_bringDown_72 (by decide) ?_
            refine lv_iload_n hx hb dX0_bringDown_36 rfl (lv_at hl 0 rfl) ?_
            refine lv_iload_n hx hb dX0_bringDown_37 rfl (lv_at hl 3 rfl) ?_
            refine iicmp_leF (a := 3) (b := 0) (tgt := 75) hx hb (by decide) (by decide) dX0_bringDown_38 (by decide) (by decide) ?_
            refine lv_aload_n hx hb dX0_bringDown_41 rfl (lv_at hl 2 rfl) ?_
            refine va_get (D := D) (ci := 0) (v := .ref A_counters) (C := RX0) (T := TX0) (N := 1) hx hb hts (fun _ h => List.mem_cons_of_mem _ (List.mem_append_right _ h)) hown hK hP 0 rfl rfl 0 (by decide) (hts (.fieldLink RX0 9 "CrownTable$Cloth" "counters" "[I") (mem_i 1 rfl)) (fun _ h9 => h9) rfl dX0_bringDown_42 ?_
            refine lv_iload_n hx hb dX0_bringDown_45 rfl (lv_at hl 0 rfl) ?_
            refine lv_dup2_11 hx hb dX0_bringDown_46 rfl rfl ?_
            refine va_iald hx hb hK hP 1 1 rfl rfl (vin (a := 3) (by decide) (by decide) (by decide)) dX0_bringDown_47 ?_
            refine lv_topi (fun x_156 ex_156 => ?_)
            have lf_157 : (f_149 3).toInt = x_156.toInt := by rw [ex_156]; rfl
            refine lv_iconst (v := 1) hx hb dX0_bringDown_48 (by decide) ?_
            refine lv_isub hx hb dX0_bringDown_49 ?_
            refine lv_topi (fun x_158 ex_158 => ?_)
            have tx_158 : x_158.toInt = (x_156.toInt - 1) := by rw [ex_158]; exact sub_ti (a := x_156.toInt) (b := 1) rfl (by decide) (by omega) (by omega)
            refine va_iast hx hb hK hP hD hS 1 1 rfl rfl (vin (a := 3) (by decide) (by decide) (by decide)) dX0_bringDown_50 (fun H locs hP hD hS => ?_)
            obtain ⟨f_159, ef_159, hP, hD⟩ : ∃ f_159 : Nat → Int32, f_159 = upd f_149 (3 : Int32).toNatClampNeg x_158 ∧ va_P D vwCl [(A_self, .inr (0, [.ref A_counters])), (A_counters, .inl (c 1, 6, .inl f_159))] H ∧ va_D A [(A_self, .inr (0, [.ref A_counters])), (A_counters, .inl (c 1, 6, .inl f_159))] := ⟨_, rfl, hP, hD⟩
            have cl_160 : (f_159 0).toInt = (f_149 0).toInt := by rw [ef_159]; rfl
            have cl_161 : (f_159 1).toInt = (f_149 1).toInt := by rw [ef_159]; rfl
            have cl_162 : (f_159 2).toInt = (f_149 2).toInt := by rw [ef_159]; rfl
            have cl_163 : (f_159 3).toInt = x_158.toInt := by rw [ef_159]; rfl
            have cl_164 : (f_159 4).toInt = (f_149 4).toInt := by rw [ef_159]; rfl
            have cl_165 : (f_159 5).toInt = (f_149 5).toInt := by rw [ef_159]; rfl
            refine lv_aload_n hx hb dX0_bringDown_51 rfl (lv_at hl 2 rfl) ?_
            refine va_get (D := D) (ci := 0) (v := .ref A_counters) (C := RX0) (T := TX0) (N := 1) hx hb hts (fun _ h => List.mem_cons_of_mem _ (List.mem_append_right _ h)) hown hK hP 0 rfl rfl 0 (by decide) (hts (.fieldLink RX0 9 "CrownTable$Cloth" "counters" "[I") (mem_i 1 rfl)) (fun _ h9 => h9) rfl dX0_bringDown_52 ?_
            refine lv_iload_n hx hb dX0_bringDown_55 rfl (lv_at hl 0 rfl) ?_
            refine lv_iconst (v := 1) hx hb dX0_bringDown_56 (by decide) ?_
            refine lv_isub hx hb dX0_bringDown_57 ?_
            refine lk_i (y := 2) (by decide) ?_
            refine lv_dup2_11 hx hb dX0_bringDown_58 rfl rfl ?_
            refine va_iald hx hb hK hP 1 1 rfl rfl (vin (a := 2) (by decide) (by decide) (by decide)) dX0_bringDown_59 ?_
            refine lv_topi (fun x_166 ex_166 => ?_)
            have lf_167 : (f_159 2).toInt = x_166.toInt := by rw [ex_166]; rfl
            refine va_gets hx hb hSt.2.2.1 hS hown (hts (.fieldLink RX0 23 "CrownTable$Cloth" "OF_THE_NEXT" "[I") (mem_i 2 rfl)) (fun _ h9 => h9) dX0_bringDown_60 ?_
            refine lv_iload_n hx hb dX0_bringDown_63 rfl (lv_at hl 0 rfl) ?_
            refine lv_iconst (v := 1) hx hb dX0_bringDown_64 (by decide) ?_
            refine lv_isub hx hb dX0_bringDown_65 ?_
            refine lk_i (y := 2) (by decide) ?_
            refine va_ti (v := .int 20) hx hb hSt.2.2.2.1 hS (vin (a := 2) (by decide) (by decide) (by decide)) rfl dX0_bringDown_66 ?_
            refine lv_iadd hx hb dX0_bringDown_67 ?_
            refine lv_topi (fun x_168 ex_168 => ?_)
            have tx_168 : x_168.toInt = (x_166.toInt + 20) := by rw [ex_168]; exact add_ti (a := x_166.toInt) (b := 20) rfl (by decide) (by omega) (by omega)
            refine va_iast hx hb hK hP hD hS 1 1 rfl rfl (vin (a := 2) (by decide) (by decide) (by decide)) dX0_bringDown_68 (fun H locs hP hD hS => ?_)
            obtain ⟨f_169, ef_169, hP, hD⟩ : ∃ f_169 : Nat → Int32, f_169 = upd f_159 (2 : Int32).toNatClampNeg x_168 ∧ va_P D vwCl [(A_self, .inr (0, [.ref A_counters])), (A_counters, .inl (c 1, 6, .inl f_169))] H ∧ va_D A [(A_self, .inr (0, [.ref A_counters])), (A_counters, .inl (c 1, 6, .inl f_169))] := ⟨_, rfl, hP, hD⟩
            have cl_170 : (f_169 0).toInt = (f_159 0).toInt := by rw [ef_169]; rfl
            have cl_171 : (f_169 1).toInt = (f_159 1).toInt := by rw [ef_169]; rfl
            have cl_172 : (f_169 2).toInt = x_168.toInt := by rw [ef_169]; rfl
            have cl_173 : (f_169 3).toInt = (f_159 3).toInt := by rw [ef_169]; rfl
            have cl_174 : (f_169 4).toInt = (f_159 4).toInt := by rw [ef_169]; rfl
            have cl_175 : (f_169 5).toInt = (f_159 5).toInt := by rw [ef_169]; rfl
            refine lv_iinc (v := 2) (lv' := [(3, .int 2), (2, .int 4), (0, .ref A_self), (1, .int 0)]) hx hb dX0_bringDown_69 hl (k := 0) rfl (by decide) (by decide) rfl (fun ls hl => ?_)
            refine lv_goto (tgt := 36) hx hb dX0_bringDown_72 (by decide) ?_
            refine lv_iload_n hx hb dX0_bringDown_36 rfl (lv_at hl 0 rfl) ?_
            refine lv_iload_n hx hb dX0_bringDown_37 rfl (lv_at hl 3 rfl) ?_
            refine iicmp_leF (a := 2) (b := 0) (tgt := 75) hx hb (by decide) (by decide) dX0_bringDown_38 (by decide) (by decide) ?_
            refine lv_aload_n hx hb dX0_bringDown_41 rfl (lv_at hl 2 rfl) ?_
            refine va_get (D := D) (ci := 0) (v := .ref A_counters) (C := RX0) (T := TX0) (N := 1) hx hb hts (fun _ h => List.mem_cons_of_mem _ (List.mem_append_right _ h)) hown hK hP 0 rfl rfl 0 (by decide) (hts (.fieldLink RX0 9 "CrownTable$Cloth" "counters" "[I") (mem_i 1 rfl)) (fun _ h9 => h9) rfl dX0_bringDown_42 ?_
            refine lv_iload_n hx hb dX0_bringDown_45 rfl (lv_at hl 0 rfl) ?_
            refine lv_dup2_11 hx hb dX0_bringDown_46 rfl rfl ?_
            refine va_iald hx hb hK hP 1 1 rfl rfl (vin (a := 2) (by decide) (by decide) (by decide)) dX0_bringDown_47 ?_
            refine lv_topi (fun x_176 ex_176 => ?_)
            have lf_177 : (f_169 2).toInt = x_176.toInt := by rw [ex_176]; rfl
            refine lv_iconst (v := 1) hx hb dX0_bringDown_48 (by decide) ?_
            refine lv_isub hx hb dX0_bringDown_49 ?_
            refine lv_topi (fun x_178 ex_178 => ?_)
            have tx_178 : x_178.toInt = (x_176.toInt - 1) := by rw [ex_178]; exact sub_ti (a := x_176.toInt) (b := 1) rfl (by decide) (by omega) (by omega)
            refine va_iast hx hb hK hP hD hS 1 1 rfl rfl (vin (a := 2) (by decide) (by decide) (by decide)) dX0_bringDown_50 (fun H locs hP hD hS => ?_)
            obtain ⟨f_179, ef_179, hP, hD⟩ : ∃ f_179 : Nat → Int32, f_179 = upd f_169 (2 : Int32).toNatClampNeg x_178 ∧ va_P D vwCl [(A_self, .inr (0, [.ref A_counters])), (A_counters, .inl (c 1, 6, .inl f_179))] H ∧ va_D A [(A_self, .inr (0, [.ref A_counters])), (A_counters, .inl (c 1, 6, .inl f_179))] := ⟨_, rfl, hP, hD⟩
            have cl_180 : (f_179 0).toInt = (f_169 0).toInt := by rw [ef_179]; rfl
            have cl_181 : (f_179 1).toInt = (f_169 1).toInt := by rw [ef_179]; rfl
            have cl_182 : (f_179 2).toInt = x_178.toInt := by rw [ef_179]; rfl
            have cl_183 : (f_179 3).toInt = (f_169 3).toInt := by rw [ef_179]; rfl
            have cl_184 : (f_179 4).toInt = (f_169 4).toInt := by rw [ef_179]; rfl
            have cl_185 : (f_179 5).toInt = (f_169 5).toInt := by rw [ef_179]; rfl
            refine lv_aload_n hx hb dX0_bringDown_51 rfl (lv_at hl 2 rfl) ?_
            refine va_get (D := D) (ci := 0) (v := .ref A_counters) (C := RX0) (T := TX0) (N := 1) hx hb hts (fun _ h => List.mem_cons_of_mem _ (List.mem_append_right _ h)) hown hK hP 0 rfl rfl 0 (by decide) (hts (.fieldLink RX0 9 "CrownTable$Cloth" "counters" "[I") (mem_i 1 rfl)) (fun _ h9 => h9) rfl dX0_bringDown_52 ?_
            refine lv_iload_n hx hb dX0_bringDown_55 rfl (lv_at hl 0 rfl) ?_
            refine lv_iconst (v := 1) hx hb dX0_bringDown_56 (by decide) ?_
            refine lv_isub hx hb dX0_bringDown_57 ?_
            refine lk_i (y := 1) (by decide) ?_
            refine lv_dup2_11 hx hb dX0_bringDown_58 rfl rfl ?_
            refine va_iald hx hb hK hP 1 1 rfl rfl (vin (a := 1) (by decide) (by decide) (by decide)) dX0_bringDown_59 ?_
            refine lv_topi (fun x_186 ex_186 => ?_)
            have lf_187 : (f_179 1).toInt = x_186.toInt := by rw [ex_186]; rfl
            refine va_gets hx hb hSt.2.2.1 hS hown (hts (.fieldLink RX0 23 "CrownTable$Cloth" "OF_THE_NEXT" "[I") (mem_i 2 rfl)) (fun _ h9 => h9) dX0_bringDown_60 ?_
            refine lv_iload_n hx hb dX0_bringDown_63 rfl (lv_at hl 0 rfl) ?_
            refine lv_iconst (v := 1) hx hb dX0_bringDown_64 (by decide) ?_
            refine lv_isub hx hb dX0_bringDown_65 ?_
            refine lk_i (y := 1) (by decide) ?_
            refine va_ti (v := .int 20) hx hb hSt.2.2.2.1 hS (vin (a := 1) (by decide) (by decide) (by decide)) rfl dX0_bringDown_66 ?_
            refine lv_iadd hx hb dX0_bringDown_67 ?_
            refine lv_topi (fun x_188 ex_188 => ?_)
            have tx_188 : x_188.toInt = (x_186.toInt + 20) := by rw [ex_188]; exact add_ti (a := x_186.toInt) (b := 20) rfl (by decide) (by omega) (by omega)
            refine va_iast hx hb hK hP hD hS 1 1 rfl rfl (vin (a := 1) (by decide) (by decide) (by decide)) dX0_bringDown_68 (fun H locs hP hD hS => ?_)
            obtain ⟨f_189, ef_189, hP, hD⟩ : ∃ f_189 : Nat → Int32, f_189 = upd f_179 (1 : Int32).toNatClampNeg x_188 ∧ va_P D vwCl [(A_self, .inr (0, [.ref A_counters])), (A_counters, .inl (c 1, 6, .inl f_189))] H ∧ va_D A [(A_self, .inr (0, [.ref A_counters])), (A_counters, .inl (c 1, 6, .inl f_189))] := ⟨_, rfl, hP, hD⟩
            have cl_190 : (f_189 0).toInt = (f_179 0).toInt := by rw [ef_189]; rfl
            have cl_191 : (f_189 1).toInt = x_188.toInt := by rw [ef_189]; rfl
            have cl_192 : (f_189 2).toInt = (f_179 2).toInt := by rw [ef_189]; rfl
            have cl_193 : (f_189 3).toInt = (f_179 3).toInt := by rw [ef_189]; rfl
            have cl_194 : (f_189 4).toInt = (f_179 4).toInt := by rw [ef_189]; rfl
            have cl_195 : (f_189 5).toInt = (f_179 5).toInt := by rw [ef_189]; rfl
            refine lv_iinc (v := 1) (lv' := [(3, .int 1), (2, .int 4), (0, .ref A_self), (1, .int 0)]) hx hb dX0_bringDown_69 hl (k := 0) rfl (by decide) (by decide) rfl (fun ls hl => ?_)
            refine lv_goto (tgt := 36) hx hb dX0_bringDown_72 (by decide) ?_
            refine lv_iload_n hx hb dX0_bringDown_36 rfl (lv_at hl 0 rfl) ?_
            refine lv_iload_n hx hb dX0_bringDown_37 rfl (lv_at hl 3 rfl) ?_
            refine iicmp_leF (a := 1) (b := 0) (tgt := 75) hx hb (by decide) (by decide) dX0_bringDown_38 (by decide) (by decide) ?_
            refine lv_aload_n hx hb dX0_bringDown_41 rfl (lv_at hl 2 rfl) ?_
            refine va_get (D := D) (ci := 0) (v := .ref A_counters) (C := RX0) (T := TX0) (N := 1) hx hb hts (fun _ h => List.mem_cons_of_mem _ (List.mem_append_right _ h)) hown hK hP 0 rfl rfl 0 (by decide) (hts (.fieldLink RX0 9 "CrownTable$Cloth" "counters" "[I") (mem_i 1 rfl)) (fun _ h9 => h9) rfl dX0_bringDown_42 ?_
            refine lv_iload_n hx hb dX0_bringDown_45 rfl (lv_at hl 0 rfl) ?_
            refine lv_dup2_11 hx hb dX0_bringDown_46 rfl rfl ?_
            refine va_iald hx hb hK hP 1 1 rfl rfl (vin (a := 1) (by decide) (by decide) (by decide)) dX0_bringDown_47 ?_
            refine lv_topi (fun x_196 ex_196 => ?_)
            have lf_197 : (f_189 1).toInt = x_196.toInt := by rw [ex_196]; rfl
            refine lv_iconst (v := 1) hx hb dX0_bringDown_48 (by decide) ?_
            refine lv_isub hx hb dX0_bringDown_49 ?_
            refine lv_topi (fun x_198 ex_198 => ?_)
            have tx_198 : x_198.toInt = (x_196.toInt - 1) := by rw [ex_198]; exact sub_ti (a := x_196.toInt) (b := 1) rfl (by decide) (by omega) (by omega)
            refine va_iast hx hb hK hP hD hS 1 1 rfl rfl (vin (a := 1) (by decide) (by decide) (by decide)) dX0_bringDown_50 (fun H locs hP hD hS => ?_)
            obtain ⟨f_199, ef_199, hP, hD⟩ : ∃ f_199 : Nat → Int32, f_199 = upd f_189 (1 : Int32).toNatClampNeg x_198 ∧ va_P D vwCl [(A_self, .inr (0, [.ref A_counters])), (A_counters, .inl (c 1, 6, .inl f_199))] H ∧ va_D A [(A_self, .inr (0, [.ref A_counters])), (A_counters, .inl (c 1, 6, .inl f_199))] := ⟨_, rfl, hP, hD⟩
            have cl_200 : (f_199 0).toInt = (f_189 0).toInt := by rw [ef_199]; rfl
            have cl_201 : (f_199 1).toInt = x_198.toInt := by rw [ef_199]; rfl
            have cl_202 : (f_199 2).toInt = (f_189 2).toInt := by rw [ef_199]; rfl
            have cl_203 : (f_199 3).toInt = (f_189 3).toInt := by rw [ef_199]; rfl
            have cl_204 : (f_199 4).toInt = (f_189 4).toInt := by rw [ef_199]; rfl
            have cl_205 : (f_199 5).toInt = (f_189 5).toInt := by rw [ef_199]; rfl
            refine lv_aload_n hx hb dX0_bringDown_51 rfl (lv_at hl 2 rfl) ?_
            refine va_get (D := D) (ci := 0) (v := .ref A_counters) (C := RX0) (T := TX0) (N := 1) hx hb hts (fun _ h => List.mem_cons_of_mem _ (List.mem_append_right _ h)) hown hK hP 0 rfl rfl 0 (by decide) (hts (.fieldLink RX0 9 "CrownTable$Cloth" "counters" "[I") (mem_i 1 rfl)) (fun _ h9 => h9) rfl dX0_bringDown_52 ?_
            refine lv_iload_n hx hb dX0_bringDown_55 rfl (lv_at hl 0 rfl) ?_
            refine lv_iconst (v := 1) hx hb dX0_bringDown_56 (by decide) ?_
            refine lv_isub hx hb dX0_bringDown_57 ?_
            refine lk_i (y := 0) (by decide) ?_
            refine lv_dup2_11 hx hb dX0_bringDown_58 rfl rfl ?_
            refine va_iald hx hb hK hP 1 1 rfl rfl (vin (a := 0) (by decide) (by decide) (by decide)) dX0_bringDown_59 ?_
            refine lv_topi (fun x_206 ex_206 => ?_)
            have lf_207 : (f_199 0).toInt = x_206.toInt := by rw [ex_206]; rfl
            refine va_gets hx hb hSt.2.2.1 hS hown (hts (.fieldLink RX0 23 "CrownTable$Cloth" "OF_THE_NEXT" "[I") (mem_i 2 rfl)) (fun _ h9 => h9) dX0_bringDown_60 ?_
            refine lv_iload_n hx hb dX0_bringDown_63 rfl (lv_at hl 0 rfl) ?_
            refine lv_iconst (v := 1) hx hb dX0_bringDown_64 (by decide) ?_
            refine lv_isub hx hb dX0_bringDown_65 ?_
            refine lk_i (y := 0) (by decide) ?_
            refine va_ti (v := .int 12) hx hb hSt.2.2.2.1 hS (vin (a := 0) (by decide) (by decide) (by decide)) rfl dX0_bringDown_66 ?_
            refine lv_iadd hx hb dX0_bringDown_67 ?_
            refine lv_topi (fun x_208 ex_208 => ?_)
            have tx_208 : x_208.toInt = (x_206.toInt + 12) := by rw [ex_208]; exact add_ti (a := x_206.toInt) (b := 12) rfl (by decide) (by omega) (by omega)
            refine va_iast hx hb hK hP hD hS 1 1 rfl rfl (vin (a := 0) (by decide) (by decide) (by decide)) dX0_bringDown_68 (fun H locs hP hD hS => ?_)
            obtain ⟨f_209, ef_209, hP, hD⟩ : ∃ f_209 : Nat → Int32, f_209 = upd f_199 (0 : Int32).toNatClampNeg x_208 ∧ va_P D vwCl [(A_self, .inr (0, [.ref A_counters])), (A_counters, .inl (c 1, 6, .inl f_209))] H ∧ va_D A [(A_self, .inr (0, [.ref A_counters])), (A_counters, .inl (c 1, 6, .inl f_209))] := ⟨_, rfl, hP, hD⟩
            have cl_210 : (f_209 0).toInt = x_208.toInt := by rw [ef_209]; rfl
            have cl_211 : (f_209 1).toInt = (f_199 1).toInt := by rw [ef_209]; rfl
            have cl_212 : (f_209 2).toInt = (f_199 2).toInt := by rw [ef_209]; rfl
            have cl_213 : (f_209 3).toInt = (f_199 3).toInt := by rw [ef_209]; rfl
            have cl_214 : (f_209 4).toInt = (f_199 4).toInt := by rw [ef_209]; rfl
            have cl_215 : (f_209 5).toInt = (f_199 5).toInt := by rw [ef_209]; rfl
            refine lv_iinc (v := 0) (lv' := [(3, .int 0), (2, .int 4), (0, .ref A_self), (1, .int 0)]) hx hb dX0_bringDown_69 hl (k := 0) rfl (by decide) (by decide) rfl (fun ls hl => ?_)
            refine lv_goto (tgt := 36) hx hb dX0_bringDown_72 (by decide) ?_
            refine lv_iload_n hx hb dX0_bringDown_36 rfl (lv_at hl 0 rfl) ?_
            refine lv_iload_n hx hb dX0_bringDown_37 rfl (lv_at hl 3 rfl) ?_
            refine iicmp_leT (a := 0) (b := 0) (tgt := 75) hx hb (by decide) (by decide) dX0_bringDown_38 (by decide) (by decide) ?_
            refine lv_iload_n hx hb dX0_bringDown_75 rfl (lv_at hl 1 rfl) ?_
            refine lv_iload_n hx hb dX0_bringDown_76 rfl (lv_at hl 3 rfl) ?_
            refine lv_isub hx hb dX0_bringDown_77 ?_
            refine lk_i (y := 4) (by decide) ?_
            have kzz_216 : (4 : Int32).toInt = 4 := by decide
            have hP9 := hP.sub (ws' := [(A_self, .inr (0, [.ref A_counters])), (A_counters, .inl (c 1, 6, .inl f_209))]) [0, 1] rfl
            have hD9 := hD.sub (ws' := [(A_self, .inr (0, [.ref A_counters])), (A_counters, .inl (c 1, 6, .inl f_209))]) [0, 1] (by decide) rfl
            refine W.widen (k := 0) (n := 0) (by omega) (by omega) ?_
            exact W.iret (v := 4) hx hb hr (fun t ht hW => ⟨⟨_, (f_209, ()), rfl, (show BdI i_a1 (f_counters 0).toInt (f_counters 1).toInt (f_counters 2).toInt (f_counters 3).toInt (f_counters 4).toInt (f_counters 5).toInt (f_209 0).toInt (f_209 1).toInt (f_209 2).toInt (f_209 3).toInt (f_209 4).toInt (f_209 5).toInt (4 : Int32).toInt from (BdI.i0_3 hsp (by omega) (by omega) (by omega) (by omega) (by omega) (by omega) (by omega) (by omega) (by omega) (by omega) (by omega))), ⟨by rw [ht]; exact hP9, hD9⟩⟩, hS.F ht⟩) hS.2.2 dX0_bringDown_78
          · skip
            refine lv_iinc (v := 5) (lv' := [(2, .int 5), (0, .ref A_self), (1, .int 0)]) hx hb dX0_bringDown_20 hl (k := 0) rfl (by decide) (by decide) rfl (fun ls hl => ?_)
            refine lv_goto (tgt := 4) hx hb dX0_bringDown_23 (by decide) ?_
            refine lv_iload_n hx hb dX0_bringDown_4 rfl (lv_at hl 0 rfl) ?_
            refine lv_bipush (v := 6) hx hb dX0_bringDown_5 (by decide) ?_
            refine iicmp_geF (a := 5) (b := 6) (tgt := 26) hx hb (by decide) (by decide) dX0_bringDown_7 (by decide) (by decide) ?_
            refine lv_aload_n hx hb dX0_bringDown_10 rfl (lv_at hl 1 rfl) ?_
            refine va_get (D := D) (ci := 0) (v := .ref A_counters) (C := RX0) (T := TX0) (N := 1) hx hb hts (fun _ h => List.mem_cons_of_mem _ (List.mem_append_right _ h)) hown hK hP 0 rfl rfl 0 (by decide) (hts (.fieldLink RX0 9 "CrownTable$Cloth" "counters" "[I") (mem_i 1 rfl)) (fun _ h9 => h9) rfl dX0_bringDown_11 ?_
            refine lv_iload_n hx hb dX0_bringDown_14 rfl (lv_at hl 0 rfl) ?_
            refine va_iald hx hb hK hP 1 1 rfl rfl (vin (a := 5) (by decide) (by decide) (by decide)) dX0_bringDown_15 ?_
            refine lv_topi (fun x_217 ex_217 => ?_)
            have lf_218 : (f_counters 5).toInt = x_217.toInt := by rw [ex_217]; rfl
            refine lv_iconst (v := 1) hx hb dX0_bringDown_16 (by decide) ?_
            refine iicmp_ge (a := x_217.toInt) (b := 1) (tgt := 26) hx hb rfl (by decide) dX0_bringDown_17 (by decide) (fun k_219 => ?_) (fun k_219 => ?_)
            · skip
              refine lv_iload_n hx hb dX0_bringDown_26 rfl (lv_at hl 0 rfl) ?_
              refine lv_bipush (v := 6) hx hb dX0_bringDown_27 (by decide) ?_
              refine iicmp_ltT (a := 5) (b := 6) (tgt := 34) hx hb (by decide) (by decide) dX0_bringDown_29 (by decide) (by decide) ?_
              refine lv_iload_n hx hb dX0_bringDown_34 rfl (lv_at hl 0 rfl) ?_
              refine lv_istore_n (lv' := [(3, .int 5), (2, .int 5), (0, .ref A_self), (1, .int 0)]) hx hb dX0_bringDown_35 rfl hl (by decide) rfl (fun ls hl => ?_)
              refine lv_iload_n hx hb dX0_bringDown_36 rfl (lv_at hl 0 rfl) ?_
              refine lv_iload_n hx hb dX0_bringDown_37 rfl (lv_at hl 3 rfl) ?_
              refine iicmp_leF (a := 5) (b := 0) (tgt := 75) hx hb (by decide) (by decide) dX0_bringDown_38 (by decide) (by decide) ?_
              refine lv_aload_n hx hb dX0_bringDown_41 rfl (lv_at hl 2 rfl) ?_
              refine va_get (D := D) (ci := 0) (v := .ref A_counters) (C := RX0) (T := TX0) (N := 1) hx hb hts (fun _ h => List.mem_cons_of_mem _ (List.mem_append_right _ h)) hown hK hP 0 rfl rfl 0 (by decide) (hts (.fieldLink RX0 9 "CrownTable$Cloth" "counters" "[I") (mem_i 1 rfl)) (fun _ h9 => h9) rfl dX0_bringDown_42 ?_
              refine lv_iload_n hx hb dX0_bringDown_45 rfl (lv_at hl 0 rfl) ?_
              refine lv_dup2_11 hx hb dX0_bringDown_46 rfl rfl ?_
              refine va_iald hx hb hK hP 1 1 rfl rfl (vin (a := 5) (by decide) (by decide) (by decide)) dX0_bringDown_47 ?_
              refine lv_topi (fun x_220 ex_220 => ?_)
              have lf_221 : (f_counters 5).toInt = x_220.toInt := by rw [ex_220]; rfl
              refine lv_iconst (v := 1) hx hb dX0_bringDown_48 (by decide) ?_
              refine lv_isub hx hb dX0_bringDown_49 ?_
              refine lv_topi (fun x_222 ex_222 => ?_)
              have tx_222 : x_222.toInt = (x_220.toInt - 1) := by rw [ex_222]; exact sub_ti (a := x_220.toInt) (b := 1) rfl (by decide) (by omega) (by omega)
              refine va_iast hx hb hK hP hD hS 1 1 rfl rfl (vin (a := 5) (by decide) (by decide) (by decide)) dX0_bringDown_50 (fun H locs hP hD hS => ?_)
              obtain ⟨f_223, ef_223, hP, hD⟩ : ∃ f_223 : Nat → Int32, f_223 = upd f_counters (5 : Int32).toNatClampNeg x_222 ∧ va_P D vwCl [(A_self, .inr (0, [.ref A_counters])), (A_counters, .inl (c 1, 6, .inl f_223))] H ∧ va_D A [(A_self, .inr (0, [.ref A_counters])), (A_counters, .inl (c 1, 6, .inl f_223))] := ⟨_, rfl, hP, hD⟩
              have cl_224 : (f_223 0).toInt = (f_counters 0).toInt := by rw [ef_223]; rfl
              have cl_225 : (f_223 1).toInt = (f_counters 1).toInt := by rw [ef_223]; rfl
              have cl_226 : (f_223 2).toInt = (f_counters 2).toInt := by rw [ef_223]; rfl
              have cl_227 : (f_223 3).toInt = (f_counters 3).toInt := by rw [ef_223]; rfl
              have cl_228 : (f_223 4).toInt = (f_counters 4).toInt := by rw [ef_223]; rfl
              have cl_229 : (f_223 5).toInt = x_222.toInt := by rw [ef_223]; rfl
              refine lv_aload_n hx hb dX0_bringDown_51 rfl (lv_at hl 2 rfl) ?_
              refine va_get (D := D) (ci := 0) (v := .ref A_counters) (C := RX0) (T := TX0) (N := 1) hx hb hts (fun _ h => List.mem_cons_of_mem _ (List.mem_append_right _ h)) hown hK hP 0 rfl rfl 0 (by decide) (hts (.fieldLink RX0 9 "CrownTable$Cloth" "counters" "[I") (mem_i 1 rfl)) (fun _ h9 => h9) rfl dX0_bringDown_52 ?_
              refine lv_iload_n hx hb dX0_bringDown_55 rfl (lv_at hl 0 rfl) ?_
              refine lv_iconst (v := 1) hx hb dX0_bringDown_56 (by decide) ?_
              refine lv_isub hx hb dX0_bringDown_57 ?_
              refine lk_i (y := 4) (by decide) ?_
              refine lv_dup2_11 hx hb dX0_bringDown_58 rfl rfl ?_
              refine va_iald hx hb hK hP 1 1 rfl rfl (vin (a := 4) (by decide) (by decide) (by decide)) dX0_bringDown_59 ?_
              refine lv_topi (fun x_230 ex_230 => ?_)
              have lf_231 : (f_223 4).toInt = x_230.toInt := by rw [ex_230]; rfl
              refine va_gets hx hb hSt.2.2.1 hS hown (hts (.fieldLink RX0 23 "CrownTable$Cloth" "OF_THE_NEXT" "[I") (mem_i 2 rfl)) (fun _ h9 => h9) dX0_bringDown_60 ?_
              refine lv_iload_n hx hb dX0_bringDown_63 rfl (lv_at hl 0 rfl) ?_
              refine lv_iconst (v := 1) hx hb dX0_bringDown_64 (by decide) ?_
              refine lv_isub hx hb dX0_bringDown_65 ?_
              refine lk_i (y := 4) (by decide) ?_
              refine va_ti (v := .int 10) hx hb hSt.2.2.2.1 hS (vin (a := 4) (by decide) (by decide) (by decide)) rfl dX0_bringDown_66 ?_
              refine lv_iadd hx hb dX0_bringDown_67 ?_
              refine lv_topi (fun x_232 ex_232 => ?_)
              have tx_232 : x_232.toInt = (x_230.toInt + 10) := by rw [ex_232]; exact add_ti (a := x_230.toInt) (b := 10) rfl (by decide) (by omega) (by omega)
              refine va_iast hx hb hK hP hD hS 1 1 rfl rfl (vin (a := 4) (by decide) (by decide) (by decide)) dX0_bringDown_68 (fun H locs hP hD hS => ?_)
              obtain ⟨f_233, ef_233, hP, hD⟩ : ∃ f_233 : Nat → Int32, f_233 = upd f_223 (4 : Int32).toNatClampNeg x_232 ∧ va_P D vwCl [(A_self, .inr (0, [.ref A_counters])), (A_counters, .inl (c 1, 6, .inl f_233))] H ∧ va_D A [(A_self, .inr (0, [.ref A_counters])), (A_counters, .inl (c 1, 6, .inl f_233))] := ⟨_, rfl, hP, hD⟩
              have cl_234 : (f_233 0).toInt = (f_223 0).toInt := by rw [ef_233]; rfl
              have cl_235 : (f_233 1).toInt = (f_223 1).toInt := by rw [ef_233]; rfl
              have cl_236 : (f_233 2).toInt = (f_223 2).toInt := by rw [ef_233]; rfl
              have cl_237 : (f_233 3).toInt = (f_223 3).toInt := by rw [ef_233]; rfl
              have cl_238 : (f_233 4).toInt = x_232.toInt := by rw [ef_233]; rfl
              have cl_239 : (f_233 5).toInt = (f_223 5).toInt := by rw [ef_233]; rfl
              refine lv_iinc (v := 4) (lv' := [(3, .int 4), (2, .int 5), (0, .ref A_self), (1, .int 0)]) hx hb dX0_bringDown_69 hl (k := 0) rfl (by decide) (by decide) rfl (fun ls hl => ?_)
              refine lv_goto (tgt := 36) hx hb dX0_bringDown_72 (by decide) ?_
              refine lv_iload_n hx hb dX0_bringDown_36 rfl (lv_at hl 0 rfl) ?_
              refine lv_iload_n hx hb dX0_bringDown_37 rfl (lv_at hl 3 rfl) ?_
              refine iicmp_leF (a := 4) (b := 0) (tgt := 75) hx hb (by decide) (by decide) dX0_bringDown_38 (by decide) (by decide) ?_
              refine lv_aload_n hx hb dX0_bringDown_41 rfl (lv_at hl 2 rfl) ?_
              refine va_get (D := D) (ci := 0) (v := .ref A_counters) (C := RX0) (T := TX0) (N := 1) hx hb hts (fun _ h => List.mem_cons_of_mem _ (List.mem_append_right _ h)) hown hK hP 0 rfl rfl 0 (by decide) (hts (.fieldLink RX0 9 "CrownTable$Cloth" "counters" "[I") (mem_i 1 rfl)) (fun _ h9 => h9) rfl dX0_bringDown_42 ?_
              refine lv_iload_n hx hb dX0_bringDown_45 rfl (lv_at hl 0 rfl) ?_
              refine lv_dup2_11 hx hb dX0_bringDown_46 rfl rfl ?_
              refine va_iald hx hb hK hP 1 1 rfl rfl (vin (a := 4) (by decide) (by decide) (by decide)) dX0_bringDown_47 ?_
              refine lv_topi (fun x_240 ex_240 => ?_)
              have lf_241 : (f_233 4).toInt = x_240.toInt := by rw [ex_240]; rfl
              refine lv_iconst (v := 1) hx hb dX0_bringDown_48 (by decide) ?_
              refine lv_isub hx hb dX0_bringDown_49 ?_
              refine lv_topi (fun x_242 ex_242 => ?_)
              have tx_242 : x_242.toInt = (x_240.toInt - 1) := by rw [ex_242]; exact sub_ti (a := x_240.toInt) (b := 1) rfl (by decide) (by omega) (by omega)
              refine va_iast hx hb hK hP hD hS 1 1 rfl rfl (vin (a := 4) (by decide) (by decide) (by decide)) dX0_bringDown_50 (fun H locs hP hD hS => ?_)
              obtain ⟨f_243, ef_243, hP, hD⟩ : ∃ f_243 : Nat → Int32, f_243 = upd f_233 (4 : Int32).toNatClampNeg x_242 ∧ va_P D vwCl [(A_self, .inr (0, [.ref A_counters])), (A_counters, .inl (c 1, 6, .inl f_243))] H ∧ va_D A [(A_self, .inr (0, [.ref A_counters])), (A_counters, .inl (c 1, 6, .inl f_243))] := ⟨_, rfl, hP, hD⟩
              have cl_244 : (f_243 0).toInt = (f_233 0).toInt := by rw [ef_243]; rfl
              have cl_245 : (f_243 1).toInt = (f_233 1).toInt := by rw [ef_243]; rfl
              have cl_246 : (f_243 2).toInt = (f_233 2).toInt := by rw [ef_243]; rfl
              have cl_247 : (f_243 3).toInt = (f_233 3).toInt := by rw [ef_243]; rfl
              have cl_248 : (f_243 4).toInt = x_242.toInt := by rw [ef_243]; rfl
              have cl_249 : (f_243 5).toInt = (f_233 5).toInt := by rw [ef_243]; rfl
              refine lv_aload_n hx hb dX0_bringDown_51 rfl (lv_at hl 2 rfl) ?_
              refine va_get (D := D) (ci := 0) (v := .ref A_counters) (C := RX0) (T := TX0) (N := 1) hx hb hts (fun _ h => List.mem_cons_of_mem _ (List.mem_append_right _ h)) hown hK hP 0 rfl rfl 0 (by decide) (hts (.fieldLink RX0 9 "CrownTable$Cloth" "counters" "[I") (mem_i 1 rfl)) (fun _ h9 => h9) rfl dX0_bringDown_52 ?_
              refine lv_iload_n hx hb dX0_bringDown_55 rfl (lv_at hl 0 rfl) ?_
              refine lv_iconst (v := 1) hx hb dX0_bringDown_56 (by decide) ?_
              refine lv_isub hx hb dX0_bringDown_57 ?_
              refine lk_i (y := 3) (by decide) ?_
              refine lv_dup2_11 hx hb dX0_bringDown_58 rfl rfl ?_
              refine va_iald hx hb hK hP 1 1 rfl rfl (vin (a := 3) (by decide) (by decide) (by decide)) dX0_bringDown_59 ?_
              refine lv_topi (fun x_250 ex_250 => ?_)
              have lf_251 : (f_243 3).toInt = x_250.toInt := by rw [ex_250]; rfl
              refine va_gets hx hb hSt.2.2.1 hS hown (hts (.fieldLink RX0 23 "CrownTable$Cloth" "OF_THE_NEXT" "[I") (mem_i 2 rfl)) (fun _ h9 => h9) dX0_bringDown_60 ?_
              refine lv_iload_n hx hb dX0_bringDown_63 rfl (lv_at hl 0 rfl) ?_
              refine lv_iconst (v := 1) hx hb dX0_bringDown_64 (by decide) ?_
              refine lv_isub hx hb dX0_bringDown_65 ?_
              refine lk_i (y := 3) (by decide) ?_
              refine va_ti (v := .int 5) hx hb hSt.2.2.2.1 hS (vin (a := 3) (by decide) (by decide) (by decide)) rfl dX0_bringDown_66 ?_
              refine lv_iadd hx hb dX0_bringDown_67 ?_
              refine lv_topi (fun x_252 ex_252 => ?_)
              have tx_252 : x_252.toInt = (x_250.toInt + 5) := by rw [ex_252]; exact add_ti (a := x_250.toInt) (b := 5) rfl (by decide) (by omega) (by omega)
              refine va_iast hx hb hK hP hD hS 1 1 rfl rfl (vin (a := 3) (by decide) (by decide) (by decide)) dX0_bringDown_68 (fun H locs hP hD hS => ?_)
              obtain ⟨f_253, ef_253, hP, hD⟩ : ∃ f_253 : Nat → Int32, f_253 = upd f_243 (3 : Int32).toNatClampNeg x_252 ∧ va_P D vwCl [(A_self, .inr (0, [.ref A_counters])), (A_counters, .inl (c 1, 6, .inl f_253))] H ∧ va_D A [(A_self, .inr (0, [.ref A_counters])), (A_counters, .inl (c 1, 6, .inl f_253))] := ⟨_, rfl, hP, hD⟩
              have cl_254 : (f_253 0).toInt = (f_243 0).toInt := by rw [ef_253]; rfl
              have cl_255 : (f_253 1).toInt = (f_243 1).toInt := by rw [ef_253]; rfl
              have cl_256 : (f_253 2).toInt = (f_243 2).toInt := by rw [ef_253]; rfl
              have cl_257 : (f_253 3).toInt = x_252.toInt := by rw [ef_253]; rfl
              have cl_258 : (f_253 4).toInt = (f_243 4).toInt := by rw [ef_253]; rfl
              have cl_259 : (f_253 5).toInt = (f_243 5).toInt := by rw [ef_253]; rfl
              refine lv_iinc (v := 3) (lv' := [(3, .int 3), (2, .int 5), (0, .ref A_self), (1, .int 0)]) hx hb dX0_bringDown_69 hl (k := 0) rfl (by decide) (by decide) rfl (fun ls hl => ?_)
              refine lv_goto (tgt := 36) hx hb dX0_bringDown_72 (by decide) ?_
              refine lv_iload_n hx hb dX0_bringDown_36 rfl (lv_at hl 0 rfl) ?_
              refine lv_iload_n hx hb dX0_bringDown_37 rfl (lv_at hl 3 rfl) ?_
              refine iicmp_leF (a := 3) (b := 0) (tgt := 75) hx hb (by decide) (by decide) dX0_bringDown_38 (by decide) (by decide) ?_
              refine lv_aload_n hx hb dX0_bringDown_41 rfl (lv_at hl 2 rfl) ?_
              refine va_get (D := D) (ci := 0) (v := .ref A_counters) (C := RX0) (T := TX0) (N := 1) hx hb hts (fun _ h => List.mem_cons_of_mem _ (List.mem_append_right _ h)) hown hK hP 0 rfl rfl 0 (by decide) (hts (.fieldLink RX0 9 "CrownTable$Cloth" "counters" "[I") (mem_i 1 rfl)) (fun _ h9 => h9) rfl dX0_bringDown_42 ?_
              refine lv_iload_n hx hb dX0_bringDown_45 rfl (lv_at hl 0 rfl) ?_
              refine lv_dup2_11 hx hb dX0_bringDown_46 rfl rfl ?_
              refine va_iald hx hb hK hP 1 1 rfl rfl (vin (a := 3) (by decide) (by decide) (by decide)) dX0_bringDown_47 ?_
              refine lv_topi (fun x_260 ex_260 => ?_)
              have lf_261 : (f_253 3).toInt = x_260.toInt := by rw [ex_260]; rfl
              refine lv_iconst (v := 1) hx hb dX0_bringDown_48 (by decide) ?_
              refine lv_isub hx hb dX0_bringDown_49 ?_
              refine lv_topi (fun x_262 ex_262 => ?_)
              have tx_262 : x_262.toInt = (x_260.toInt - 1) := by rw [ex_262]; exact sub_ti (a := x_260.toInt) (b := 1) rfl (by decide) (by omega) (by omega)
              refine va_iast hx hb hK hP hD hS 1 1 rfl rfl (vin (a := 3) (by decide) (by decide) (by decide)) dX0_bringDown_50 (fun H locs hP hD hS => ?_)
              obtain ⟨f_263, ef_263, hP, hD⟩ : ∃ f_263 : Nat → Int32, f_263 = upd f_253 (3 : Int32).toNatClampNeg x_262 ∧ va_P D vwCl [(A_self, .inr (0, [.ref A_counters])), (A_counters, .inl (c 1, 6, .inl f_263))] H ∧ va_D A [(A_self, .inr (0, [.ref A_counters])), (A_counters, .inl (c 1, 6, .inl f_263))] := ⟨_, rfl, hP, hD⟩
              have cl_264 : (f_263 0).toInt = (f_253 0).toInt := by rw [ef_263]; rfl
              have cl_265 : (f_263 1).toInt = (f_253 1).toInt := by rw [ef_263]; rfl
              have cl_266 : (f_263 2).toInt = (f_253 2).toInt := by rw [ef_263]; rfl
              have cl_267 : (f_263 3).toInt = x_262.toInt := by rw [ef_263]; rfl
              have cl_268 : (f_263 4).toInt = (f_253 4).toInt := by rw [ef_263]; rfl
              have cl_269 : (f_263 5).toInt = (f_253 5).toInt := by rw [ef_263]; rfl
              refine lv_aload_n hx hb dX0_bringDown_51 rfl (lv_at hl 2 rfl) ?_
              refine va_get (D := D) (ci := 0) (v := .ref A_counters) (C := RX0) (T := TX0) (N := 1) hx hb hts (fun _ h => List.mem_cons_of_mem _ (List.mem_append_right _ h)) hown hK hP 0 rfl rfl 0 (by decide) (hts (.fieldLink RX0 9 "CrownTable$Cloth" "counters" "[I") (mem_i 1 rfl)) (fun _ h9 => h9) rfl dX0_bringDown_52 ?_
              refine lv_iload_n hx hb dX0_bringDown_55 rfl (lv_at hl 0 rfl) ?_
              refine lv_iconst (v := 1) hx hb dX0_bringDown_56 (by decide) ?_
              refine lv_isub hx hb dX0_bringDown_57 ?_
              refine lk_i (y := 2) (by decide) ?_
              refine lv_dup2_11 hx hb dX0_bringDown_58 rfl rfl ?_
              refine va_iald hx hb hK hP 1 1 rfl rfl (vin (a := 2) (by decide) (by decide) (by decide)) dX0_bringDown_59 ?_
              refine lv_topi (fun x_270 ex_270 => ?_)
              have lf_271 : (f_263 2).toInt = x_270.toInt := by rw [ex_270]; rfl
              refine va_gets hx hb hSt.2.2.1 hS hown (hts (.fieldLink RX0 23 "CrownTable$Cloth" "OF_THE_NEXT" "[I") (mem_i 2 rfl)) (fun _ h9 => h9) dX0_bringDown_60 ?_
              refine lv_iload_n hx hb dX0_bringDown_63 rfl (lv_at hl 0 rfl) ?_
              refine lv_iconst (v := 1) hx hb dX0_bringDown_64 (by decide) ?_
              refine lv_isub hx hb dX0_bringDown_65 ?_
              refine lk_i (y := 2) (by decide) ?_
              refine va_ti (v := .int 20) hx hb hSt.2.2.2.1 hS (vin (a := 2) (by decide) (by decide) (by decide)) rfl dX0_bringDown_66 ?_
              refine lv_iadd hx hb dX0_bringDown_67 ?_
              refine lv_topi (fun x_272 ex_272 => ?_)
              have tx_272 : x_272.toInt = (x_270.toInt + 20) := by rw [ex_272]; exact add_ti (a := x_270.toInt) (b := 20) rfl (by decide) (by omega) (by omega)
              refine va_iast hx hb hK hP hD hS 1 1 rfl rfl (vin (a := 2) (by decide) (by decide) (by decide)) dX0_bringDown_68 (fun H locs hP hD hS => ?_)
              obtain ⟨f_273, ef_273, hP, hD⟩ : ∃ f_273 : Nat → Int32, f_273 = upd f_263 (2 : Int32).toNatClampNeg x_272 ∧ va_P D vwCl [(A_self, .inr (0, [.ref A_counters])), (A_counters, .inl (c 1, 6, .inl f_273))] H ∧ va_D A [(A_self, .inr (0, [.ref A_counters])), (A_counters, .inl (c 1, 6, .inl f_273))] := ⟨_, rfl, hP, hD⟩
              have cl_274 : (f_273 0).toInt = (f_263 0).toInt := by rw [ef_273]; rfl
              have cl_275 : (f_273 1).toInt = (f_263 1).toInt := by rw [ef_273]; rfl
              have cl_276 : (f_273 2).toInt = x_272.toInt := by rw [ef_273]; rfl
              have cl_277 : (f_273 3).toInt = (f_263 3).toInt := by rw [ef_273]; rfl
              have cl_278 : (f_273 4).toInt = (f_263 4).toInt := by rw [ef_273]; rfl
              have cl_279 : (f_273 5).toInt = (f_263 5).toInt := by rw [ef_273]; rfl
              refine lv_iinc (v := 2) (lv' := [(3, .int 2), (2, .int 5), (0, .ref A_self), (1, .int 0)]) hx hb dX0_bringDown_69 hl (k := 0) rfl (by decide) (by decide) rfl (fun ls hl => ?_)
              refine lv_goto (tgt := 36) hx hb dX0_bringDown_72 (by decide) ?_
              refine lv_iload_n hx hb dX0_bringDown_36 rfl (lv_at hl 0 rfl) ?_
              refine lv_iload_n hx hb dX0_bringDown_37 rfl (lv_at hl 3 rfl) ?_
              refine iicmp_leF (a := 2) (b := 0) (tgt := 75) hx hb (by decide) (by decide) dX0_bringDown_38 (by decide) (by decide) ?_
              refine lv_aload_n hx hb dX0_bringDown_41 rfl (lv_at hl 2 rfl) ?_
              refine va_get (D := D) (ci := 0) (v := .ref A_counters) (C := RX0) (T := TX0) (N := 1) hx hb hts (fun _ h => List.mem_cons_of_mem _ (List.mem_append_right _ h)) hown hK hP 0 rfl rfl 0 (by decide) (hts (.fieldLink RX0 9 "CrownTable$Cloth" "counters" "[I") (mem_i 1 rfl)) (fun _ h9 => h9) rfl dX0_bringDown_42 ?_
              refine lv_iload_n hx hb dX0_bringDown_45 rfl (lv_at hl 0 rfl) ?_
              refine lv_dup2_11 hx hb dX0_bringDown_46 rfl rfl ?_
              refine va_iald hx hb hK hP 1 1 rfl rfl (vin (a := 2) (by decide) (by decide) (by decide)) dX0_bringDown_47 ?_
              refine lv_topi (fun x_280 ex_280 => ?_)
              have lf_281 : (f_273 2).toInt = x_280.toInt := by rw [ex_280]; rfl
              refine lv_iconst (v := 1) hx hb dX0_bringDown_48 (by decide) ?_
              refine lv_isub hx hb dX0_bringDown_49 ?_
              refine lv_topi (fun x_282 ex_282 => ?_)
              have tx_282 : x_282.toInt = (x_280.toInt - 1) := by rw [ex_282]; exact sub_ti (a := x_280.toInt) (b := 1) rfl (by decide) (by omega) (by omega)
              refine va_iast hx hb hK hP hD hS 1 1 rfl rfl (vin (a := 2) (by decide) (by decide) (by decide)) dX0_bringDown_50 (fun H locs hP hD hS => ?_)
              obtain ⟨f_283, ef_283, hP, hD⟩ : ∃ f_283 : Nat → Int32, f_283 = upd f_273 (2 : Int32).toNatClampNeg x_282 ∧ va_P D vwCl [(A_self, .inr (0, [.ref A_counters])), (A_counters, .inl (c 1, 6, .inl f_283))] H ∧ va_D A [(A_self, .inr (0, [.ref A_counters])), (A_counters, .inl (c 1, 6, .inl f_283))] := ⟨_, rfl, hP, hD⟩
              have cl_284 : (f_283 0).toInt = (f_273 0).toInt := by rw [ef_283]; rfl
              have cl_285 : (f_283 1).toInt = (f_273 1).toInt := by rw [ef_283]; rfl
              have cl_286 : (f_283 2).toInt = x_282.toInt := by rw [ef_283]; rfl
              have cl_287 : (f_283 3).toInt = (f_273 3).toInt := by rw [ef_283]; rfl
              have cl_288 : (f_283 4).toInt = (f_273 4).toInt := by rw [ef_283]; rfl
              have cl_289 : (f_283 5).toInt = (f_273 5).toInt := by rw [ef_283]; rfl
              refine lv_aload_n hx hb dX0_bringDown_51 rfl (lv_at hl 2 rfl) ?_
              refine va_get (D := D) (ci := 0) (v := .ref A_counters) (C := RX0) (T := TX0) (N := 1) hx hb hts (fun _ h => List.mem_cons_of_mem _ (List.mem_append_right _ h)) hown hK hP 0 rfl rfl 0 (by decide) (hts (.fieldLink RX0 9 "CrownTable$Cloth" "counters" "[I") (mem_i 1 rfl)) (fun _ h9 => h9) rfl dX0_bringDown_52 ?_
              refine lv_iload_n hx hb dX0_bringDown_55 rfl (lv_at hl 0 rfl) ?_
              refine lv_iconst (v := 1) hx hb dX0_bringDown_56 (by decide) ?_
              refine lv_isub hx hb dX0_bringDown_57 ?_
              refine lk_i (y := 1) (by decide) ?_
              refine lv_dup2_11 hx hb dX0_bringDown_58 rfl rfl ?_
              refine va_iald hx hb hK hP 1 1 rfl rfl (vin (a := 1) (by decide) (by decide) (by decide)) dX0_bringDown_59 ?_
              refine lv_topi (fun x_290 ex_290 => ?_)
              have lf_291 : (f_283 1).toInt = x_290.toInt := by rw [ex_290]; rfl
              refine va_gets hx hb hSt.2.2.1 hS hown (hts (.fieldLink RX0 23 "CrownTable$Cloth" "OF_THE_NEXT" "[I") (mem_i 2 rfl)) (fun _ h9 => h9) dX0_bringDown_60 ?_
              refine lv_iload_n hx hb dX0_bringDown_63 rfl (lv_at hl 0 rfl) ?_
              refine lv_iconst (v := 1) hx hb dX0_bringDown_64 (by decide) ?_
              refine lv_isub hx hb dX0_bringDown_65 ?_
              refine lk_i (y := 1) (by decide) ?_
              refine va_ti (v := .int 20) hx hb hSt.2.2.2.1 hS (vin (a := 1) (by decide) (by decide) (by decide)) rfl dX0_bringDown_66 ?_
              refine lv_iadd hx hb dX0_bringDown_67 ?_
              refine lv_topi (fun x_292 ex_292 => ?_)
              have tx_292 : x_292.toInt = (x_290.toInt + 20) := by rw [ex_292]; exact add_ti (a := x_290.toInt) (b := 20) rfl (by decide) (by omega) (by omega)
              refine va_iast hx hb hK hP hD hS 1 1 rfl rfl (vin (a := 1) (by decide) (by decide) (by decide)) dX0_bringDown_68 (fun H locs hP hD hS => ?_)
              obtain ⟨f_293, ef_293, hP, hD⟩ : ∃ f_293 : Nat → Int32, f_293 = upd f_283 (1 : Int32).toNatClampNeg x_292 ∧ va_P D vwCl [(A_self, .inr (0, [.ref A_counters])), (A_counters, .inl (c 1, 6, .inl f_293))] H ∧ va_D A [(A_self, .inr (0, [.ref A_counters])), (A_counters, .inl (c 1, 6, .inl f_293))] := ⟨_, rfl, hP, hD⟩
              have cl_294 : (f_293 0).toInt = (f_283 0).toInt := by rw [ef_293]; rfl
              have cl_295 : (f_293 1).toInt = x_292.toInt := by rw [ef_293]; rfl
              have cl_296 : (f_293 2).toInt = (f_283 2).toInt := by rw [ef_293]; rfl
              have cl_297 : (f_293 3).toInt = (f_283 3).toInt := by rw [ef_293]; rfl
              have cl_298 : (f_293 4).toInt = (f_283 4).toInt := by rw [ef_293]; rfl
              have cl_299 : (f_293 5).toInt = (f_283 5).toInt := by rw [ef_293]; rfl
              refine lv_iinc (v := 1) (lv' := [(3, .int 1), (2, .int 5), (0, .ref A_self), (1, .int 0)]) hx hb dX0_bringDown_69 hl (k := 0) rfl (by decide) (by decide) rfl (fun ls hl => ?_)
              refine lv_goto (tgt := 36) hx hb dX0_bringDown_72 (by decide) ?_
              refine lv_iload_n hx hb dX0_bringDown_36 rfl (lv_at hl 0 rfl) ?_
              refine lv_iload_n hx hb dX0_bringDown_37 rfl (lv_at hl 3 rfl) ?_
              refine iicmp_leF (a := 1) (b := 0) (tgt := 75) hx hb (by decide) (by decide) dX0_bringDown_38 (by decide) (by decide) ?_
              refine lv_aload_n hx hb dX0_bringDown_41 rfl (lv_at hl 2 rfl) ?_
              refine va_get (D := D) (ci := 0) (v := .ref A_counters) (C := RX0) (T := TX0) (N := 1) hx hb hts (fun _ h => List.mem_cons_of_mem _ (List.mem_append_right _ h)) hown hK hP 0 rfl rfl 0 (by decide) (hts (.fieldLink RX0 9 "CrownTable$Cloth" "counters" "[I") (mem_i 1 rfl)) (fun _ h9 => h9) rfl dX0_bringDown_42 ?_
              refine lv_iload_n hx hb dX0_bringDown_45 rfl (lv_at hl 0 rfl) ?_
              refine lv_dup2_11 hx hb dX0_bringDown_46 rfl rfl ?_
              refine va_iald hx hb hK hP 1 1 rfl rfl (vin (a := 1) (by decide) (by decide) (by decide)) dX0_bringDown_47 ?_
              refine lv_topi (fun x_300 ex_300 => ?_)
              have lf_301 : (f_293 1).toInt = x_300.toInt := by rw [ex_300]; rfl
              refine lv_iconst (v := 1) hx hb dX0_bringDown_48 (by decide) ?_
              refine lv_isub hx hb dX0_bringDown_49 ?_
              refine lv_topi (fun x_302 ex_302 => ?_)
              have tx_302 : x_302.toInt = (x_300.toInt - 1) := by rw [ex_302]; exact sub_ti (a := x_300.toInt) (b := 1) rfl (by decide) (by omega) (by omega)
              refine va_iast hx hb hK hP hD hS 1 1 rfl rfl (vin (a := 1) (by decide) (by decide) (by decide)) dX0_bringDown_50 (fun H locs hP hD hS => ?_)
              obtain ⟨f_303, ef_303, hP, hD⟩ : ∃ f_303 : Nat → Int32, f_303 = upd f_293 (1 : Int32).toNatClampNeg x_302 ∧ va_P D vwCl [(A_self, .inr (0, [.ref A_counters])), (A_counters, .inl (c 1, 6, .inl f_303))] H ∧ va_D A [(A_self, .inr (0, [.ref A_counters])), (A_counters, .inl (c 1, 6, .inl f_303))] := ⟨_, rfl, hP, hD⟩
              have cl_304 : (f_303 0).toInt = (f_293 0).toInt := by rw [ef_303]; rfl
              have cl_305 : (f_303 1).toInt = x_302.toInt := by rw [ef_303]; rfl
              have cl_306 : (f_303 2).toInt = (f_293 2).toInt := by rw [ef_303]; rfl
              have cl_307 : (f_303 3).toInt = (f_293 3).toInt := by rw [ef_303]; rfl
              have cl_308 : (f_303 4).toInt = (f_293 4).toInt := by rw [ef_303]; rfl
              have cl_309 : (f_303 5).toInt = (f_293 5).toInt := by rw [ef_303]; rfl
              refine lv_aload_n hx hb dX0_bringDown_51 rfl (lv_at hl 2 rfl) ?_
              refine va_get (D := D) (ci := 0) (v := .ref A_counters) (C := RX0) (T := TX0) (N := 1) hx hb hts (fun _ h => List.mem_cons_of_mem _ (List.mem_append_right _ h)) hown hK hP 0 rfl rfl 0 (by decide) (hts (.fieldLink RX0 9 "CrownTable$Cloth" "counters" "[I") (mem_i 1 rfl)) (fun _ h9 => h9) rfl dX0_bringDown_52 ?_
              refine lv_iload_n hx hb dX0_bringDown_55 rfl (lv_at hl 0 rfl) ?_
              refine lv_iconst (v := 1) hx hb dX0_bringDown_56 (by decide) ?_
              refine lv_isub hx hb dX0_bringDown_57 ?_
              refine lk_i (y := 0) (by decide) ?_
              refine lv_dup2_11 hx hb dX0_bringDown_58 rfl rfl ?_
              refine va_iald hx hb hK hP 1 1 rfl rfl (vin (a := 0) (by decide) (by decide) (by decide)) dX0_bringDown_59 ?_
              refine lv_topi (fun x_310 ex_310 => ?_)
              have lf_311 : (f_303 0).toInt = x_310.toInt := by rw [ex_310]; rfl
              refine va_gets hx hb hSt.2.2.1 hS hown (hts (.fieldLink RX0 23 "CrownTable$Cloth" "OF_THE_NEXT" "[I") (mem_i 2 rfl)) (fun _ h9 => h9) dX0_bringDown_60 ?_
              refine lv_iload_n hx hb dX0_bringDown_63 rfl (lv_at hl 0 rfl) ?_
              refine lv_iconst (v := 1) hx hb dX0_bringDown_64 (by decide) ?_
              refine lv_isub hx hb dX0_bringDown_65 ?_
              refine lk_i (y := 0) (by decide) ?_
              refine va_ti (v := .int 12) hx hb hSt.2.2.2.1 hS (vin (a := 0) (by decide) (by decide) (by decide)) rfl dX0_bringDown_66 ?_
              refine lv_iadd hx hb dX0_bringDown_67 ?_
              refine lv_topi (fun x_312 ex_312 => ?_)
              have tx_312 : x_312.toInt = (x_310.toInt + 12) := by rw [ex_312]; exact add_ti (a := x_310.toInt) (b := 12) rfl (by decide) (by omega) (by omega)
              refine va_iast hx hb hK hP hD hS 1 1 rfl rfl (vin (a := 0) (by decide) (by decide) (by decide)) dX0_bringDown_68 (fun H locs hP hD hS => ?_)
              obtain ⟨f_313, ef_313, hP, hD⟩ : ∃ f_313 : Nat → Int32, f_313 = upd f_303 (0 : Int32).toNatClampNeg x_312 ∧ va_P D vwCl [(A_self, .inr (0, [.ref A_counters])), (A_counters, .inl (c 1, 6, .inl f_313))] H ∧ va_D A [(A_self, .inr (0, [.ref A_counters])), (A_counters, .inl (c 1, 6, .inl f_313))] := ⟨_, rfl, hP, hD⟩
              have cl_314 : (f_313 0).toInt = x_312.toInt := by rw [ef_313]; rfl
              have cl_315 : (f_313 1).toInt = (f_303 1).toInt := by rw [ef_313]; rfl
              have cl_316 : (f_313 2).toInt = (f_303 2).toInt := by rw [ef_313]; rfl
              have cl_317 : (f_313 3).toInt = (f_303 3).toInt := by rw [ef_313]; rfl
              have cl_318 : (f_313 4).toInt = (f_303 4).toInt := by rw [ef_313]; rfl
              have cl_319 : (f_313 5).toInt = (f_303 5).toInt := by rw [ef_313]; rfl
              refine lv_iinc (v := 0) (lv' := [(3, .int 0), (2, .int 5), (0, .ref A_self), (1, .int 0)]) hx hb dX0_bringDown_69 hl (k := 0) rfl (by decide) (by decide) rfl (fun ls hl => ?_)
              refine lv_goto (tgt := 36) hx hb dX0_bringDown_72 (by decide) ?_
              refine lv_iload_n hx hb dX0_bringDown_36 rfl (lv_at hl 0 rfl) ?_
              refine lv_iload_n hx hb dX0_bringDown_37 rfl (lv_at hl 3 rfl) ?_
              refine iicmp_leT (a := 0) (b := 0) (tgt := 75) hx hb (by decide) (by decide) dX0_bringDown_38 (by decide) (by decide) ?_
              refine lv_iload_n hx hb dX0_bringDown_75 rfl (lv_at hl 1 rfl) ?_
              refine lv_iload_n hx hb dX0_bringDown_76 rfl (lv_at hl 3 rfl) ?_
              refine lv_isub hx hb dX0_bringDown_77 ?_
              refine lk_i (y := 5) (by decide) ?_
              have kzz_320 : (5 : Int32).toInt = 5 := by decide
              have hP9 := hP.sub (ws' := [(A_self, .inr (0, [.ref A_counters])), (A_counters, .inl (c 1, 6, .inl f_313))]) [0, 1] rfl
              have hD9 := hD.sub (ws' := [(A_self, .inr (0, [.ref A_counters])), (A_counters, .inl (c 1, 6, .inl f_313))]) [0, 1] (by decide) rfl
              refine W.widen (k := 0) (n := 0) (by omega) (by omega) ?_
              exact W.iret (v := 5) hx hb hr (fun t ht hW => ⟨⟨_, (f_313, ()), rfl, (show BdI i_a1 (f_counters 0).toInt (f_counters 1).toInt (f_counters 2).toInt (f_counters 3).toInt (f_counters 4).toInt (f_counters 5).toInt (f_313 0).toInt (f_313 1).toInt (f_313 2).toInt (f_313 3).toInt (f_313 4).toInt (f_313 5).toInt (5 : Int32).toInt from (BdI.i0_4 hsp (by omega) (by omega) (by omega) (by omega) (by omega) (by omega) (by omega) (by omega) (by omega) (by omega) (by omega) (by omega))), ⟨by rw [ht]; exact hP9, hD9⟩⟩, hS.F ht⟩) hS.2.2 dX0_bringDown_78
            · skip
              refine lv_iinc (v := 6) (lv' := [(2, .int 6), (0, .ref A_self), (1, .int 0)]) hx hb dX0_bringDown_20 hl (k := 0) rfl (by decide) (by decide) rfl (fun ls hl => ?_)
              refine lv_goto (tgt := 4) hx hb dX0_bringDown_23 (by decide) ?_
              refine lv_iload_n hx hb dX0_bringDown_4 rfl (lv_at hl 0 rfl) ?_
              refine lv_bipush (v := 6) hx hb dX0_bringDown_5 (by decide) ?_
              refine iicmp_geT (a := 6) (b := 6) (tgt := 26) hx hb (by decide) (by decide) dX0_bringDown_7 (by decide) (by decide) ?_
              refine lv_iload_n hx hb dX0_bringDown_26 rfl (lv_at hl 0 rfl) ?_
              refine lv_bipush (v := 6) hx hb dX0_bringDown_27 (by decide) ?_
              refine iicmp_ltF (a := 6) (b := 6) (tgt := 34) hx hb (by decide) (by decide) dX0_bringDown_29 (by decide) (by decide) ?_
              refine lv_iconst (v := 0) hx hb dX0_bringDown_32 (by decide) ?_
              have kzz_321 : (0 : Int32).toInt = 0 := by decide
              have hP9 := hP.sub (ws' := [(A_self, .inr (0, [.ref A_counters])), (A_counters, .inl (c 1, 6, .inl f_counters))]) [0, 1] rfl
              have hD9 := hD.sub (ws' := [(A_self, .inr (0, [.ref A_counters])), (A_counters, .inl (c 1, 6, .inl f_counters))]) [0, 1] (by decide) rfl
              refine W.widen (k := 0) (n := 0) (by omega) (by omega) ?_
              exact W.iret (v := 0) hx hb hr (fun t ht hW => ⟨⟨_, (f_counters, ()), rfl, (show BdI i_a1 (f_counters 0).toInt (f_counters 1).toInt (f_counters 2).toInt (f_counters 3).toInt (f_counters 4).toInt (f_counters 5).toInt (f_counters 0).toInt (f_counters 1).toInt (f_counters 2).toInt (f_counters 3).toInt (f_counters 4).toInt (f_counters 5).toInt (0 : Int32).toInt from (BdI.i0_5 hsp (by omega) (by omega) (by omega) (by omega) (by omega) (by omega) (by omega) (by omega) (by omega) (by omega) (by omega) (by omega))), ⟨by rw [ht]; exact hP9, hD9⟩⟩, hS.F ht⟩) hS.2.2 dX0_bringDown_33
  · skip
    obtain rfl : a1 = 1 := Int32.toInt_inj.mp (by rw [hi_a1, hsp]; rfl)
    have hl : lv_has ls 4 [(0, .ref A_self), (1, .int 1)] := hl
    refine lv_iload_n hx hb dX0_bringDown_0 rfl (lv_at hl 1 rfl) ?_
    refine lv_iconst (v := 1) hx hb dX0_bringDown_1 (by decide) ?_
    refine lv_iadd hx hb dX0_bringDown_2 ?_
    refine lk_i (y := 2) (by decide) ?_
    refine lv_istore_n (lv' := [(2, .int 2), (0, .ref A_self), (1, .int 1)]) hx hb dX0_bringDown_3 rfl hl (by decide) rfl (fun ls hl => ?_)
    refine lv_iload_n hx hb dX0_bringDown_4 rfl (lv_at hl 0 rfl) ?_
    refine lv_bipush (v := 6) hx hb dX0_bringDown_5 (by decide) ?_
    refine iicmp_geF (a := 2) (b := 6) (tgt := 26) hx hb (by decide) (by decide) dX0_bringDown_7 (by decide) (by decide) ?_
    refine lv_aload_n hx hb dX0_bringDown_10 rfl (lv_at hl 1 rfl) ?_
    refine va_get (D := D) (ci := 0) (v := .ref A_counters) (C := RX0) (T := TX0) (N := 1) hx hb hts (fun _ h => List.mem_cons_of_mem _ (List.mem_append_right _ h)) hown hK hP 0 rfl rfl 0 (by decide) (hts (.fieldLink RX0 9 "CrownTable$Cloth" "counters" "[I") (mem_i 1 rfl)) (fun _ h9 => h9) rfl dX0_bringDown_11 ?_
    refine lv_iload_n hx hb dX0_bringDown_14 rfl (lv_at hl 0 rfl) ?_
    refine va_iald hx hb hK hP 1 1 rfl rfl (vin (a := 2) (by decide) (by decide) (by decide)) dX0_bringDown_15 ?_
    refine lv_topi (fun x_322 ex_322 => ?_)
    have lf_323 : (f_counters 2).toInt = x_322.toInt := by rw [ex_322]; rfl
    refine lv_iconst (v := 1) hx hb dX0_bringDown_16 (by decide) ?_
    refine iicmp_ge (a := x_322.toInt) (b := 1) (tgt := 26) hx hb rfl (by decide) dX0_bringDown_17 (by decide) (fun k_324 => ?_) (fun k_324 => ?_)
    · skip
      refine lv_iload_n hx hb dX0_bringDown_26 rfl (lv_at hl 0 rfl) ?_
      refine lv_bipush (v := 6) hx hb dX0_bringDown_27 (by decide) ?_
      refine iicmp_ltT (a := 2) (b := 6) (tgt := 34) hx hb (by decide) (by decide) dX0_bringDown_29 (by decide) (by decide) ?_
      refine lv_iload_n hx hb dX0_bringDown_34 rfl (lv_at hl 0 rfl) ?_
      refine lv_istore_n (lv' := [(3, .int 2), (2, .int 2), (0, .ref A_self), (1, .int 1)]) hx hb dX0_bringDown_35 rfl hl (by decide) rfl (fun ls hl => ?_)
      refine lv_iload_n hx hb dX0_bringDown_36 rfl (lv_at hl 0 rfl) ?_
      refine lv_iload_n hx hb dX0_bringDown_37 rfl (lv_at hl 3 rfl) ?_
      refine iicmp_leF (a := 2) (b := 1) (tgt := 75) hx hb (by decide) (by decide) dX0_bringDown_38 (by decide) (by decide) ?_
      refine lv_aload_n hx hb dX0_bringDown_41 rfl (lv_at hl 2 rfl) ?_
      refine va_get (D := D) (ci := 0) (v := .ref A_counters) (C := RX0) (T := TX0) (N := 1) hx hb hts (fun _ h => List.mem_cons_of_mem _ (List.mem_append_right _ h)) hown hK hP 0 rfl rfl 0 (by decide) (hts (.fieldLink RX0 9 "CrownTable$Cloth" "counters" "[I") (mem_i 1 rfl)) (fun _ h9 => h9) rfl dX0_bringDown_42 ?_
      refine lv_iload_n hx hb dX0_bringDown_45 rfl (lv_at hl 0 rfl) ?_
      refine lv_dup2_11 hx hb dX0_bringDown_46 rfl rfl ?_
      refine va_iald hx hb hK hP 1 1 rfl rfl (vin (a := 2) (by decide) (by decide) (by decide)) dX0_bringDown_47 ?_
      refine lv_topi (fun x_325 ex_325 => ?_)
      have lf_326 : (f_counters 2).toInt = x_325.toInt := by rw [ex_325]; rfl
      refine lv_iconst (v := 1) hx hb dX0_bringDown_48 (by decide) ?_
      refine lv_isub hx hb dX0_bringDown_49 ?_
      refine lv_topi (fun x_327 ex_327 => ?_)
      have tx_327 : x_327.toInt = (x_325.toInt - 1) := by rw [ex_327]; exact sub_ti (a := x_325.toInt) (b := 1) rfl (by decide) (by omega) (by omega)
      refine va_iast hx hb hK hP hD hS 1 1 rfl rfl (vin (a := 2) (by decide) (by decide) (by decide)) dX0_bringDown_50 (fun H locs hP hD hS => ?_)
      obtain ⟨f_328, ef_328, hP, hD⟩ : ∃ f_328 : Nat → Int32, f_328 = upd f_counters (2 : Int32).toNatClampNeg x_327 ∧ va_P D vwCl [(A_self, .inr (0, [.ref A_counters])), (A_counters, .inl (c 1, 6, .inl f_328))] H ∧ va_D A [(A_self, .inr (0, [.ref A_counters])), (A_counters, .inl (c 1, 6, .inl f_328))] := ⟨_, rfl, hP, hD⟩
      have cl_329 : (f_328 0).toInt = (f_counters 0).toInt := by rw [ef_328]; rfl
      have cl_330 : (f_328 1).toInt = (f_counters 1).toInt := by rw [ef_328]; rfl
      have cl_331 : (f_328 2).toInt = x_327.toInt := by rw [ef_328]; rfl
      have cl_332 : (f_328 3).toInt = (f_counters 3).toInt := by rw [ef_328]; rfl
      have cl_333 : (f_328 4).toInt = (f_counters 4).toInt := by rw [ef_328]; rfl
      have cl_334 : (f_328 5).toInt = (f_counters 5).toInt := by rw [ef_328]; rfl
      refine lv_aload_n hx hb dX0_bringDown_51 rfl (lv_at hl 2 rfl) ?_
      refine va_get (D := D) (ci := 0) (v := .ref A_counters) (C := RX0) (T := TX0) (N := 1) hx hb hts (fun _ h => List.mem_cons_of_mem _ (List.mem_append_right _ h)) hown hK hP 0 rfl rfl 0 (by decide) (hts (.fieldLink RX0 9 "CrownTable$Cloth" "counters" "[I") (mem_i 1 rfl)) (fun _ h9 => h9) rfl dX0_bringDown_52 ?_
      refine lv_iload_n hx hb dX0_bringDown_55 rfl (lv_at hl 0 rfl) ?_
      refine lv_iconst (v := 1) hx hb dX0_bringDown_56 (by decide) ?_
      refine lv_isub hx hb dX0_bringDown_57 ?_
      refine lk_i (y := 1) (by decide) ?_
      refine lv_dup2_11 hx hb dX0_bringDown_58 rfl rfl ?_
      refine va_iald hx hb hK hP 1 1 rfl rfl (vin (a := 1) (by decide) (by decide) (by decide)) dX0_bringDown_59 ?_
      refine lv_topi (fun x_335 ex_335 => ?_)
      have lf_336 : (f_328 1).toInt = x_335.toInt := by rw [ex_335]; rfl
      refine va_gets hx hb hSt.2.2.1 hS hown (hts (.fieldLink RX0 23 "CrownTable$Cloth" "OF_THE_NEXT" "[I") (mem_i 2 rfl)) (fun _ h9 => h9) dX0_bringDown_60 ?_
      refine lv_iload_n hx hb dX0_bringDown_63 rfl (lv_at hl 0 rfl) ?_
      refine lv_iconst (v := 1) hx hb dX0_bringDown_64 (by decide) ?_
      refine lv_isub hx hb dX0_bringDown_65 ?_
      refine lk_i (y := 1) (by decide) ?_
      refine va_ti (v := .int 20) hx hb hSt.2.2.2.1 hS (vin (a := 1) (by decide) (by decide) (by decide)) rfl dX0_bringDown_66 ?_
      refine lv_iadd hx hb dX0_bringDown_67 ?_
      refine lv_topi (fun x_337 ex_337 => ?_)
      have tx_337 : x_337.toInt = (x_335.toInt + 20) := by rw [ex_337]; exact add_ti (a := x_335.toInt) (b := 20) rfl (by decide) (by omega) (by omega)
      refine va_iast hx hb hK hP hD hS 1 1 rfl rfl (vin (a := 1) (by decide) (by decide) (by decide)) dX0_bringDown_68 (fun H locs hP hD hS => ?_)
      obtain ⟨f_338, ef_338, hP, hD⟩ : ∃ f_338 : Nat → Int32, f_338 = upd f_328 (1 : Int32).toNatClampNeg x_337 ∧ va_P D vwCl [(A_self, .inr (0, [.ref A_counters])), (A_counters, .inl (c 1, 6, .inl f_338))] H ∧ va_D A [(A_self, .inr (0, [.ref A_counters])), (A_counters, .inl (c 1, 6, .inl f_338))] := ⟨_, rfl, hP, hD⟩
      have cl_339 : (f_338 0).toInt = (f_328 0).toInt := by rw [ef_338]; rfl
      have cl_340 : (f_338 1).toInt = x_337.toInt := by rw [ef_338]; rfl
      have cl_341 : (f_338 2).toInt = (f_328 2).toInt := by rw [ef_338]; rfl
      have cl_342 : (f_338 3).toInt = (f_328 3).toInt := by rw [ef_338]; rfl
      have cl_343 : (f_338 4).toInt = (f_328 4).toInt := by rw [ef_338]; rfl
      have cl_344 : (f_338 5).toInt = (f_328 5).toInt := by rw [ef_338]; rfl
      refine lv_iinc (v := 1) (lv' := [(3, .int 1), (2, .int 2), (0, .ref A_self), (1, .int 1)]) hx hb dX0_bringDown_69 hl (k := 0) rfl (by decide) (by decide) rfl (fun ls hl => ?_)
      refine lv_goto (tgt := 36) hx hb dX0_bringDown_72 (by decide) ?_
      refine lv_iload_n hx hb dX0_bringDown_36 rfl (lv_at hl 0 rfl) ?_
      refine lv_iload_n hx hb dX0_bringDown_37 rfl (lv_at hl 3 rfl) ?_
      refine iicmp_leT (a := 1) (b := 1) (tgt := 75) hx hb (by decide) (by decide) dX0_bringDown_38 (by decide) (by decide) ?_
      refine lv_iload_n hx hb dX0_bringDown_75 rfl (lv_at hl 1 rfl) ?_
      refine lv_iload_n hx hb dX0_bringDown_76 rfl (lv_at hl 3 rfl) ?_
      refine lv_isub hx hb dX0_bringDown_77 ?_
      refine lk_i (y := 1) (by decide) ?_
      have kzz_345 : (1 : Int32).toInt = 1 := by decide
      have hP9 := hP.sub (ws' := [(A_self, .inr (0, [.ref A_counters])), (A_counters, .inl (c 1, 6, .inl f_338))]) [0, 1] rfl
      have hD9 := hD.sub (ws' := [(A_self, .inr (0, [.ref A_counters])), (A_counters, .inl (c 1, 6, .inl f_338))]) [0, 1] (by decide) rfl
      refine W.widen (k := 0) (n := 0) (by omega) (by omega) ?_
      exact W.iret (v := 1) hx hb hr (fun t ht hW => ⟨⟨_, (f_338, ()), rfl, (show BdI i_a1 (f_counters 0).toInt (f_counters 1).toInt (f_counters 2).toInt (f_counters 3).toInt (f_counters 4).toInt (f_counters 5).toInt (f_338 0).toInt (f_338 1).toInt (f_338 2).toInt (f_338 3).toInt (f_338 4).toInt (f_338 5).toInt (1 : Int32).toInt from (BdI.i1_0 hsp (by omega) (by omega) (by omega) (by omega) (by omega) (by omega) (by omega) (by omega))), ⟨by rw [ht]; exact hP9, hD9⟩⟩, hS.F ht⟩) hS.2.2 dX0_bringDown_78
    · skip
      refine lv_iinc (v := 3) (lv' := [(2, .int 3), (0, .ref A_self), (1, .int 1)]) hx hb dX0_bringDown_20 hl (k := 0) rfl (by decide) (by decide) rfl (fun ls hl => ?_)
      refine lv_goto (tgt := 4) hx hb dX0_bringDown_23 (by decide) ?_
      refine lv_iload_n hx hb dX0_bringDown_4 rfl (lv_at hl 0 rfl) ?_
      refine lv_bipush (v := 6) hx hb dX0_bringDown_5 (by decide) ?_
      refine iicmp_geF (a := 3) (b := 6) (tgt := 26) hx hb (by decide) (by decide) dX0_bringDown_7 (by decide) (by decide) ?_
      refine lv_aload_n hx hb dX0_bringDown_10 rfl (lv_at hl 1 rfl) ?_
      refine va_get (D := D) (ci := 0) (v := .ref A_counters) (C := RX0) (T := TX0) (N := 1) hx hb hts (fun _ h => List.mem_cons_of_mem _ (List.mem_append_right _ h)) hown hK hP 0 rfl rfl 0 (by decide) (hts (.fieldLink RX0 9 "CrownTable$Cloth" "counters" "[I") (mem_i 1 rfl)) (fun _ h9 => h9) rfl dX0_bringDown_11 ?_
      refine lv_iload_n hx hb dX0_bringDown_14 rfl (lv_at hl 0 rfl) ?_
      refine va_iald hx hb hK hP 1 1 rfl rfl (vin (a := 3) (by decide) (by decide) (by decide)) dX0_bringDown_15 ?_
      refine lv_topi (fun x_346 ex_346 => ?_)
      have lf_347 : (f_counters 3).toInt = x_346.toInt := by rw [ex_346]; rfl
      refine lv_iconst (v := 1) hx hb dX0_bringDown_16 (by decide) ?_
      refine iicmp_ge (a := x_346.toInt) (b := 1) (tgt := 26) hx hb rfl (by decide) dX0_bringDown_17 (by decide) (fun k_348 => ?_) (fun k_348 => ?_)
      · skip
        refine lv_iload_n hx hb dX0_bringDown_26 rfl (lv_at hl 0 rfl) ?_
        refine lv_bipush (v := 6) hx hb dX0_bringDown_27 (by decide) ?_
        refine iicmp_ltT (a := 3) (b := 6) (tgt := 34) hx hb (by decide) (by decide) dX0_bringDown_29 (by decide) (by decide) ?_
        refine lv_iload_n hx hb dX0_bringDown_34 rfl (lv_at hl 0 rfl) ?_
        refine lv_istore_n (lv' := [(3, .int 3), (2, .int 3), (0, .ref A_self), (1, .int 1)]) hx hb dX0_bringDown_35 rfl hl (by decide) rfl (fun ls hl => ?_)
        refine lv_iload_n hx hb dX0_bringDown_36 rfl (lv_at hl 0 rfl) ?_
        refine lv_iload_n hx hb dX0_bringDown_37 rfl (lv_at hl 3 rfl) ?_
        refine iicmp_leF (a := 3) (b := 1) (tgt := 75) hx hb (by decide) (by decide) dX0_bringDown_38 (by decide) (by decide) ?_
        refine lv_aload_n hx hb dX0_bringDown_41 rfl (lv_at hl 2 rfl) ?_
        refine va_get (D := D) (ci := 0) (v := .ref A_counters) (C := RX0) (T := TX0) (N := 1) hx hb hts (fun _ h => List.mem_cons_of_mem _ (List.mem_append_right _ h)) hown hK hP 0 rfl rfl 0 (by decide) (hts (.fieldLink RX0 9 "CrownTable$Cloth" "counters" "[I") (mem_i 1 rfl)) (fun _ h9 => h9) rfl dX0_bringDown_42 ?_
        refine lv_iload_n hx hb dX0_bringDown_45 rfl (lv_at hl 0 rfl) ?_
        refine lv_dup2_11 hx hb dX0_bringDown_46 rfl rfl ?_
        refine va_iald hx hb hK hP 1 1 rfl rfl (vin (a := 3) (by decide) (by decide) (by decide)) dX0_bringDown_47 ?_
        refine lv_topi (fun x_349 ex_349 => ?_)
        have lf_350 : (f_counters 3).toInt = x_349.toInt := by rw [ex_349]; rfl
        refine lv_iconst (v := 1) hx hb dX0_bringDown_48 (by decide) ?_
        refine lv_isub hx hb dX0_bringDown_49 ?_
        refine lv_topi (fun x_351 ex_351 => ?_)
        have tx_351 : x_351.toInt = (x_349.toInt - 1) := by rw [ex_351]; exact sub_ti (a := x_349.toInt) (b := 1) rfl (by decide) (by omega) (by omega)
        refine va_iast hx hb hK hP hD hS 1 1 rfl rfl (vin (a := 3) (by decide) (by decide) (by decide)) dX0_bringDown_50 (fun H locs hP hD hS => ?_)
        obtain ⟨f_352, ef_352, hP, hD⟩ : ∃ f_352 : Nat → Int32, f_352 = upd f_counters (3 : Int32).toNatClampNeg x_351 ∧ va_P D vwCl [(A_self, .inr (0, [.ref A_counters])), (A_counters, .inl (c 1, 6, .inl f_352))] H ∧ va_D A [(A_self, .inr (0, [.ref A_counters])), (A_counters, .inl (c 1, 6, .inl f_352))] := ⟨_, rfl, hP, hD⟩
        have cl_353 : (f_352 0).toInt = (f_counters 0).toInt := by rw [ef_352]; rfl
        have cl_354 : (f_352 1).toInt = (f_counters 1).toInt := by rw [ef_352]; rfl
        have cl_355 : (f_352 2).toInt = (f_counters 2).toInt := by rw [ef_352]; rfl
        have cl_356 : (f_352 3).toInt = x_351.toInt := by rw [ef_352]; rfl
        have cl_357 : (f_352 4).toInt = (f_counters 4).toInt := by rw [ef_352]; rfl
        have cl_358 : (f_352 5).toInt = (f_counters 5).toInt := by rw [ef_352]; rfl
        refine lv_aload_n hx hb dX0_bringDown_51 rfl (lv_at hl 2 rfl) ?_
        refine va_get (D := D) (ci := 0) (v := .ref A_counters) (C := RX0) (T := TX0) (N := 1) hx hb hts (fun _ h => List.mem_cons_of_mem _ (List.mem_append_right _ h)) hown hK hP 0 rfl rfl 0 (by decide) (hts (.fieldLink RX0 9 "CrownTable$Cloth" "counters" "[I") (mem_i 1 rfl)) (fun _ h9 => h9) rfl dX0_bringDown_52 ?_
        refine lv_iload_n hx hb dX0_bringDown_55 rfl (lv_at hl 0 rfl) ?_
        refine lv_iconst (v := 1) hx hb dX0_bringDown_56 (by decide) ?_
        refine lv_isub hx hb dX0_bringDown_57 ?_
        refine lk_i (y := 2) (by decide) ?_
        refine lv_dup2_11 hx hb dX0_bringDown_58 rfl rfl ?_
        refine va_iald hx hb hK hP 1 1 rfl rfl (vin (a := 2) (by decide) (by decide) (by decide)) dX0_bringDown_59 ?_
        refine lv_topi (fun x_359 ex_359 => ?_)
        have lf_360 : (f_352 2).toInt = x_359.toInt := by rw [ex_359]; rfl
        refine va_gets hx hb hSt.2.2.1 hS hown (hts (.fieldLink RX0 23 "CrownTable$Cloth" "OF_THE_NEXT" "[I") (mem_i 2 rfl)) (fun _ h9 => h9) dX0_bringDown_60 ?_
        refine lv_iload_n hx hb dX0_bringDown_63 rfl (lv_at hl 0 rfl) ?_
        refine lv_iconst (v := 1) hx hb dX0_bringDown_64 (by decide) ?_
        refine lv_isub hx hb dX0_bringDown_65 ?_
        refine lk_i (y := 2) (by decide) ?_
        refine va_ti (v := .int 20) hx hb hSt.2.2.2.1 hS (vin (a := 2) (by decide) (by decide) (by decide)) rfl dX0_bringDown_66 ?_
        refine lv_iadd hx hb dX0_bringDown_67 ?_
        refine lv_topi (fun x_361 ex_361 => ?_)
        have tx_361 : x_361.toInt = (x_359.toInt + 20) := by rw [ex_361]; exact add_ti (a := x_359.toInt) (b := 20) rfl (by decide) (by omega) (by omega)
        refine va_iast hx hb hK hP hD hS 1 1 rfl rfl (vin (a := 2) (by decide) (by decide) (by decide)) dX0_bringDown_68 (fun H locs hP hD hS => ?_)
        obtain ⟨f_362, ef_362, hP, hD⟩ : ∃ f_362 : Nat → Int32, f_362 = upd f_352 (2 : Int32).toNatClampNeg x_361 ∧ va_P D vwCl [(A_self, .inr (0, [.ref A_counters])), (A_counters, .inl (c 1, 6, .inl f_362))] H ∧ va_D A [(A_self, .inr (0, [.ref A_counters])), (A_counters, .inl (c 1, 6, .inl f_362))] := ⟨_, rfl, hP, hD⟩
        have cl_363 : (f_362 0).toInt = (f_352 0).toInt := by rw [ef_362]; rfl
        have cl_364 : (f_362 1).toInt = (f_352 1).toInt := by rw [ef_362]; rfl
        have cl_365 : (f_362 2).toInt = x_361.toInt := by rw [ef_362]; rfl
        have cl_366 : (f_362 3).toInt = (f_352 3).toInt := by rw [ef_362]; rfl
        have cl_367 : (f_362 4).toInt = (f_352 4).toInt := by rw [ef_362]; rfl
        have cl_368 : (f_362 5).toInt = (f_352 5).toInt := by rw [ef_362]; rfl
        refine lv_iinc (v := 2) (lv' := [(3, .int 2), (2, .int 3), (0, .ref A_self), (1, .int 1)]) hx hb dX0_bringDown_69 hl (k := 0) rfl (by decide) (by decide) rfl (fun ls hl => ?_)
        refine lv_goto (tgt := 36) hx hb dX0_bringDown_72 (by decide) ?_
        refine lv_iload_n hx hb dX0_bringDown_36 rfl (lv_at hl 0 rfl) ?_
        refine lv_iload_n hx hb dX0_bringDown_37 rfl (lv_at hl 3 rfl) ?_
        refine iicmp_leF (a := 2) (b := 1) (tgt := 75) hx hb (by decide) (by decide) dX0_bringDown_38 (by decide) (by decide) ?_
        refine lv_aload_n hx hb dX0_bringDown_41 rfl (lv_at hl 2 rfl) ?_
        refine va_get (D := D) (ci := 0) (v := .ref A_counters) (C := RX0) (T := TX0) (N := 1) hx hb hts (fun _ h => List.mem_cons_of_mem _ (List.mem_append_right _ h)) hown hK hP 0 rfl rfl 0 (by decide) (hts (.fieldLink RX0 9 "CrownTable$Cloth" "counters" "[I") (mem_i 1 rfl)) (fun _ h9 => h9) rfl dX0_bringDown_42 ?_
        refine lv_iload_n hx hb dX0_bringDown_45 rfl (lv_at hl 0 rfl) ?_
        refine lv_dup2_11 hx hb dX0_bringDown_46 rfl rfl ?_
        refine va_iald hx hb hK hP 1 1 rfl rfl (vin (a := 2) (by decide) (by decide) (by decide)) dX0_bringDown_47 ?_
        refine lv_topi (fun x_369 ex_369 => ?_)
        have lf_370 : (f_362 2).toInt = x_369.toInt := by rw [ex_369]; rfl
        refine lv_iconst (v := 1) hx hb dX0_bringDown_48 (by decide) ?_
        refine lv_isub hx hb dX0_bringDown_49 ?_
        refine lv_topi (fun x_371 ex_371 => ?_)
        have tx_371 : x_371.toInt = (x_369.toInt - 1) := by rw [ex_371]; exact sub_ti (a := x_369.toInt) (b := 1) rfl (by decide) (by omega) (by omega)
        refine va_iast hx hb hK hP hD hS 1 1 rfl rfl (vin (a := 2) (by decide) (by decide) (by decide)) dX0_bringDown_50 (fun H locs hP hD hS => ?_)
        obtain ⟨f_372, ef_372, hP, hD⟩ : ∃ f_372 : Nat → Int32, f_372 = upd f_362 (2 : Int32).toNatClampNeg x_371 ∧ va_P D vwCl [(A_self, .inr (0, [.ref A_counters])), (A_counters, .inl (c 1, 6, .inl f_372))] H ∧ va_D A [(A_self, .inr (0, [.ref A_counters])), (A_counters, .inl (c 1, 6, .inl f_372))] := ⟨_, rfl, hP, hD⟩
        have cl_373 : (f_372 0).toInt = (f_362 0).toInt := by rw [ef_372]; rfl
        have cl_374 : (f_372 1).toInt = (f_362 1).toInt := by rw [ef_372]; rfl
        have cl_375 : (f_372 2).toInt = x_371.toInt := by rw [ef_372]; rfl
        have cl_376 : (f_372 3).toInt = (f_362 3).toInt := by rw [ef_372]; rfl
        have cl_377 : (f_372 4).toInt = (f_362 4).toInt := by rw [ef_372]; rfl
        have cl_378 : (f_372 5).toInt = (f_362 5).toInt := by rw [ef_372]; rfl
        refine lv_aload_n hx hb dX0_bringDown_51 rfl (lv_at hl 2 rfl) ?_
        refine va_get (D := D) (ci := 0) (v := .ref A_counters) (C := RX0) (T := TX0) (N := 1) hx hb hts (fun _ h => List.mem_cons_of_mem _ (List.mem_append_right _ h)) hown hK hP 0 rfl rfl 0 (by decide) (hts (.fieldLink RX0 9 "CrownTable$Cloth" "counters" "[I") (mem_i 1 rfl)) (fun _ h9 => h9) rfl dX0_bringDown_52 ?_
        refine lv_iload_n hx hb dX0_bringDown_55 rfl (lv_at hl 0 rfl) ?_
        refine lv_iconst (v := 1) hx hb dX0_bringDown_56 (by decide) ?_
        refine lv_isub hx hb dX0_bringDown_57 ?_
        refine lk_i (y := 1) (by decide) ?_
        refine lv_dup2_11 hx hb dX0_bringDown_58 rfl rfl ?_
        refine va_iald hx hb hK hP 1 1 rfl rfl (vin (a := 1) (by decide) (by decide) (by decide)) dX0_bringDown_59 ?_
        refine lv_topi (fun x_379 ex_379 => ?_)
        have lf_380 : (f_372 1).toInt = x_379.toInt := by rw [ex_379]; rfl
        refine va_gets hx hb hSt.2.2.1 hS hown (hts (.fieldLink RX0 23 "CrownTable$Cloth" "OF_THE_NEXT" "[I") (mem_i 2 rfl)) (fun _ h9 => h9) dX0_bringDown_60 ?_
        refine lv_iload_n hx hb dX0_bringDown_63 rfl (lv_at hl 0 rfl) ?_
        refine lv_iconst (v := 1) hx hb dX0_bringDown_64 (by decide) ?_
        refine lv_isub hx hb dX0_bringDown_65 ?_
        refine lk_i (y := 1) (by decide) ?_
        refine va_ti (v := .int 20) hx hb hSt.2.2.2.1 hS (vin (a := 1) (by decide) (by decide) (by decide)) rfl dX0_bringDown_66 ?_
        refine lv_iadd hx hb dX0_bringDown_67 ?_
        refine lv_topi (fun x_381 ex_381 => ?_)
        have tx_381 : x_381.toInt = (x_379.toInt + 20) := by rw [ex_381]; exact add_ti (a := x_379.toInt) (b := 20) rfl (by decide) (by omega) (by omega)
        refine va_iast hx hb hK hP hD hS 1 1 rfl rfl (vin (a := 1) (by decide) (by decide) (by decide)) dX0_bringDown_68 (fun H locs hP hD hS => ?_)
        obtain ⟨f_382, ef_382, hP, hD⟩ : ∃ f_382 : Nat → Int32, f_382 = upd f_372 (1 : Int32).toNatClampNeg x_381 ∧ va_P D vwCl [(A_self, .inr (0, [.ref A_counters])), (A_counters, .inl (c 1, 6, .inl f_382))] H ∧ va_D A [(A_self, .inr (0, [.ref A_counters])), (A_counters, .inl (c 1, 6, .inl f_382))] := ⟨_, rfl, hP, hD⟩
        have cl_383 : (f_382 0).toInt = (f_372 0).toInt := by rw [ef_382]; rfl
        have cl_384 : (f_382 1).toInt = x_381.toInt := by rw [ef_382]; rfl
        have cl_385 : (f_382 2).toInt = (f_372 2).toInt := by rw [ef_382]; rfl
        have cl_386 : (f_382 3).toInt = (f_372 3).toInt := by rw [ef_382]; rfl
        have cl_387 : (f_382 4).toInt = (f_372 4).toInt := by rw [ef_382]; rfl
        have cl_388 : (f_382 5).toInt = (f_372 5).toInt := by rw [ef_382]; rfl
        refine lv_iinc (v := 1) (lv' := [(3, .int 1), (2, .int 3), (0, .ref A_self), (1, .int 1)]) hx hb dX0_bringDown_69 hl (k := 0) rfl (by decide) (by decide) rfl (fun ls hl => ?_)
        refine lv_goto (tgt := 36) hx hb dX0_bringDown_72 (by decide) ?_
        refine lv_iload_n hx hb dX0_bringDown_36 rfl (lv_at hl 0 rfl) ?_
        refine lv_iload_n hx hb dX0_bringDown_37 rfl (lv_at hl 3 rfl) ?_
        refine iicmp_leT (a := 1) (b := 1) (tgt := 75) hx hb (by decide) (by decide) dX0_bringDown_38 (by decide) (by decide) ?_
        refine lv_iload_n hx hb dX0_bringDown_75 rfl (lv_at hl 1 rfl) ?_
        refine lv_iload_n hx hb dX0_bringDown_76 rfl (lv_at hl 3 rfl) ?_
        refine lv_isub hx hb dX0_bringDown_77 ?_
        refine lk_i (y := 2) (by decide) ?_
        have kzz_389 : (2 : Int32).toInt = 2 := by decide
        have hP9 := hP.sub (ws' := [(A_self, .inr (0, [.ref A_counters])), (A_counters, .inl (c 1, 6, .inl f_382))]) [0, 1] rfl
        have hD9 := hD.sub (ws' := [(A_self, .inr (0, [.ref A_counters])), (A_counters, .inl (c 1, 6, .inl f_382))]) [0, 1] (by decide) rfl
        refine W.widen (k := 0) (n := 0) (by omega) (by omega) ?_
        exact W.iret (v := 2) hx hb hr (fun t ht hW => ⟨⟨_, (f_382, ()), rfl, (show BdI i_a1 (f_counters 0).toInt (f_counters 1).toInt (f_counters 2).toInt (f_counters 3).toInt (f_counters 4).toInt (f_counters 5).toInt (f_382 0).toInt (f_382 1).toInt (f_382 2).toInt (f_382 3).toInt (f_382 4).toInt (f_382 5).toInt (2 : Int32).toInt from (BdI.i1_1 hsp (by omega) (by omega) (by omega) (by omega) (by omega) (by omega) (by omega) (by omega) (by omega))), ⟨by rw [ht]; exact hP9, hD9⟩⟩, hS.F ht⟩) hS.2.2 dX0_bringDown_78
      · skip
        refine lv_iinc (v := 4) (lv' := [(2, .int 4), (0, .ref A_self), (1, .int 1)]) hx hb dX0_bringDown_20 hl (k := 0) rfl (by decide) (by decide) rfl (fun ls hl => ?_)
        refine lv_goto (tgt := 4) hx hb dX0_bringDown_23 (by decide) ?_
        refine lv_iload_n hx hb dX0_bringDown_4 rfl (lv_at hl 0 rfl) ?_
        refine lv_bipush (v := 6) hx hb dX0_bringDown_5 (by decide) ?_
        refine iicmp_geF (a := 4) (b := 6) (tgt := 26) hx hb (by decide) (by decide) dX0_bringDown_7 (by decide) (by decide) ?_
        refine lv_aload_n hx hb dX0_bringDown_10 rfl (lv_at hl 1 rfl) ?_
        refine va_get (D := D) (ci := 0) (v := .ref A_counters) (C := RX0) (T := TX0) (N := 1) hx hb hts (fun _ h => List.mem_cons_of_mem _ (List.mem_append_right _ h)) hown hK hP 0 rfl rfl 0 (by decide) (hts (.fieldLink RX0 9 "CrownTable$Cloth" "counters" "[I") (mem_i 1 rfl)) (fun _ h9 => h9) rfl dX0_bringDown_11 ?_
        refine lv_iload_n hx hb dX0_bringDown_14 rfl (lv_at hl 0 rfl) ?_
        refine va_iald hx hb hK hP 1 1 rfl rfl (vin (a := 4) (by decide) (by decide) (by decide)) dX0_bringDown_15 ?_
        refine lv_topi (fun x_390 ex_390 => ?_)
        have lf_391 : (f_counters 4).toInt = x_390.toInt := by rw [ex_390]; rfl
        refine lv_iconst (v := 1) hx hb dX0_bringDown_16 (by decide) ?_
        refine iicmp_ge (a := x_390.toInt) (b := 1) (tgt := 26) hx hb rfl (by decide) dX0_bringDown_17 (by decide) (fun k_392 => ?_) (fun k_392 => ?_)
        · skip
          refine lv_iload_n hx hb dX0_bringDown_26 rfl (lv_at hl 0 rfl) ?_
          refine lv_bipush (v := 6) hx hb dX0_bringDown_27 (by decide) ?_
          refine iicmp_ltT (a := 4) (b := 6) (tgt := 34) hx hb (by decide) (by decide) dX0_bringDown_29 (by decide) (by decide) ?_
          refine lv_iload_n hx hb dX0_bringDown_34 rfl (lv_at hl 0 rfl) ?_
          refine lv_istore_n (lv' := [(3, .int 4), (2, .int 4), (0, .ref A_self), (1, .int 1)]) hx hb dX0_bringDown_35 rfl hl (by decide) rfl (fun ls hl => ?_)
          refine lv_iload_n hx hb dX0_bringDown_36 rfl (lv_at hl 0 rfl) ?_
          refine lv_iload_n hx hb dX0_bringDown_37 rfl (lv_at hl 3 rfl) ?_
          refine iicmp_leF (a := 4) (b := 1) (tgt := 75) hx hb (by decide) (by decide) dX0_bringDown_38 (by decide) (by decide) ?_
          refine lv_aload_n hx hb dX0_bringDown_41 rfl (lv_at hl 2 rfl) ?_
          refine va_get (D := D) (ci := 0) (v := .ref A_counters) (C := RX0) (T := TX0) (N := 1) hx hb hts (fun _ h => List.mem_cons_of_mem _ (List.mem_append_right _ h)) hown hK hP 0 rfl rfl 0 (by decide) (hts (.fieldLink RX0 9 "CrownTable$Cloth" "counters" "[I") (mem_i 1 rfl)) (fun _ h9 => h9) rfl dX0_bringDown_42 ?_
          refine lv_iload_n hx hb dX0_bringDown_45 rfl (lv_at hl 0 rfl) ?_
          refine lv_dup2_11 hx hb dX0_bringDown_46 rfl rfl ?_
          refine va_iald hx hb hK hP 1 1 rfl rfl (vin (a := 4) (by decide) (by decide) (by decide)) dX0_bringDown_47 ?_
          refine lv_topi (fun x_393 ex_393 => ?_)
          have lf_394 : (f_counters 4).toInt = x_393.toInt := by rw [ex_393]; rfl
          refine lv_iconst (v := 1) hx hb dX0_bringDown_48 (by decide) ?_
          refine lv_isub hx hb dX0_bringDown_49 ?_
          refine lv_topi (fun x_395 ex_395 => ?_)
          have tx_395 : x_395.toInt = (x_393.toInt - 1) := by rw [ex_395]; exact sub_ti (a := x_393.toInt) (b := 1) rfl (by decide) (by omega) (by omega)
          refine va_iast hx hb hK hP hD hS 1 1 rfl rfl (vin (a := 4) (by decide) (by decide) (by decide)) dX0_bringDown_50 (fun H locs hP hD hS => ?_)
          obtain ⟨f_396, ef_396, hP, hD⟩ : ∃ f_396 : Nat → Int32, f_396 = upd f_counters (4 : Int32).toNatClampNeg x_395 ∧ va_P D vwCl [(A_self, .inr (0, [.ref A_counters])), (A_counters, .inl (c 1, 6, .inl f_396))] H ∧ va_D A [(A_self, .inr (0, [.ref A_counters])), (A_counters, .inl (c 1, 6, .inl f_396))] := ⟨_, rfl, hP, hD⟩
          have cl_397 : (f_396 0).toInt = (f_counters 0).toInt := by rw [ef_396]; rfl
          have cl_398 : (f_396 1).toInt = (f_counters 1).toInt := by rw [ef_396]; rfl
          have cl_399 : (f_396 2).toInt = (f_counters 2).toInt := by rw [ef_396]; rfl
          have cl_400 : (f_396 3).toInt = (f_counters 3).toInt := by rw [ef_396]; rfl
          have cl_401 : (f_396 4).toInt = x_395.toInt := by rw [ef_396]; rfl
          have cl_402 : (f_396 5).toInt = (f_counters 5).toInt := by rw [ef_396]; rfl
          refine lv_aload_n hx hb dX0_bringDown_51 rfl (lv_at hl 2 rfl) ?_
          refine va_get (D := D) (ci := 0) (v := .ref A_counters) (C := RX0) (T := TX0) (N := 1) hx hb hts (fun _ h => List.mem_cons_of_mem _ (List.mem_append_right _ h)) hown hK hP 0 rfl rfl 0 (by decide) (hts (.fieldLink RX0 9 "CrownTable$Cloth" "counters" "[I") (mem_i 1 rfl)) (fun _ h9 => h9) rfl dX0_bringDown_52 ?_
          refine lv_iload_n hx hb dX0_bringDown_55 rfl (lv_at hl 0 rfl) ?_
          refine lv_iconst (v := 1) hx hb dX0_bringDown_56 (by decide) ?_
          refine lv_isub hx hb dX0_bringDown_57 ?_
          refine lk_i (y := 3) (by decide) ?_
          refine lv_dup2_11 hx hb dX0_bringDown_58 rfl rfl ?_
          refine va_iald hx hb hK hP 1 1 rfl rfl (vin (a := 3) (by decide) (by decide) (by decide)) dX0_bringDown_59 ?_
          refine lv_topi (fun x_403 ex_403 => ?_)
          have lf_404 : (f_396 3).toInt = x_403.toInt := by rw [ex_403]; rfl
          refine va_gets hx hb hSt.2.2.1 hS hown (hts (.fieldLink RX0 23 "CrownTable$Cloth" "OF_THE_NEXT" "[I") (mem_i 2 rfl)) (fun _ h9 => h9) dX0_bringDown_60 ?_
          refine lv_iload_n hx hb dX0_bringDown_63 rfl (lv_at hl 0 rfl) ?_
          refine lv_iconst (v := 1) hx hb dX0_bringDown_64 (by decide) ?_
          refine lv_isub hx hb dX0_bringDown_65 ?_
          refine lk_i (y := 3) (by decide) ?_
          refine va_ti (v := .int 5) hx hb hSt.2.2.2.1 hS (vin (a := 3) (by decide) (by decide) (by decide)) rfl dX0_bringDown_66 ?_
          refine lv_iadd hx hb dX0_bringDown_67 ?_
          refine lv_topi (fun x_405 ex_405 => ?_)
          have tx_405 : x_405.toInt = (x_403.toInt + 5) := by rw [ex_405]; exact add_ti (a := x_403.toInt) (b := 5) rfl (by decide) (by omega) (by omega)
          refine va_iast hx hb hK hP hD hS 1 1 rfl rfl (vin (a := 3) (by decide) (by decide) (by decide)) dX0_bringDown_68 (fun H locs hP hD hS => ?_)
          obtain ⟨f_406, ef_406, hP, hD⟩ : ∃ f_406 : Nat → Int32, f_406 = upd f_396 (3 : Int32).toNatClampNeg x_405 ∧ va_P D vwCl [(A_self, .inr (0, [.ref A_counters])), (A_counters, .inl (c 1, 6, .inl f_406))] H ∧ va_D A [(A_self, .inr (0, [.ref A_counters])), (A_counters, .inl (c 1, 6, .inl f_406))] := ⟨_, rfl, hP, hD⟩
          have cl_407 : (f_406 0).toInt = (f_396 0).toInt := by rw [ef_406]; rfl
          have cl_408 : (f_406 1).toInt = (f_396 1).toInt := by rw [ef_406]; rfl
          have cl_409 : (f_406 2).toInt = (f_396 2).toInt := by rw [ef_406]; rfl
          have cl_410 : (f_406 3).toInt = x_405.toInt := by rw [ef_406]; rfl
          have cl_411 : (f_406 4).toInt = (f_396 4).toInt := by rw [ef_406]; rfl
          have cl_412 : (f_406 5).toInt = (f_396 5).toInt := by rw [ef_406]; rfl
          refine lv_iinc (v := 3) (lv' := [(3, .int 3), (2, .int 4), (0, .ref A_self), (1, .int 1)]) hx hb dX0_bringDown_69 hl (k := 0) rfl (by decide) (by decide) rfl (fun ls hl => ?_)
          refine lv_goto (tgt := 36) hx hb dX0_bringDown_72 (by decide) ?_
          refine lv_iload_n hx hb dX0_bringDown_36 rfl (lv_at hl 0 rfl) ?_
          refine lv_iload_n hx hb dX0_bringDown_37 rfl (lv_at hl 3 rfl) ?_
          refine iicmp_leF (a := 3) (b := 1) (tgt := 75) hx hb (by decide) (by decide) dX0_bringDown_38 (by decide) (by decide) ?_
          refine lv_aload_n hx hb dX0_bringDown_41 rfl (lv_at hl 2 rfl) ?_
          refine va_get (D := D) (ci := 0) (v := .ref A_counters) (C := RX0) (T := TX0) (N := 1) hx hb hts (fun _ h => List.mem_cons_of_mem _ (List.mem_append_right _ h)) hown hK hP 0 rfl rfl 0 (by decide) (hts (.fieldLink RX0 9 "CrownTable$Cloth" "counters" "[I") (mem_i 1 rfl)) (fun _ h9 => h9) rfl dX0_bringDown_42 ?_
          refine lv_iload_n hx hb dX0_bringDown_45 rfl (lv_at hl 0 rfl) ?_
          refine lv_dup2_11 hx hb dX0_bringDown_46 rfl rfl ?_
          refine va_iald hx hb hK hP 1 1 rfl rfl (vin (a := 3) (by decide) (by decide) (by decide)) dX0_bringDown_47 ?_
          refine lv_topi (fun x_413 ex_413 => ?_)
          have lf_414 : (f_406 3).toInt = x_413.toInt := by rw [ex_413]; rfl
          refine lv_iconst (v := 1) hx hb dX0_bringDown_48 (by decide) ?_
          refine lv_isub hx hb dX0_bringDown_49 ?_
          refine lv_topi (fun x_415 ex_415 => ?_)
          have tx_415 : x_415.toInt = (x_413.toInt - 1) := by rw [ex_415]; exact sub_ti (a := x_413.toInt) (b := 1) rfl (by decide) (by omega) (by omega)
          refine va_iast hx hb hK hP hD hS 1 1 rfl rfl (vin (a := 3) (by decide) (by decide) (by decide)) dX0_bringDown_50 (fun H locs hP hD hS => ?_)
          obtain ⟨f_416, ef_416, hP, hD⟩ : ∃ f_416 : Nat → Int32, f_416 = upd f_406 (3 : Int32).toNatClampNeg x_415 ∧ va_P D vwCl [(A_self, .inr (0, [.ref A_counters])), (A_counters, .inl (c 1, 6, .inl f_416))] H ∧ va_D A [(A_self, .inr (0, [.ref A_counters])), (A_counters, .inl (c 1, 6, .inl f_416))] := ⟨_, rfl, hP, hD⟩
          have cl_417 : (f_416 0).toInt = (f_406 0).toInt := by rw [ef_416]; rfl
          have cl_418 : (f_416 1).toInt = (f_406 1).toInt := by rw [ef_416]; rfl
          have cl_419 : (f_416 2).toInt = (f_406 2).toInt := by rw [ef_416]; rfl
          have cl_420 : (f_416 3).toInt = x_415.toInt := by rw [ef_416]; rfl
          have cl_421 : (f_416 4).toInt = (f_406 4).toInt := by rw [ef_416]; rfl
          have cl_422 : (f_416 5).toInt = (f_406 5).toInt := by rw [ef_416]; rfl
          refine lv_aload_n hx hb dX0_bringDown_51 rfl (lv_at hl 2 rfl) ?_
          refine va_get (D := D) (ci := 0) (v := .ref A_counters) (C := RX0) (T := TX0) (N := 1) hx hb hts (fun _ h => List.mem_cons_of_mem _ (List.mem_append_right _ h)) hown hK hP 0 rfl rfl 0 (by decide) (hts (.fieldLink RX0 9 "CrownTable$Cloth" "counters" "[I") (mem_i 1 rfl)) (fun _ h9 => h9) rfl dX0_bringDown_52 ?_
          refine lv_iload_n hx hb dX0_bringDown_55 rfl (lv_at hl 0 rfl) ?_
          refine lv_iconst (v := 1) hx hb dX0_bringDown_56 (by decide) ?_
          refine lv_isub hx hb dX0_bringDown_57 ?_
          refine lk_i (y := 2) (by decide) ?_
          refine lv_dup2_11 hx hb dX0_bringDown_58 rfl rfl ?_
          refine va_iald hx hb hK hP 1 1 rfl rfl (vin (a := 2) (by decide) (by decide) (by decide)) dX0_bringDown_59 ?_
          refine lv_topi (fun x_423 ex_423 => ?_)
          have lf_424 : (f_416 2).toInt = x_423.toInt := by rw [ex_423]; rfl
          refine va_gets hx hb hSt.2.2.1 hS hown (hts (.fieldLink RX0 23 "CrownTable$Cloth" "OF_THE_NEXT" "[I") (mem_i 2 rfl)) (fun _ h9 => h9) dX0_bringDown_60 ?_
          refine lv_iload_n hx hb dX0_bringDown_63 rfl (lv_at hl 0 rfl) ?_
          refine lv_iconst (v := 1) hx hb dX0_bringDown_64 (by decide) ?_
          refine lv_isub hx hb dX0_bringDown_65 ?_
          refine lk_i (y := 2) (by decide) ?_
          refine va_ti (v := .int 20) hx hb hSt.2.2.2.1 hS (vin (a := 2) (by decide) (by decide) (by decide)) rfl dX0_bringDown_66 ?_
          refine lv_iadd hx hb dX0_bringDown_67 ?_
          refine lv_topi (fun x_425 ex_425 => ?_)
          have tx_425 : x_425.toInt = (x_423.toInt + 20) := by rw [ex_425]; exact add_ti (a := x_423.toInt) (b := 20) rfl (by decide) (by omega) (by omega)
          refine va_iast hx hb hK hP hD hS 1 1 rfl rfl (vin (a := 2) (by decide) (by decide) (by decide)) dX0_bringDown_68 (fun H locs hP hD hS => ?_)
          obtain ⟨f_426, ef_426, hP, hD⟩ : ∃ f_426 : Nat → Int32, f_426 = upd f_416 (2 : Int32).toNatClampNeg x_425 ∧ va_P D vwCl [(A_self, .inr (0, [.ref A_counters])), (A_counters, .inl (c 1, 6, .inl f_426))] H ∧ va_D A [(A_self, .inr (0, [.ref A_counters])), (A_counters, .inl (c 1, 6, .inl f_426))] := ⟨_, rfl, hP, hD⟩
          have cl_427 : (f_426 0).toInt = (f_416 0).toInt := by rw [ef_426]; rfl
          have cl_428 : (f_426 1).toInt = (f_416 1).toInt := by rw [ef_426]; rfl
          have cl_429 : (f_426 2).toInt = x_425.toInt := by rw [ef_426]; rfl
          have cl_430 : (f_426 3).toInt = (f_416 3).toInt := by rw [ef_426]; rfl
          have cl_431 : (f_426 4).toInt = (f_416 4).toInt := by rw [ef_426]; rfl
          have cl_432 : (f_426 5).toInt = (f_416 5).toInt := by rw [ef_426]; rfl
          refine lv_iinc (v := 2) (lv' := [(3, .int 2), (2, .int 4), (0, .ref A_self), (1, .int 1)]) hx hb dX0_bringDown_69 hl (k := 0) rfl (by decide) (by decide) rfl (fun ls hl => ?_)
          refine lv_goto (tgt := 36) hx hb dX0_bringDown_72 (by decide) ?_
          refine lv_iload_n hx hb dX0_bringDown_36 rfl (lv_at hl 0 rfl) ?_
          refine lv_iload_n hx hb dX0_bringDown_37 rfl (lv_at hl 3 rfl) ?_
          refine iicmp_leF (a := 2) (b := 1) (tgt := 75) hx hb (by decide) (by decide) dX0_bringDown_38 (by decide) (by decide) ?_
          refine lv_aload_n hx hb dX0_bringDown_41 rfl (lv_at hl 2 rfl) ?_
          refine va_get (D := D) (ci := 0) (v := .ref A_counters) (C := RX0) (T := TX0) (N := 1) hx hb hts (fun _ h => List.mem_cons_of_mem _ (List.mem_append_right _ h)) hown hK hP 0 rfl rfl 0 (by decide) (hts (.fieldLink RX0 9 "CrownTable$Cloth" "counters" "[I") (mem_i 1 rfl)) (fun _ h9 => h9) rfl dX0_bringDown_42 ?_
          refine lv_iload_n hx hb dX0_bringDown_45 rfl (lv_at hl 0 rfl) ?_
          refine lv_dup2_11 hx hb dX0_bringDown_46 rfl rfl ?_
          refine va_iald hx hb hK hP 1 1 rfl rfl (vin (a := 2) (by decide) (by decide) (by decide)) dX0_bringDown_47 ?_
          refine lv_topi (fun x_433 ex_433 => ?_)
          have lf_434 : (f_426 2).toInt = x_433.toInt := by rw [ex_433]; rfl
          refine lv_iconst (v := 1) hx hb dX0_bringDown_48 (by decide) ?_
          refine lv_isub hx hb dX0_bringDown_49 ?_
          refine lv_topi (fun x_435 ex_435 => ?_)
          have tx_435 : x_435.toInt = (x_433.toInt - 1) := by rw [ex_435]; exact sub_ti (a := x_433.toInt) (b := 1) rfl (by decide) (by omega) (by omega)
          refine va_iast hx hb hK hP hD hS 1 1 rfl rfl (vin (a := 2) (by decide) (by decide) (by decide)) dX0_bringDown_50 (fun H locs hP hD hS => ?_)
          obtain ⟨f_436, ef_436, hP, hD⟩ : ∃ f_436 : Nat → Int32, f_436 = upd f_426 (2 : Int32).toNatClampNeg x_435 ∧ va_P D vwCl [(A_self, .inr (0, [.ref A_counters])), (A_counters, .inl (c 1, 6, .inl f_436))] H ∧ va_D A [(A_self, .inr (0, [.ref A_counters])), (A_counters, .inl (c 1, 6, .inl f_436))] := ⟨_, rfl, hP, hD⟩
          have cl_437 : (f_436 0).toInt = (f_426 0).toInt := by rw [ef_436]; rfl
          have cl_438 : (f_436 1).toInt = (f_426 1).toInt := by rw [ef_436]; rfl
          have cl_439 : (f_436 2).toInt = x_435.toInt := by rw [ef_436]; rfl
          have cl_440 : (f_436 3).toInt = (f_426 3).toInt := by rw [ef_436]; rfl
          have cl_441 : (f_436 4).toInt = (f_426 4).toInt := by rw [ef_436]; rfl
          have cl_442 : (f_436 5).toInt = (f_426 5).toInt := by rw [ef_436]; rfl
          refine lv_aload_n hx hb dX0_bringDown_51 rfl (lv_at hl 2 rfl) ?_
          refine va_get (D := D) (ci := 0) (v := .ref A_counters) (C := RX0) (T := TX0) (N := 1) hx hb hts (fun _ h => List.mem_cons_of_mem _ (List.mem_append_right _ h)) hown hK hP 0 rfl rfl 0 (by decide) (hts (.fieldLink RX0 9 "CrownTable$Cloth" "counters" "[I") (mem_i 1 rfl)) (fun _ h9 => h9) rfl dX0_bringDown_52 ?_
          refine lv_iload_n hx hb dX0_bringDown_55 rfl (lv_at hl 0 rfl) ?_
          refine lv_iconst (v := 1) hx hb dX0_bringDown_56 (by decide) ?_
          refine lv_isub hx hb dX0_bringDown_57 ?_
          refine lk_i (y := 1) (by decide) ?_
          refine lv_dup2_11 hx hb dX0_bringDown_58 rfl rfl ?_
          refine va_iald hx hb hK hP 1 1 rfl rfl (vin (a := 1) (by decide) (by decide) (by decide)) dX0_bringDown_59 ?_
          refine lv_topi (fun x_443 ex_443 => ?_)
          have lf_444 : (f_436 1).toInt = x_443.toInt := by rw [ex_443]; rfl
          refine va_gets hx hb hSt.2.2.1 hS hown (hts (.fieldLink RX0 23 "CrownTable$Cloth" "OF_THE_NEXT" "[I") (mem_i 2 rfl)) (fun _ h9 => h9) dX0_bringDown_60 ?_
          refine lv_iload_n hx hb dX0_bringDown_63 rfl (lv_at hl 0 rfl) ?_
          refine lv_iconst (v := 1) hx hb dX0_bringDown_64 (by decide) ?_
          refine lv_isub hx hb dX0_bringDown_65 ?_
          refine lk_i (y := 1) (by decide) ?_
          refine va_ti (v := .int 20) hx hb hSt.2.2.2.1 hS (vin (a := 1) (by decide) (by decide) (by decide)) rfl dX0_bringDown_66 ?_
          refine lv_iadd hx hb dX0_bringDown_67 ?_
          refine lv_topi (fun x_445 ex_445 => ?_)
          have tx_445 : x_445.toInt = (x_443.toInt + 20) := by rw [ex_445]; exact add_ti (a := x_443.toInt) (b := 20) rfl (by decide) (by omega) (by omega)
          refine va_iast hx hb hK hP hD hS 1 1 rfl rfl (vin (a := 1) (by decide) (by decide) (by decide)) dX0_bringDown_68 (fun H locs hP hD hS => ?_)
          obtain ⟨f_446, ef_446, hP, hD⟩ : ∃ f_446 : Nat → Int32, f_446 = upd f_436 (1 : Int32).toNatClampNeg x_445 ∧ va_P D vwCl [(A_self, .inr (0, [.ref A_counters])), (A_counters, .inl (c 1, 6, .inl f_446))] H ∧ va_D A [(A_self, .inr (0, [.ref A_counters])), (A_counters, .inl (c 1, 6, .inl f_446))] := ⟨_, rfl, hP, hD⟩
          have cl_447 : (f_446 0).toInt = (f_436 0).toInt := by rw [ef_446]; rfl
          have cl_448 : (f_446 1).toInt = x_445.toInt := by rw [ef_446]; rfl
          have cl_449 : (f_446 2).toInt = (f_436 2).toInt := by rw [ef_446]; rfl
          have cl_450 : (f_446 3).toInt = (f_436 3).toInt := by rw [ef_446]; rfl
          have cl_451 : (f_446 4).toInt = (f_436 4).toInt := by rw [ef_446]; rfl
          have cl_452 : (f_446 5).toInt = (f_436 5).toInt := by rw [ef_446]; rfl
          refine lv_iinc (v := 1) (lv' := [(3, .int 1), (2, .int 4), (0, .ref A_self), (1, .int 1)]) hx hb dX0_bringDown_69 hl (k := 0) rfl (by decide) (by decide) rfl (fun ls hl => ?_)
          refine lv_goto (tgt := 36) hx hb dX0_bringDown_72 (by decide) ?_
          refine lv_iload_n hx hb dX0_bringDown_36 rfl (lv_at hl 0 rfl) ?_
          refine lv_iload_n hx hb dX0_bringDown_37 rfl (lv_at hl 3 rfl) ?_
          refine iicmp_leT (a := 1) (b := 1) (tgt := 75) hx hb (by decide) (by decide) dX0_bringDown_38 (by decide) (by decide) ?_
          refine lv_iload_n hx hb dX0_bringDown_75 rfl (lv_at hl 1 rfl) ?_
          refine lv_iload_n hx hb dX0_bringDown_76 rfl (lv_at hl 3 rfl) ?_
          refine lv_isub hx hb dX0_bringDown_77 ?_
          refine lk_i (y := 3) (by decide) ?_
          have kzz_453 : (3 : Int32).toInt = 3 := by decide
          have hP9 := hP.sub (ws' := [(A_self, .inr (0, [.ref A_counters])), (A_counters, .inl (c 1, 6, .inl f_446))]) [0, 1] rfl
          have hD9 := hD.sub (ws' := [(A_self, .inr (0, [.ref A_counters])), (A_counters, .inl (c 1, 6, .inl f_446))]) [0, 1] (by decide) rfl
          refine W.widen (k := 0) (n := 0) (by omega) (by omega) ?_
          exact W.iret (v := 3) hx hb hr (fun t ht hW => ⟨⟨_, (f_446, ()), rfl, (show BdI i_a1 (f_counters 0).toInt (f_counters 1).toInt (f_counters 2).toInt (f_counters 3).toInt (f_counters 4).toInt (f_counters 5).toInt (f_446 0).toInt (f_446 1).toInt (f_446 2).toInt (f_446 3).toInt (f_446 4).toInt (f_446 5).toInt (3 : Int32).toInt from (BdI.i1_2 hsp (by omega) (by omega) (by omega) (by omega) (by omega) (by omega) (by omega) (by omega) (by omega) (by omega))), ⟨by rw [ht]; exact hP9, hD9⟩⟩, hS.F ht⟩) hS.2.2 dX0_bringDown_78
        · skip
          refine lv_iinc (v := 5) (lv' := [(2, .int 5), (0, .ref A_self), (1, .int 1)]) hx hb dX0_bringDown_20 hl (k := 0) rfl (by decide) (by decide) rfl (fun ls hl => ?_)
          refine lv_goto (tgt := 4) hx hb dX0_bringDown_23 (by decide) ?_
          refine lv_iload_n hx hb dX0_bringDown_4 rfl (lv_at hl 0 rfl) ?_
          refine lv_bipush (v := 6) hx hb dX0_bringDown_5 (by decide) ?_
          refine iicmp_geF (a := 5) (b := 6) (tgt := 26) hx hb (by decide) (by decide) dX0_bringDown_7 (by decide) (by decide) ?_
          refine lv_aload_n hx hb dX0_bringDown_10 rfl (lv_at hl 1 rfl) ?_
          refine va_get (D := D) (ci := 0) (v := .ref A_counters) (C := RX0) (T := TX0) (N := 1) hx hb hts (fun _ h => List.mem_cons_of_mem _ (List.mem_append_right _ h)) hown hK hP 0 rfl rfl 0 (by decide) (hts (.fieldLink RX0 9 "CrownTable$Cloth" "counters" "[I") (mem_i 1 rfl)) (fun _ h9 => h9) rfl dX0_bringDown_11 ?_
          refine lv_iload_n hx hb dX0_bringDown_14 rfl (lv_at hl 0 rfl) ?_
          refine va_iald hx hb hK hP 1 1 rfl rfl (vin (a := 5) (by decide) (by decide) (by decide)) dX0_bringDown_15 ?_
          refine lv_topi (fun x_454 ex_454 => ?_)
          have lf_455 : (f_counters 5).toInt = x_454.toInt := by rw [ex_454]; rfl
          refine lv_iconst (v := 1) hx hb dX0_bringDown_16 (by decide) ?_
          refine iicmp_ge (a := x_454.toInt) (b := 1) (tgt := 26) hx hb rfl (by decide) dX0_bringDown_17 (by decide) (fun k_456 => ?_) (fun k_456 => ?_)
          · skip
            refine lv_iload_n hx hb dX0_bringDown_26 rfl (lv_at hl 0 rfl) ?_
            refine lv_bipush (v := 6) hx hb dX0_bringDown_27 (by decide) ?_
            refine iicmp_ltT (a := 5) (b := 6) (tgt := 34) hx hb (by decide) (by decide) dX0_bringDown_29 (by decide) (by decide) ?_
            refine lv_iload_n hx hb dX0_bringDown_34 rfl (lv_at hl 0 rfl) ?_
            refine lv_istore_n (lv' := [(3, .int 5), (2, .int 5), (0, .ref A_self), (1, .int 1)]) hx hb dX0_bringDown_35 rfl hl (by decide) rfl (fun ls hl => ?_)
            refine lv_iload_n hx hb dX0_bringDown_36 rfl (lv_at hl 0 rfl) ?_
            refine lv_iload_n hx hb dX0_bringDown_37 rfl (lv_at hl 3 rfl) ?_
            refine iicmp_leF (a := 5) (b := 1) (tgt := 75) hx hb (by decide) (by decide) dX0_bringDown_38 (by decide) (by decide) ?_
            refine lv_aload_n hx hb dX0_bringDown_41 rfl (lv_at hl 2 rfl) ?_
            refine va_get (D := D) (ci := 0) (v := .ref A_counters) (C := RX0) (T := TX0) (N := 1) hx hb hts (fun _ h => List.mem_cons_of_mem _ (List.mem_append_right _ h)) hown hK hP 0 rfl rfl 0 (by decide) (hts (.fieldLink RX0 9 "CrownTable$Cloth" "counters" "[I") (mem_i 1 rfl)) (fun _ h9 => h9) rfl dX0_bringDown_42 ?_
            refine lv_iload_n hx hb dX0_bringDown_45 rfl (lv_at hl 0 rfl) ?_
            refine lv_dup2_11 hx hb dX0_bringDown_46 rfl rfl ?_
            refine va_iald hx hb hK hP 1 1 rfl rfl (vin (a := 5) (by decide) (by decide) (by decide)) dX0_bringDown_47 ?_
            refine lv_topi (fun x_457 ex_457 => ?_)
            have lf_458 : (f_counters 5).toInt = x_457.toInt := by rw [ex_457]; rfl
            refine lv_iconst (v := 1) hx hb dX0_bringDown_48 (by decide) ?_
            refine lv_isub hx hb dX0_bringDown_49 ?_
            refine lv_topi (fun x_459 ex_459 => ?_)
            have tx_459 : x_459.toInt = (x_457.toInt - 1) := by rw [ex_459]; exact sub_ti (a := x_457.toInt) (b := 1) rfl (by decide) (by omega) (by omega)
            refine va_iast hx hb hK hP hD hS 1 1 rfl rfl (vin (a := 5) (by decide) (by decide) (by decide)) dX0_bringDown_50 (fun H locs hP hD hS => ?_)
            obtain ⟨f_460, ef_460, hP, hD⟩ : ∃ f_460 : Nat → Int32, f_460 = upd f_counters (5 : Int32).toNatClampNeg x_459 ∧ va_P D vwCl [(A_self, .inr (0, [.ref A_counters])), (A_counters, .inl (c 1, 6, .inl f_460))] H ∧ va_D A [(A_self, .inr (0, [.ref A_counters])), (A_counters, .inl (c 1, 6, .inl f_460))] := ⟨_, rfl, hP, hD⟩
            have cl_461 : (f_460 0).toInt = (f_counters 0).toInt := by rw [ef_460]; rfl
            have cl_462 : (f_460 1).toInt = (f_counters 1).toInt := by rw [ef_460]; rfl
            have cl_463 : (f_460 2).toInt = (f_counters 2).toInt := by rw [ef_460]; rfl
            have cl_464 : (f_460 3).toInt = (f_counters 3).toInt := by rw [ef_460]; rfl
            have cl_465 : (f_460 4).toInt = (f_counters 4).toInt := by rw [ef_460]; rfl
            have cl_466 : (f_460 5).toInt = x_459.toInt := by rw [ef_460]; rfl
            refine lv_aload_n hx hb dX0_bringDown_51 rfl (lv_at hl 2 rfl) ?_
            refine va_get (D := D) (ci := 0) (v := .ref A_counters) (C := RX0) (T := TX0) (N := 1) hx hb hts (fun _ h => List.mem_cons_of_mem _ (List.mem_append_right _ h)) hown hK hP 0 rfl rfl 0 (by decide) (hts (.fieldLink RX0 9 "CrownTable$Cloth" "counters" "[I") (mem_i 1 rfl)) (fun _ h9 => h9) rfl dX0_bringDown_52 ?_
            refine lv_iload_n hx hb dX0_bringDown_55 rfl (lv_at hl 0 rfl) ?_
            refine lv_iconst (v := 1) hx hb dX0_bringDown_56 (by decide) ?_
            refine lv_isub hx hb dX0_bringDown_57 ?_
            refine lk_i (y := 4) (by decide) ?_
            refine lv_dup2_11 hx hb dX0_bringDown_58 rfl rfl ?_
            refine va_iald hx hb hK hP 1 1 rfl rfl (vin (a := 4) (by decide) (by decide) (by decide)) dX0_bringDown_59 ?_
            refine lv_topi (fun x_467 ex_467 => ?_)
            have lf_468 : (f_460 4).toInt = x_467.toInt := by rw [ex_467]; rfl
            refine va_gets hx hb hSt.2.2.1 hS hown (hts (.fieldLink RX0 23 "CrownTable$Cloth" "OF_THE_NEXT" "[I") (mem_i 2 rfl)) (fun _ h9 => h9) dX0_bringDown_60 ?_
            refine lv_iload_n hx hb dX0_bringDown_63 rfl (lv_at hl 0 rfl) ?_
            refine lv_iconst (v := 1) hx hb dX0_bringDown_64 (by decide) ?_
            refine lv_isub hx hb dX0_bringDown_65 ?_
            refine lk_i (y := 4) (by decide) ?_
            refine va_ti (v := .int 10) hx hb hSt.2.2.2.1 hS (vin (a := 4) (by decide) (by decide) (by decide)) rfl dX0_bringDown_66 ?_
            refine lv_iadd hx hb dX0_bringDown_67 ?_
            refine lv_topi (fun x_469 ex_469 => ?_)
            have tx_469 : x_469.toInt = (x_467.toInt + 10) := by rw [ex_469]; exact add_ti (a := x_467.toInt) (b := 10) rfl (by decide) (by omega) (by omega)
            refine va_iast hx hb hK hP hD hS 1 1 rfl rfl (vin (a := 4) (by decide) (by decide) (by decide)) dX0_bringDown_68 (fun H locs hP hD hS => ?_)
            obtain ⟨f_470, ef_470, hP, hD⟩ : ∃ f_470 : Nat → Int32, f_470 = upd f_460 (4 : Int32).toNatClampNeg x_469 ∧ va_P D vwCl [(A_self, .inr (0, [.ref A_counters])), (A_counters, .inl (c 1, 6, .inl f_470))] H ∧ va_D A [(A_self, .inr (0, [.ref A_counters])), (A_counters, .inl (c 1, 6, .inl f_470))] := ⟨_, rfl, hP, hD⟩
            have cl_471 : (f_470 0).toInt = (f_460 0).toInt := by rw [ef_470]; rfl
            have cl_472 : (f_470 1).toInt = (f_460 1).toInt := by rw [ef_470]; rfl
            have cl_473 : (f_470 2).toInt = (f_460 2).toInt := by rw [ef_470]; rfl
            have cl_474 : (f_470 3).toInt = (f_460 3).toInt := by rw [ef_470]; rfl
            have cl_475 : (f_470 4).toInt = x_469.toInt := by rw [ef_470]; rfl
            have cl_476 : (f_470 5).toInt = (f_460 5).toInt := by rw [ef_470]; rfl
            refine lv_iinc (v := 4) (lv' := [(3, .int 4), (2, .int 5), (0, .ref A_self), (1, .int 1)]) hx hb dX0_bringDown_69 hl (k := 0) rfl (by decide) (by decide) rfl (fun ls hl => ?_)
            refine lv_goto (tgt := 36) hx hb dX0_bringDown_72 (by decide) ?_
            refine lv_iload_n hx hb dX0_bringDown_36 rfl (lv_at hl 0 rfl) ?_
            refine lv_iload_n hx hb dX0_bringDown_37 rfl (lv_at hl 3 rfl) ?_
            refine iicmp_leF (a := 4) (b := 1) (tgt := 75) hx hb (by decide) (by decide) dX0_bringDown_38 (by decide) (by decide) ?_
            refine lv_aload_n hx hb dX0_bringDown_41 rfl (lv_at hl 2 rfl) ?_
            refine va_get (D := D) (ci := 0) (v := .ref A_counters) (C := RX0) (T := TX0) (N := 1) hx hb hts (fun _ h => List.mem_cons_of_mem _ (List.mem_append_right _ h)) hown hK hP 0 rfl rfl 0 (by decide) (hts (.fieldLink RX0 9 "CrownTable$Cloth" "counters" "[I") (mem_i 1 rfl)) (fun _ h9 => h9) rfl dX0_bringDown_42 ?_
            refine lv_iload_n hx hb dX0_bringDown_45 rfl (lv_at hl 0 rfl) ?_
            refine lv_dup2_11 hx hb dX0_bringDown_46 rfl rfl ?_
            refine va_iald hx hb hK hP 1 1 rfl rfl (vin (a := 4) (by decide) (by decide) (by decide)) dX0_bringDown_47 ?_
            refine lv_topi (fun x_477 ex_477 => ?_)
            have lf_478 : (f_470 4).toInt = x_477.toInt := by rw [ex_477]; rfl
            refine lv_iconst (v := 1) hx hb dX0_bringDown_48 (by decide) ?_
            refine lv_isub hx hb dX0_bringDown_49 ?_
            refine lv_topi (fun x_479 ex_479 => ?_)
            have tx_479 : x_479.toInt = (x_477.toInt - 1) := by rw [ex_479]; exact sub_ti (a := x_477.toInt) (b := 1) rfl (by decide) (by omega) (by omega)
            refine va_iast hx hb hK hP hD hS 1 1 rfl rfl (vin (a := 4) (by decide) (by decide) (by decide)) dX0_bringDown_50 (fun H locs hP hD hS => ?_)
            obtain ⟨f_480, ef_480, hP, hD⟩ : ∃ f_480 : Nat → Int32, f_480 = upd f_470 (4 : Int32).toNatClampNeg x_479 ∧ va_P D vwCl [(A_self, .inr (0, [.ref A_counters])), (A_counters, .inl (c 1, 6, .inl f_480))] H ∧ va_D A [(A_self, .inr (0, [.ref A_counters])), (A_counters, .inl (c 1, 6, .inl f_480))] := ⟨_, rfl, hP, hD⟩
            have cl_481 : (f_480 0).toInt = (f_470 0).toInt := by rw [ef_480]; rfl
            have cl_482 : (f_480 1).toInt = (f_470 1).toInt := by rw [ef_480]; rfl
            have cl_483 : (f_480 2).toInt = (f_470 2).toInt := by rw [ef_480]; rfl
            have cl_484 : (f_480 3).toInt = (f_470 3).toInt := by rw [ef_480]; rfl
            have cl_485 : (f_480 4).toInt = x_479.toInt := by rw [ef_480]; rfl
            have cl_486 : (f_480 5).toInt = (f_470 5).toInt := by rw [ef_480]; rfl
            refine lv_aload_n hx hb dX0_bringDown_51 rfl (lv_at hl 2 rfl) ?_
            refine va_get (D := D) (ci := 0) (v := .ref A_counters) (C := RX0) (T := TX0) (N := 1) hx hb hts (fun _ h => List.mem_cons_of_mem _ (List.mem_append_right _ h)) hown hK hP 0 rfl rfl 0 (by decide) (hts (.fieldLink RX0 9 "CrownTable$Cloth" "counters" "[I") (mem_i 1 rfl)) (fun _ h9 => h9) rfl dX0_bringDown_52 ?_
            refine lv_iload_n hx hb dX0_bringDown_55 rfl (lv_at hl 0 rfl) ?_
            refine lv_iconst (v := 1) hx hb dX0_bringDown_56 (by decide) ?_
            refine lv_isub hx hb dX0_bringDown_57 ?_
            refine lk_i (y := 3) (by decide) ?_
            refine lv_dup2_11 hx hb dX0_bringDown_58 rfl rfl ?_
            refine va_iald hx hb hK hP 1 1 rfl rfl (vin (a := 3) (by decide) (by decide) (by decide)) dX0_bringDown_59 ?_
            refine lv_topi (fun x_487 ex_487 => ?_)
            have lf_488 : (f_480 3).toInt = x_487.toInt := by rw [ex_487]; rfl
            refine va_gets hx hb hSt.2.2.1 hS hown (hts (.fieldLink RX0 23 "CrownTable$Cloth" "OF_THE_NEXT" "[I") (mem_i 2 rfl)) (fun _ h9 => h9) dX0_bringDown_60 ?_
            refine lv_iload_n hx hb dX0_bringDown_63 rfl (lv_at hl 0 rfl) ?_
            refine lv_iconst (v := 1) hx hb dX0_bringDown_64 (by decide) ?_
            refine lv_isub hx hb dX0_bringDown_65 ?_
            refine lk_i (y := 3) (by decide) ?_
            refine va_ti (v := .int 5) hx hb hSt.2.2.2.1 hS (vin (a := 3) (by decide) (by decide) (by decide)) rfl dX0_bringDown_66 ?_
            refine lv_iadd hx hb dX0_bringDown_67 ?_
            refine lv_topi (fun x_489 ex_489 => ?_)
            have tx_489 : x_489.toInt = (x_487.toInt + 5) := by rw [ex_489]; exact add_ti (a := x_487.toInt) (b := 5) rfl (by decide) (by omega) (by omega)
            refine va_iast hx hb hK hP hD hS 1 1 rfl rfl (vin (a := 3) (by decide) (by decide) (by decide)) dX0_bringDown_68 (fun H locs hP hD hS => ?_)
            obtain ⟨f_490, ef_490, hP, hD⟩ : ∃ f_490 : Nat → Int32, f_490 = upd f_480 (3 : Int32).toNatClampNeg x_489 ∧ va_P D vwCl [(A_self, .inr (0, [.ref A_counters])), (A_counters, .inl (c 1, 6, .inl f_490))] H ∧ va_D A [(A_self, .inr (0, [.ref A_counters])), (A_counters, .inl (c 1, 6, .inl f_490))] := ⟨_, rfl, hP, hD⟩
            have cl_491 : (f_490 0).toInt = (f_480 0).toInt := by rw [ef_490]; rfl
            have cl_492 : (f_490 1).toInt = (f_480 1).toInt := by rw [ef_490]; rfl
            have cl_493 : (f_490 2).toInt = (f_480 2).toInt := by rw [ef_490]; rfl
            have cl_494 : (f_490 3).toInt = x_489.toInt := by rw [ef_490]; rfl
            have cl_495 : (f_490 4).toInt = (f_480 4).toInt := by rw [ef_490]; rfl
            have cl_496 : (f_490 5).toInt = (f_480 5).toInt := by rw [ef_490]; rfl
            refine lv_iinc (v := 3) (lv' := [(3, .int 3), (2, .int 5), (0, .ref A_self), (1, .int 1)]) hx hb dX0_bringDown_69 hl (k := 0) rfl (by decide) (by decide) rfl (fun ls hl => ?_)
            refine lv_goto (tgt := 36) hx hb dX0_bringDown_72 (by decide) ?_
            refine lv_iload_n hx hb dX0_bringDown_36 rfl (lv_at hl 0 rfl) ?_
            refine lv_iload_n hx hb dX0_bringDown_37 rfl (lv_at hl 3 rfl) ?_
            refine iicmp_leF (a := 3) (b := 1) (tgt := 75) hx hb (by decide) (by decide) dX0_bringDown_38 (by decide) (by decide) ?_
            refine lv_aload_n hx hb dX0_bringDown_41 rfl (lv_at hl 2 rfl) ?_
            refine va_get (D := D) (ci := 0) (v := .ref A_counters) (C := RX0) (T := TX0) (N := 1) hx hb hts (fun _ h => List.mem_cons_of_mem _ (List.mem_append_right _ h)) hown hK hP 0 rfl rfl 0 (by decide) (hts (.fieldLink RX0 9 "CrownTable$Cloth" "counters" "[I") (mem_i 1 rfl)) (fun _ h9 => h9) rfl dX0_bringDown_42 ?_
            refine lv_iload_n hx hb dX0_bringDown_45 rfl (lv_at hl 0 rfl) ?_
            refine lv_dup2_11 hx hb dX0_bringDown_46 rfl rfl ?_
            refine va_iald hx hb hK hP 1 1 rfl rfl (vin (a := 3) (by decide) (by decide) (by decide)) dX0_bringDown_47 ?_
            refine lv_topi (fun x_497 ex_497 => ?_)
            have lf_498 : (f_490 3).toInt = x_497.toInt := by rw [ex_497]; rfl
            refine lv_iconst (v := 1) hx hb dX0_bringDown_48 (by decide) ?_
            refine lv_isub hx hb dX0_bringDown_49 ?_
            refine lv_topi (fun x_499 ex_499 => ?_)
            have tx_499 : x_499.toInt = (x_497.toInt - 1) := by rw [ex_499]; exact sub_ti (a := x_497.toInt) (b := 1) rfl (by decide) (by omega) (by omega)
            refine va_iast hx hb hK hP hD hS 1 1 rfl rfl (vin (a := 3) (by decide) (by decide) (by decide)) dX0_bringDown_50 (fun H locs hP hD hS => ?_)
            obtain ⟨f_500, ef_500, hP, hD⟩ : ∃ f_500 : Nat → Int32, f_500 = upd f_490 (3 : Int32).toNatClampNeg x_499 ∧ va_P D vwCl [(A_self, .inr (0, [.ref A_counters])), (A_counters, .inl (c 1, 6, .inl f_500))] H ∧ va_D A [(A_self, .inr (0, [.ref A_counters])), (A_counters, .inl (c 1, 6, .inl f_500))] := ⟨_, rfl, hP, hD⟩
            have cl_501 : (f_500 0).toInt = (f_490 0).toInt := by rw [ef_500]; rfl
            have cl_502 : (f_500 1).toInt = (f_490 1).toInt := by rw [ef_500]; rfl
            have cl_503 : (f_500 2).toInt = (f_490 2).toInt := by rw [ef_500]; rfl
            have cl_504 : (f_500 3).toInt = x_499.toInt := by rw [ef_500]; rfl
            have cl_505 : (f_500 4).toInt = (f_490 4).toInt := by rw [ef_500]; rfl
            have cl_506 : (f_500 5).toInt = (f_490 5).toInt := by rw [ef_500]; rfl
            refine lv_aload_n hx hb dX0_bringDown_51 rfl (lv_at hl 2 rfl) ?_
            refine va_get (D := D) (ci := 0) (v := .ref A_counters) (C := RX0) (T := TX0) (N := 1) hx hb hts (fun _ h => List.mem_cons_of_mem _ (List.mem_append_right _ h)) hown hK hP 0 rfl rfl 0 (by decide) (hts (.fieldLink RX0 9 "CrownTable$Cloth" "counters" "[I") (mem_i 1 rfl)) (fun _ h9 => h9) rfl dX0_bringDown_52 ?_
            refine lv_iload_n hx hb dX0_bringDown_55 rfl (lv_at hl 0 rfl) ?_
            refine lv_iconst (v := 1) hx hb dX0_bringDown_56 (by decide) ?_
            refine lv_isub hx hb dX0_bringDown_57 ?_
            refine lk_i (y := 2) (by decide) ?_
            refine lv_dup2_11 hx hb dX0_bringDown_58 rfl rfl ?_
            refine va_iald hx hb hK hP 1 1 rfl rfl (vin (a := 2) (by decide) (by decide) (by decide)) dX0_bringDown_59 ?_
            refine lv_topi (fun x_507 ex_507 => ?_)
            have lf_508 : (f_500 2).toInt = x_507.toInt := by rw [ex_507]; rfl
            refine va_gets hx hb hSt.2.2.1 hS hown (hts (.fieldLink RX0 23 "CrownTable$Cloth" "OF_THE_NEXT" "[I") (mem_i 2 rfl)) (fun _ h9 => h9) dX0_bringDown_60 ?_
            refine lv_iload_n hx hb dX0_bringDown_63 rfl (lv_at hl 0 rfl) ?_
            refine lv_iconst (v := 1) hx hb dX0_bringDown_64 (by decide) ?_
            refine lv_isub hx hb dX0_bringDown_65 ?_
            refine lk_i (y := 2) (by decide) ?_
            refine va_ti (v := .int 20) hx hb hSt.2.2.2.1 hS (vin (a := 2) (by decide) (by decide) (by decide)) rfl dX0_bringDown_66 ?_
            refine lv_iadd hx hb dX0_bringDown_67 ?_
            refine lv_topi (fun x_509 ex_509 => ?_)
            have tx_509 : x_509.toInt = (x_507.toInt + 20) := by rw [ex_509]; exact add_ti (a := x_507.toInt) (b := 20) rfl (by decide) (by omega) (by omega)
            refine va_iast hx hb hK hP hD hS 1 1 rfl rfl (vin (a := 2) (by decide) (by decide) (by decide)) dX0_bringDown_68 (fun H locs hP hD hS => ?_)
            obtain ⟨f_510, ef_510, hP, hD⟩ : ∃ f_510 : Nat → Int32, f_510 = upd f_500 (2 : Int32).toNatClampNeg x_509 ∧ va_P D vwCl [(A_self, .inr (0, [.ref A_counters])), (A_counters, .inl (c 1, 6, .inl f_510))] H ∧ va_D A [(A_self, .inr (0, [.ref A_counters])), (A_counters, .inl (c 1, 6, .inl f_510))] := ⟨_, rfl, hP, hD⟩
            have cl_511 : (f_510 0).toInt = (f_500 0).toInt := by rw [ef_510]; rfl
            have cl_512 : (f_510 1).toInt = (f_500 1).toInt := by rw [ef_510]; rfl
            have cl_513 : (f_510 2).toInt = x_509.toInt := by rw [ef_510]; rfl
            have cl_514 : (f_510 3).toInt = (f_500 3).toInt := by rw [ef_510]; rfl
            have cl_515 : (f_510 4).toInt = (f_500 4).toInt := by rw [ef_510]; rfl
            have cl_516 : (f_510 5).toInt = (f_500 5).toInt := by rw [ef_510]; rfl
            refine lv_iinc (v := 2) (lv' := [(3, .int 2), (2, .int 5), (0, .ref A_self), (1, .int 1)]) hx hb dX0_bringDown_69 hl (k := 0) rfl (by decide) (by decide) rfl (fun ls hl => ?_)
            refine lv_goto (tgt := 36) hx hb dX0_bringDown_72 (by decide) ?_
            refine lv_iload_n hx hb dX0_bringDown_36 rfl (lv_at hl 0 rfl) ?_
            refine lv_iload_n hx hb dX0_bringDown_37 rfl (lv_at hl 3 rfl) ?_
            refine iicmp_leF (a := 2) (b := 1) (tgt := 75) hx hb (by decide) (by decide) dX0_bringDown_38 (by decide) (by decide) ?_
            refine lv_aload_n hx hb dX0_bringDown_41 rfl (lv_at hl 2 rfl) ?_
            refine va_get (D := D) (ci := 0) (v := .ref A_counters) (C := RX0) (T := TX0) (N := 1) hx hb hts (fun _ h => List.mem_cons_of_mem _ (List.mem_append_right _ h)) hown hK hP 0 rfl rfl 0 (by decide) (hts (.fieldLink RX0 9 "CrownTable$Cloth" "counters" "[I") (mem_i 1 rfl)) (fun _ h9 => h9) rfl dX0_bringDown_42 ?_
            refine lv_iload_n hx hb dX0_bringDown_45 rfl (lv_at hl 0 rfl) ?_
            refine lv_dup2_11 hx hb dX0_bringDown_46 rfl rfl ?_
            refine va_iald hx hb hK hP 1 1 rfl rfl (vin (a := 2) (by decide) (by decide) (by decide)) dX0_bringDown_47 ?_
            refine lv_topi (fun x_517 ex_517 => ?_)
            have lf_518 : (f_510 2).toInt = x_517.toInt := by rw [ex_517]; rfl
            refine lv_iconst (v := 1) hx hb dX0_bringDown_48 (by decide) ?_
            refine lv_isub hx hb dX0_bringDown_49 ?_
            refine lv_topi (fun x_519 ex_519 => ?_)
            have tx_519 : x_519.toInt = (x_517.toInt - 1) := by rw [ex_519]; exact sub_ti (a := x_517.toInt) (b := 1) rfl (by decide) (by omega) (by omega)
            refine va_iast hx hb hK hP hD hS 1 1 rfl rfl (vin (a := 2) (by decide) (by decide) (by decide)) dX0_bringDown_50 (fun H locs hP hD hS => ?_)
            obtain ⟨f_520, ef_520, hP, hD⟩ : ∃ f_520 : Nat → Int32, f_520 = upd f_510 (2 : Int32).toNatClampNeg x_519 ∧ va_P D vwCl [(A_self, .inr (0, [.ref A_counters])), (A_counters, .inl (c 1, 6, .inl f_520))] H ∧ va_D A [(A_self, .inr (0, [.ref A_counters])), (A_counters, .inl (c 1, 6, .inl f_520))] := ⟨_, rfl, hP, hD⟩
            have cl_521 : (f_520 0).toInt = (f_510 0).toInt := by rw [ef_520]; rfl
            have cl_522 : (f_520 1).toInt = (f_510 1).toInt := by rw [ef_520]; rfl
            have cl_523 : (f_520 2).toInt = x_519.toInt := by rw [ef_520]; rfl
            have cl_524 : (f_520 3).toInt = (f_510 3).toInt := by rw [ef_520]; rfl
            have cl_525 : (f_520 4).toInt = (f_510 4).toInt := by rw [ef_520]; rfl
            have cl_526 : (f_520 5).toInt = (f_510 5).toInt := by rw [ef_520]; rfl
            refine lv_aload_n hx hb dX0_bringDown_51 rfl (lv_at hl 2 rfl) ?_
            refine va_get (D := D) (ci := 0) (v := .ref A_counters) (C := RX0) (T := TX0) (N := 1) hx hb hts (fun _ h => List.mem_cons_of_mem _ (List.mem_append_right _ h)) hown hK hP 0 rfl rfl 0 (by decide) (hts (.fieldLink RX0 9 "CrownTable$Cloth" "counters" "[I") (mem_i 1 rfl)) (fun _ h9 => h9) rfl dX0_bringDown_52 ?_
            refine lv_iload_n hx hb dX0_bringDown_55 rfl (lv_at hl 0 rfl) ?_
            refine lv_iconst (v := 1) hx hb dX0_bringDown_56 (by decide) ?_
            refine lv_isub hx hb dX0_bringDown_57 ?_
            refine lk_i (y := 1) (by decide) ?_
            refine lv_dup2_11 hx hb dX0_bringDown_58 rfl rfl ?_
            refine va_iald hx hb hK hP 1 1 rfl rfl (vin (a := 1) (by decide) (by decide) (by decide)) dX0_bringDown_59 ?_
            refine lv_topi (fun x_527 ex_527 => ?_)
            have lf_528 : (f_520 1).toInt = x_527.toInt := by rw [ex_527]; rfl
            refine va_gets hx hb hSt.2.2.1 hS hown (hts (.fieldLink RX0 23 "CrownTable$Cloth" "OF_THE_NEXT" "[I") (mem_i 2 rfl)) (fun _ h9 => h9) dX0_bringDown_60 ?_
            refine lv_iload_n hx hb dX0_bringDown_63 rfl (lv_at hl 0 rfl) ?_
            refine lv_iconst (v := 1) hx hb dX0_bringDown_64 (by decide) ?_
            refine lv_isub hx hb dX0_bringDown_65 ?_
            refine lk_i (y := 1) (by decide) ?_
            refine va_ti (v := .int 20) hx hb hSt.2.2.2.1 hS (vin (a := 1) (by decide) (by decide) (by decide)) rfl dX0_bringDown_66 ?_
            refine lv_iadd hx hb dX0_bringDown_67 ?_
            refine lv_topi (fun x_529 ex_529 => ?_)
            have tx_529 : x_529.toInt = (x_527.toInt + 20) := by rw [ex_529]; exact add_ti (a := x_527.toInt) (b := 20) rfl (by decide) (by omega) (by omega)
            refine va_iast hx hb hK hP hD hS 1 1 rfl rfl (vin (a := 1) (by decide) (by decide) (by decide)) dX0_bringDown_68 (fun H locs hP hD hS => ?_)
            obtain ⟨f_530, ef_530, hP, hD⟩ : ∃ f_530 : Nat → Int32, f_530 = upd f_520 (1 : Int32).toNatClampNeg x_529 ∧ va_P D vwCl [(A_self, .inr (0, [.ref A_counters])), (A_counters, .inl (c 1, 6, .inl f_530))] H ∧ va_D A [(A_self, .inr (0, [.ref A_counters])), (A_counters, .inl (c 1, 6, .inl f_530))] := ⟨_, rfl, hP, hD⟩
            have cl_531 : (f_530 0).toInt = (f_520 0).toInt := by rw [ef_530]; rfl
            have cl_532 : (f_530 1).toInt = x_529.toInt := by rw [ef_530]; rfl
            have cl_533 : (f_530 2).toInt = (f_520 2).toInt := by rw [ef_530]; rfl
            have cl_534 : (f_530 3).toInt = (f_520 3).toInt := by rw [ef_530]; rfl
            have cl_535 : (f_530 4).toInt = (f_520 4).toInt := by rw [ef_530]; rfl
            have cl_536 : (f_530 5).toInt = (f_520 5).toInt := by rw [ef_530]; rfl
            refine lv_iinc (v := 1) (lv' := [(3, .int 1), (2, .int 5), (0, .ref A_self), (1, .int 1)]) hx hb dX0_bringDown_69 hl (k := 0) rfl (by decide) (by decide) rfl (fun ls hl => ?_)
            refine lv_goto (tgt := 36) hx hb dX0_bringDown_72 (by decide) ?_
            refine lv_iload_n hx hb dX0_bringDown_36 rfl (lv_at hl 0 rfl) ?_
            refine lv_iload_n hx hb dX0_bringDown_37 rfl (lv_at hl 3 rfl) ?_
            refine iicmp_leT (a := 1) (b := 1) (tgt := 75) hx hb (by decide) (by decide) dX0_bringDown_38 (by decide) (by decide) ?_
            refine lv_iload_n hx hb dX0_bringDown_75 rfl (lv_at hl 1 rfl) ?_
            refine lv_iload_n hx hb dX0_bringDown_76 rfl (lv_at hl 3 rfl) ?_
            refine lv_isub hx hb dX0_bringDown_77 ?_
            refine lk_i (y := 4) (by decide) ?_
            have kzz_537 : (4 : Int32).toInt = 4 := by decide
            have hP9 := hP.sub (ws' := [(A_self, .inr (0, [.ref A_counters])), (A_counters, .inl (c 1, 6, .inl f_530))]) [0, 1] rfl
            have hD9 := hD.sub (ws' := [(A_self, .inr (0, [.ref A_counters])), (A_counters, .inl (c 1, 6, .inl f_530))]) [0, 1] (by decide) rfl
            refine W.widen (k := 0) (n := 0) (by omega) (by omega) ?_
            exact W.iret (v := 4) hx hb hr (fun t ht hW => ⟨⟨_, (f_530, ()), rfl, (show BdI i_a1 (f_counters 0).toInt (f_counters 1).toInt (f_counters 2).toInt (f_counters 3).toInt (f_counters 4).toInt (f_counters 5).toInt (f_530 0).toInt (f_530 1).toInt (f_530 2).toInt (f_530 3).toInt (f_530 4).toInt (f_530 5).toInt (4 : Int32).toInt from (BdI.i1_3 hsp (by omega) (by omega) (by omega) (by omega) (by omega) (by omega) (by omega) (by omega) (by omega) (by omega) (by omega))), ⟨by rw [ht]; exact hP9, hD9⟩⟩, hS.F ht⟩) hS.2.2 dX0_bringDown_78
          · skip
            refine lv_iinc (v := 6) (lv' := [(2, .int 6), (0, .ref A_self), (1, .int 1)]) hx hb dX0_bringDown_20 hl (k := 0) rfl (by decide) (by decide) rfl (fun ls hl => ?_)
            refine lv_goto (tgt := 4) hx hb dX0_bringDown_23 (by decide) ?_
            refine lv_iload_n hx hb dX0_bringDown_4 rfl (lv_at hl 0 rfl) ?_
            refine lv_bipush (v := 6) hx hb dX0_bringDown_5 (by decide) ?_
            refine iicmp_geT (a := 6) (b := 6) (tgt := 26) hx hb (by decide) (by decide) dX0_bringDown_7 (by decide) (by decide) ?_
            refine lv_iload_n hx hb dX0_bringDown_26 rfl (lv_at hl 0 rfl) ?_
            refine lv_bipush (v := 6) hx hb dX0_bringDown_27 (by decide) ?_
            refine iicmp_ltF (a := 6) (b := 6) (tgt := 34) hx hb (by decide) (by decide) dX0_bringDown_29 (by decide) (by decide) ?_
            refine lv_iconst (v := 0) hx hb dX0_bringDown_32 (by decide) ?_
            have kzz_538 : (0 : Int32).toInt = 0 := by decide
            have hP9 := hP.sub (ws' := [(A_self, .inr (0, [.ref A_counters])), (A_counters, .inl (c 1, 6, .inl f_counters))]) [0, 1] rfl
            have hD9 := hD.sub (ws' := [(A_self, .inr (0, [.ref A_counters])), (A_counters, .inl (c 1, 6, .inl f_counters))]) [0, 1] (by decide) rfl
            refine W.widen (k := 0) (n := 0) (by omega) (by omega) ?_
            exact W.iret (v := 0) hx hb hr (fun t ht hW => ⟨⟨_, (f_counters, ()), rfl, (show BdI i_a1 (f_counters 0).toInt (f_counters 1).toInt (f_counters 2).toInt (f_counters 3).toInt (f_counters 4).toInt (f_counters 5).toInt (f_counters 0).toInt (f_counters 1).toInt (f_counters 2).toInt (f_counters 3).toInt (f_counters 4).toInt (f_counters 5).toInt (0 : Int32).toInt from (BdI.i1_4 hsp (by omega) (by omega) (by omega) (by omega) (by omega) (by omega) (by omega) (by omega) (by omega) (by omega) (by omega))), ⟨by rw [ht]; exact hP9, hD9⟩⟩, hS.F ht⟩) hS.2.2 dX0_bringDown_33
  · skip
    obtain rfl : a1 = 2 := Int32.toInt_inj.mp (by rw [hi_a1, hsp]; rfl)
    have hl : lv_has ls 4 [(0, .ref A_self), (1, .int 2)] := hl
    refine lv_iload_n hx hb dX0_bringDown_0 rfl (lv_at hl 1 rfl) ?_
    refine lv_iconst (v := 1) hx hb dX0_bringDown_1 (by decide) ?_
    refine lv_iadd hx hb dX0_bringDown_2 ?_
    refine lk_i (y := 3) (by decide) ?_
    refine lv_istore_n (lv' := [(2, .int 3), (0, .ref A_self), (1, .int 2)]) hx hb dX0_bringDown_3 rfl hl (by decide) rfl (fun ls hl => ?_)
    refine lv_iload_n hx hb dX0_bringDown_4 rfl (lv_at hl 0 rfl) ?_
    refine lv_bipush (v := 6) hx hb dX0_bringDown_5 (by decide) ?_
    refine iicmp_geF (a := 3) (b := 6) (tgt := 26) hx hb (by decide) (by decide) dX0_bringDown_7 (by decide) (by decide) ?_
    refine lv_aload_n hx hb dX0_bringDown_10 rfl (lv_at hl 1 rfl) ?_
    refine va_get (D := D) (ci := 0) (v := .ref A_counters) (C := RX0) (T := TX0) (N := 1) hx hb hts (fun _ h => List.mem_cons_of_mem _ (List.mem_append_right _ h)) hown hK hP 0 rfl rfl 0 (by decide) (hts (.fieldLink RX0 9 "CrownTable$Cloth" "counters" "[I") (mem_i 1 rfl)) (fun _ h9 => h9) rfl dX0_bringDown_11 ?_
    refine lv_iload_n hx hb dX0_bringDown_14 rfl (lv_at hl 0 rfl) ?_
    refine va_iald hx hb hK hP 1 1 rfl rfl (vin (a := 3) (by decide) (by decide) (by decide)) dX0_bringDown_15 ?_
    refine lv_topi (fun x_539 ex_539 => ?_)
    have lf_540 : (f_counters 3).toInt = x_539.toInt := by rw [ex_539]; rfl
    refine lv_iconst (v := 1) hx hb dX0_bringDown_16 (by decide) ?_
    refine iicmp_ge (a := x_539.toInt) (b := 1) (tgt := 26) hx hb rfl (by decide) dX0_bringDown_17 (by decide) (fun k_541 => ?_) (fun k_541 => ?_)
    · skip
      refine lv_iload_n hx hb dX0_bringDown_26 rfl (lv_at hl 0 rfl) ?_
      refine lv_bipush (v := 6) hx hb dX0_bringDown_27 (by decide) ?_
      refine iicmp_ltT (a := 3) (b := 6) (tgt := 34) hx hb (by decide) (by decide) dX0_bringDown_29 (by decide) (by decide) ?_
      refine lv_iload_n hx hb dX0_bringDown_34 rfl (lv_at hl 0 rfl) ?_
      refine lv_istore_n (lv' := [(3, .int 3), (2, .int 3), (0, .ref A_self), (1, .int 2)]) hx hb dX0_bringDown_35 rfl hl (by decide) rfl (fun ls hl => ?_)
      refine lv_iload_n hx hb dX0_bringDown_36 rfl (lv_at hl 0 rfl) ?_
      refine lv_iload_n hx hb dX0_bringDown_37 rfl (lv_at hl 3 rfl) ?_
      refine iicmp_leF (a := 3) (b := 2) (tgt := 75) hx hb (by decide) (by decide) dX0_bringDown_38 (by decide) (by decide) ?_
      refine lv_aload_n hx hb dX0_bringDown_41 rfl (lv_at hl 2 rfl) ?_
      refine va_get (D := D) (ci := 0) (v := .ref A_counters) (C := RX0) (T := TX0) (N := 1) hx hb hts (fun _ h => List.mem_cons_of_mem _ (List.mem_append_right _ h)) hown hK hP 0 rfl rfl 0 (by decide) (hts (.fieldLink RX0 9 "CrownTable$Cloth" "counters" "[I") (mem_i 1 rfl)) (fun _ h9 => h9) rfl dX0_bringDown_42 ?_
      refine lv_iload_n hx hb dX0_bringDown_45 rfl (lv_at hl 0 rfl) ?_
      refine lv_dup2_11 hx hb dX0_bringDown_46 rfl rfl ?_
      refine va_iald hx hb hK hP 1 1 rfl rfl (vin (a := 3) (by decide) (by decide) (by decide)) dX0_bringDown_47 ?_
      refine lv_topi (fun x_542 ex_542 => ?_)
      have lf_543 : (f_counters 3).toInt = x_542.toInt := by rw [ex_542]; rfl
      refine lv_iconst (v := 1) hx hb dX0_bringDown_48 (by decide) ?_
      refine lv_isub hx hb dX0_bringDown_49 ?_
      refine lv_topi (fun x_544 ex_544 => ?_)
      have tx_544 : x_544.toInt = (x_542.toInt - 1) := by rw [ex_544]; exact sub_ti (a := x_542.toInt) (b := 1) rfl (by decide) (by omega) (by omega)
      refine va_iast hx hb hK hP hD hS 1 1 rfl rfl (vin (a := 3) (by decide) (by decide) (by decide)) dX0_bringDown_50 (fun H locs hP hD hS => ?_)
      obtain ⟨f_545, ef_545, hP, hD⟩ : ∃ f_545 : Nat → Int32, f_545 = upd f_counters (3 : Int32).toNatClampNeg x_544 ∧ va_P D vwCl [(A_self, .inr (0, [.ref A_counters])), (A_counters, .inl (c 1, 6, .inl f_545))] H ∧ va_D A [(A_self, .inr (0, [.ref A_counters])), (A_counters, .inl (c 1, 6, .inl f_545))] := ⟨_, rfl, hP, hD⟩
      have cl_546 : (f_545 0).toInt = (f_counters 0).toInt := by rw [ef_545]; rfl
      have cl_547 : (f_545 1).toInt = (f_counters 1).toInt := by rw [ef_545]; rfl
      have cl_548 : (f_545 2).toInt = (f_counters 2).toInt := by rw [ef_545]; rfl
      have cl_549 : (f_545 3).toInt = x_544.toInt := by rw [ef_545]; rfl
      have cl_550 : (f_545 4).toInt = (f_counters 4).toInt := by rw [ef_545]; rfl
      have cl_551 : (f_545 5).toInt = (f_counters 5).toInt := by rw [ef_545]; rfl
      refine lv_aload_n hx hb dX0_bringDown_51 rfl (lv_at hl 2 rfl) ?_
      refine va_get (D := D) (ci := 0) (v := .ref A_counters) (C := RX0) (T := TX0) (N := 1) hx hb hts (fun _ h => List.mem_cons_of_mem _ (List.mem_append_right _ h)) hown hK hP 0 rfl rfl 0 (by decide) (hts (.fieldLink RX0 9 "CrownTable$Cloth" "counters" "[I") (mem_i 1 rfl)) (fun _ h9 => h9) rfl dX0_bringDown_52 ?_
      refine lv_iload_n hx hb dX0_bringDown_55 rfl (lv_at hl 0 rfl) ?_
      refine lv_iconst (v := 1) hx hb dX0_bringDown_56 (by decide) ?_
      refine lv_isub hx hb dX0_bringDown_57 ?_
      refine lk_i (y := 2) (by decide) ?_
      refine lv_dup2_11 hx hb dX0_bringDown_58 rfl rfl ?_
      refine va_iald hx hb hK hP 1 1 rfl rfl (vin (a := 2) (by decide) (by decide) (by decide)) dX0_bringDown_59 ?_
      refine lv_topi (fun x_552 ex_552 => ?_)
      have lf_553 : (f_545 2).toInt = x_552.toInt := by rw [ex_552]; rfl
      refine va_gets hx hb hSt.2.2.1 hS hown (hts (.fieldLink RX0 23 "CrownTable$Cloth" "OF_THE_NEXT" "[I") (mem_i 2 rfl)) (fun _ h9 => h9) dX0_bringDown_60 ?_
      refine lv_iload_n hx hb dX0_bringDown_63 rfl (lv_at hl 0 rfl) ?_
      refine lv_iconst (v := 1) hx hb dX0_bringDown_64 (by decide) ?_
      refine lv_isub hx hb dX0_bringDown_65 ?_
      refine lk_i (y := 2) (by decide) ?_
      refine va_ti (v := .int 20) hx hb hSt.2.2.2.1 hS (vin (a := 2) (by decide) (by decide) (by decide)) rfl dX0_bringDown_66 ?_
      refine lv_iadd hx hb dX0_bringDown_67 ?_
      refine lv_topi (fun x_554 ex_554 => ?_)
      have tx_554 : x_554.toInt = (x_552.toInt + 20) := by rw [ex_554]; exact add_ti (a := x_552.toInt) (b := 20) rfl (by decide) (by omega) (by omega)
      refine va_iast hx hb hK hP hD hS 1 1 rfl rfl (vin (a := 2) (by decide) (by decide) (by decide)) dX0_bringDown_68 (fun H locs hP hD hS => ?_)
      obtain ⟨f_555, ef_555, hP, hD⟩ : ∃ f_555 : Nat → Int32, f_555 = upd f_545 (2 : Int32).toNatClampNeg x_554 ∧ va_P D vwCl [(A_self, .inr (0, [.ref A_counters])), (A_counters, .inl (c 1, 6, .inl f_555))] H ∧ va_D A [(A_self, .inr (0, [.ref A_counters])), (A_counters, .inl (c 1, 6, .inl f_555))] := ⟨_, rfl, hP, hD⟩
      have cl_556 : (f_555 0).toInt = (f_545 0).toInt := by rw [ef_555]; rfl
      have cl_557 : (f_555 1).toInt = (f_545 1).toInt := by rw [ef_555]; rfl
      have cl_558 : (f_555 2).toInt = x_554.toInt := by rw [ef_555]; rfl
      have cl_559 : (f_555 3).toInt = (f_545 3).toInt := by rw [ef_555]; rfl
      have cl_560 : (f_555 4).toInt = (f_545 4).toInt := by rw [ef_555]; rfl
      have cl_561 : (f_555 5).toInt = (f_545 5).toInt := by rw [ef_555]; rfl
      refine lv_iinc (v := 2) (lv' := [(3, .int 2), (2, .int 3), (0, .ref A_self), (1, .int 2)]) hx hb dX0_bringDown_69 hl (k := 0) rfl (by decide) (by decide) rfl (fun ls hl => ?_)
      refine lv_goto (tgt := 36) hx hb dX0_bringDown_72 (by decide) ?_
      refine lv_iload_n hx hb dX0_bringDown_36 rfl (lv_at hl 0 rfl) ?_
      refine lv_iload_n hx hb dX0_bringDown_37 rfl (lv_at hl 3 rfl) ?_
      refine iicmp_leT (a := 2) (b := 2) (tgt := 75) hx hb (by decide) (by decide) dX0_bringDown_38 (by decide) (by decide) ?_
      refine lv_iload_n hx hb dX0_bringDown_75 rfl (lv_at hl 1 rfl) ?_
      refine lv_iload_n hx hb dX0_bringDown_76 rfl (lv_at hl 3 rfl) ?_
      refine lv_isub hx hb dX0_bringDown_77 ?_
      refine lk_i (y := 1) (by decide) ?_
      have kzz_562 : (1 : Int32).toInt = 1 := by decide
      have hP9 := hP.sub (ws' := [(A_self, .inr (0, [.ref A_counters])), (A_counters, .inl (c 1, 6, .inl f_555))]) [0, 1] rfl
      have hD9 := hD.sub (ws' := [(A_self, .inr (0, [.ref A_counters])), (A_counters, .inl (c 1, 6, .inl f_555))]) [0, 1] (by decide) rfl
      refine W.widen (k := 0) (n := 0) (by omega) (by omega) ?_
      exact W.iret (v := 1) hx hb hr (fun t ht hW => ⟨⟨_, (f_555, ()), rfl, (show BdI i_a1 (f_counters 0).toInt (f_counters 1).toInt (f_counters 2).toInt (f_counters 3).toInt (f_counters 4).toInt (f_counters 5).toInt (f_555 0).toInt (f_555 1).toInt (f_555 2).toInt (f_555 3).toInt (f_555 4).toInt (f_555 5).toInt (1 : Int32).toInt from (BdI.i2_0 hsp (by omega) (by omega) (by omega) (by omega) (by omega) (by omega) (by omega) (by omega))), ⟨by rw [ht]; exact hP9, hD9⟩⟩, hS.F ht⟩) hS.2.2 dX0_bringDown_78
    · skip
      refine lv_iinc (v := 4) (lv' := [(2, .int 4), (0, .ref A_self), (1, .int 2)]) hx hb dX0_bringDown_20 hl (k := 0) rfl (by decide) (by decide) rfl (fun ls hl => ?_)
      refine lv_goto (tgt := 4) hx hb dX0_bringDown_23 (by decide) ?_
      refine lv_iload_n hx hb dX0_bringDown_4 rfl (lv_at hl 0 rfl) ?_
      refine lv_bipush (v := 6) hx hb dX0_bringDown_5 (by decide) ?_
      refine iicmp_geF (a := 4) (b := 6) (tgt := 26) hx hb (by decide) (by decide) dX0_bringDown_7 (by decide) (by decide) ?_
      refine lv_aload_n hx hb dX0_bringDown_10 rfl (lv_at hl 1 rfl) ?_
      refine va_get (D := D) (ci := 0) (v := .ref A_counters) (C := RX0) (T := TX0) (N := 1) hx hb hts (fun _ h => List.mem_cons_of_mem _ (List.mem_append_right _ h)) hown hK hP 0 rfl rfl 0 (by decide) (hts (.fieldLink RX0 9 "CrownTable$Cloth" "counters" "[I") (mem_i 1 rfl)) (fun _ h9 => h9) rfl dX0_bringDown_11 ?_
      refine lv_iload_n hx hb dX0_bringDown_14 rfl (lv_at hl 0 rfl) ?_
      refine va_iald hx hb hK hP 1 1 rfl rfl (vin (a := 4) (by decide) (by decide) (by decide)) dX0_bringDown_15 ?_
      refine lv_topi (fun x_563 ex_563 => ?_)
      have lf_564 : (f_counters 4).toInt = x_563.toInt := by rw [ex_563]; rfl
      refine lv_iconst (v := 1) hx hb dX0_bringDown_16 (by decide) ?_
      refine iicmp_ge (a := x_563.toInt) (b := 1) (tgt := 26) hx hb rfl (by decide) dX0_bringDown_17 (by decide) (fun k_565 => ?_) (fun k_565 => ?_)
      · skip
        refine lv_iload_n hx hb dX0_bringDown_26 rfl (lv_at hl 0 rfl) ?_
        refine lv_bipush (v := 6) hx hb dX0_bringDown_27 (by decide) ?_
        refine iicmp_ltT (a := 4) (b := 6) (tgt := 34) hx hb (by decide) (by decide) dX0_bringDown_29 (by decide) (by decide) ?_
        refine lv_iload_n hx hb dX0_bringDown_34 rfl (lv_at hl 0 rfl) ?_
        refine lv_istore_n (lv' := [(3, .int 4), (2, .int 4), (0, .ref A_self), (1, .int 2)]) hx hb dX0_bringDown_35 rfl hl (by decide) rfl (fun ls hl => ?_)
        refine lv_iload_n hx hb dX0_bringDown_36 rfl (lv_at hl 0 rfl) ?_
        refine lv_iload_n hx hb dX0_bringDown_37 rfl (lv_at hl 3 rfl) ?_
        refine iicmp_leF (a := 4) (b := 2) (tgt := 75) hx hb (by decide) (by decide) dX0_bringDown_38 (by decide) (by decide) ?_
        refine lv_aload_n hx hb dX0_bringDown_41 rfl (lv_at hl 2 rfl) ?_
        refine va_get (D := D) (ci := 0) (v := .ref A_counters) (C := RX0) (T := TX0) (N := 1) hx hb hts (fun _ h => List.mem_cons_of_mem _ (List.mem_append_right _ h)) hown hK hP 0 rfl rfl 0 (by decide) (hts (.fieldLink RX0 9 "CrownTable$Cloth" "counters" "[I") (mem_i 1 rfl)) (fun _ h9 => h9) rfl dX0_bringDown_42 ?_
        refine lv_iload_n hx hb dX0_bringDown_45 rfl (lv_at hl 0 rfl) ?_
        refine lv_dup2_11 hx hb dX0_bringDown_46 rfl rfl ?_
        refine va_iald hx hb hK hP 1 1 rfl rfl (vin (a := 4) (by decide) (by decide) (by decide)) dX0_bringDown_47 ?_
        refine lv_topi (fun x_566 ex_566 => ?_)
        have lf_567 : (f_counters 4).toInt = x_566.toInt := by rw [ex_566]; rfl
        refine lv_iconst (v := 1) hx hb dX0_bringDown_48 (by decide) ?_
        refine lv_isub hx hb dX0_bringDown_49 ?_
        refine lv_topi (fun x_568 ex_568 => ?_)
        have tx_568 : x_568.toInt = (x_566.toInt - 1) := by rw [ex_568]; exact sub_ti (a := x_566.toInt) (b := 1) rfl (by decide) (by omega) (by omega)
        refine va_iast hx hb hK hP hD hS 1 1 rfl rfl (vin (a := 4) (by decide) (by decide) (by decide)) dX0_bringDown_50 (fun H locs hP hD hS => ?_)
        obtain ⟨f_569, ef_569, hP, hD⟩ : ∃ f_569 : Nat → Int32, f_569 = upd f_counters (4 : Int32).toNatClampNeg x_568 ∧ va_P D vwCl [(A_self, .inr (0, [.ref A_counters])), (A_counters, .inl (c 1, 6, .inl f_569))] H ∧ va_D A [(A_self, .inr (0, [.ref A_counters])), (A_counters, .inl (c 1, 6, .inl f_569))] := ⟨_, rfl, hP, hD⟩
        have cl_570 : (f_569 0).toInt = (f_counters 0).toInt := by rw [ef_569]; rfl
        have cl_571 : (f_569 1).toInt = (f_counters 1).toInt := by rw [ef_569]; rfl
        have cl_572 : (f_569 2).toInt = (f_counters 2).toInt := by rw [ef_569]; rfl
        have cl_573 : (f_569 3).toInt = (f_counters 3).toInt := by rw [ef_569]; rfl
        have cl_574 : (f_569 4).toInt = x_568.toInt := by rw [ef_569]; rfl
        have cl_575 : (f_569 5).toInt = (f_counters 5).toInt := by rw [ef_569]; rfl
        refine lv_aload_n hx hb dX0_bringDown_51 rfl (lv_at hl 2 rfl) ?_
        refine va_get (D := D) (ci := 0) (v := .ref A_counters) (C := RX0) (T := TX0) (N := 1) hx hb hts (fun _ h => List.mem_cons_of_mem _ (List.mem_append_right _ h)) hown hK hP 0 rfl rfl 0 (by decide) (hts (.fieldLink RX0 9 "CrownTable$Cloth" "counters" "[I") (mem_i 1 rfl)) (fun _ h9 => h9) rfl dX0_bringDown_52 ?_
        refine lv_iload_n hx hb dX0_bringDown_55 rfl (lv_at hl 0 rfl) ?_
        refine lv_iconst (v := 1) hx hb dX0_bringDown_56 (by decide) ?_
        refine lv_isub hx hb dX0_bringDown_57 ?_
        refine lk_i (y := 3) (by decide) ?_
        refine lv_dup2_11 hx hb dX0_bringDown_58 rfl rfl ?_
        refine va_iald hx hb hK hP 1 1 rfl rfl (vin (a := 3) (by decide) (by decide) (by decide)) dX0_bringDown_59 ?_
        refine lv_topi (fun x_576 ex_576 => ?_)
        have lf_577 : (f_569 3).toInt = x_576.toInt := by rw [ex_576]; rfl
        refine va_gets hx hb hSt.2.2.1 hS hown (hts (.fieldLink RX0 23 "CrownTable$Cloth" "OF_THE_NEXT" "[I") (mem_i 2 rfl)) (fun _ h9 => h9) dX0_bringDown_60 ?_
        refine lv_iload_n hx hb dX0_bringDown_63 rfl (lv_at hl 0 rfl) ?_
        refine lv_iconst (v := 1) hx hb dX0_bringDown_64 (by decide) ?_
        refine lv_isub hx hb dX0_bringDown_65 ?_
        refine lk_i (y := 3) (by decide) ?_
        refine va_ti (v := .int 5) hx hb hSt.2.2.2.1 hS (vin (a := 3) (by decide) (by decide) (by decide)) rfl dX0_bringDown_66 ?_
        refine lv_iadd hx hb dX0_bringDown_67 ?_
        refine lv_topi (fun x_578 ex_578 => ?_)
        have tx_578 : x_578.toInt = (x_576.toInt + 5) := by rw [ex_578]; exact add_ti (a := x_576.toInt) (b := 5) rfl (by decide) (by omega) (by omega)
        refine va_iast hx hb hK hP hD hS 1 1 rfl rfl (vin (a := 3) (by decide) (by decide) (by decide)) dX0_bringDown_68 (fun H locs hP hD hS => ?_)
        obtain ⟨f_579, ef_579, hP, hD⟩ : ∃ f_579 : Nat → Int32, f_579 = upd f_569 (3 : Int32).toNatClampNeg x_578 ∧ va_P D vwCl [(A_self, .inr (0, [.ref A_counters])), (A_counters, .inl (c 1, 6, .inl f_579))] H ∧ va_D A [(A_self, .inr (0, [.ref A_counters])), (A_counters, .inl (c 1, 6, .inl f_579))] := ⟨_, rfl, hP, hD⟩
        have cl_580 : (f_579 0).toInt = (f_569 0).toInt := by rw [ef_579]; rfl
        have cl_581 : (f_579 1).toInt = (f_569 1).toInt := by rw [ef_579]; rfl
        have cl_582 : (f_579 2).toInt = (f_569 2).toInt := by rw [ef_579]; rfl
        have cl_583 : (f_579 3).toInt = x_578.toInt := by rw [ef_579]; rfl
        have cl_584 : (f_579 4).toInt = (f_569 4).toInt := by rw [ef_579]; rfl
        have cl_585 : (f_579 5).toInt = (f_569 5).toInt := by rw [ef_579]; rfl
        refine lv_iinc (v := 3) (lv' := [(3, .int 3), (2, .int 4), (0, .ref A_self), (1, .int 2)]) hx hb dX0_bringDown_69 hl (k := 0) rfl (by decide) (by decide) rfl (fun ls hl => ?_)
        refine lv_goto (tgt := 36) hx hb dX0_bringDown_72 (by decide) ?_
        refine lv_iload_n hx hb dX0_bringDown_36 rfl (lv_at hl 0 rfl) ?_
        refine lv_iload_n hx hb dX0_bringDown_37 rfl (lv_at hl 3 rfl) ?_
        refine iicmp_leF (a := 3) (b := 2) (tgt := 75) hx hb (by decide) (by decide) dX0_bringDown_38 (by decide) (by decide) ?_
        refine lv_aload_n hx hb dX0_bringDown_41 rfl (lv_at hl 2 rfl) ?_
        refine va_get (D := D) (ci := 0) (v := .ref A_counters) (C := RX0) (T := TX0) (N := 1) hx hb hts (fun _ h => List.mem_cons_of_mem _ (List.mem_append_right _ h)) hown hK hP 0 rfl rfl 0 (by decide) (hts (.fieldLink RX0 9 "CrownTable$Cloth" "counters" "[I") (mem_i 1 rfl)) (fun _ h9 => h9) rfl dX0_bringDown_42 ?_
        refine lv_iload_n hx hb dX0_bringDown_45 rfl (lv_at hl 0 rfl) ?_
        refine lv_dup2_11 hx hb dX0_bringDown_46 rfl rfl ?_
        refine va_iald hx hb hK hP 1 1 rfl rfl (vin (a := 3) (by decide) (by decide) (by decide)) dX0_bringDown_47 ?_
        refine lv_topi (fun x_586 ex_586 => ?_)
        have lf_587 : (f_579 3).toInt = x_586.toInt := by rw [ex_586]; rfl
        refine lv_iconst (v := 1) hx hb dX0_bringDown_48 (by decide) ?_
        refine lv_isub hx hb dX0_bringDown_49 ?_
        refine lv_topi (fun x_588 ex_588 => ?_)
        have tx_588 : x_588.toInt = (x_586.toInt - 1) := by rw [ex_588]; exact sub_ti (a := x_586.toInt) (b := 1) rfl (by decide) (by omega) (by omega)
        refine va_iast hx hb hK hP hD hS 1 1 rfl rfl (vin (a := 3) (by decide) (by decide) (by decide)) dX0_bringDown_50 (fun H locs hP hD hS => ?_)
        obtain ⟨f_589, ef_589, hP, hD⟩ : ∃ f_589 : Nat → Int32, f_589 = upd f_579 (3 : Int32).toNatClampNeg x_588 ∧ va_P D vwCl [(A_self, .inr (0, [.ref A_counters])), (A_counters, .inl (c 1, 6, .inl f_589))] H ∧ va_D A [(A_self, .inr (0, [.ref A_counters])), (A_counters, .inl (c 1, 6, .inl f_589))] := ⟨_, rfl, hP, hD⟩
        have cl_590 : (f_589 0).toInt = (f_579 0).toInt := by rw [ef_589]; rfl
        have cl_591 : (f_589 1).toInt = (f_579 1).toInt := by rw [ef_589]; rfl
        have cl_592 : (f_589 2).toInt = (f_579 2).toInt := by rw [ef_589]; rfl
        have cl_593 : (f_589 3).toInt = x_588.toInt := by rw [ef_589]; rfl
        have cl_594 : (f_589 4).toInt = (f_579 4).toInt := by rw [ef_589]; rfl
        have cl_595 : (f_589 5).toInt = (f_579 5).toInt := by rw [ef_589]; rfl
        refine lv_aload_n hx hb dX0_bringDown_51 rfl (lv_at hl 2 rfl) ?_
        refine va_get (D := D) (ci := 0) (v := .ref A_counters) (C := RX0) (T := TX0) (N := 1) hx hb hts (fun _ h => List.mem_cons_of_mem _ (List.mem_append_right _ h)) hown hK hP 0 rfl rfl 0 (by decide) (hts (.fieldLink RX0 9 "CrownTable$Cloth" "counters" "[I") (mem_i 1 rfl)) (fun _ h9 => h9) rfl dX0_bringDown_52 ?_
        refine lv_iload_n hx hb dX0_bringDown_55 rfl (lv_at hl 0 rfl) ?_
        refine lv_iconst (v := 1) hx hb dX0_bringDown_56 (by decide) ?_
        refine lv_isub hx hb dX0_bringDown_57 ?_
        refine lk_i (y := 2) (by decide) ?_
        refine lv_dup2_11 hx hb dX0_bringDown_58 rfl rfl ?_
        refine va_iald hx hb hK hP 1 1 rfl rfl (vin (a := 2) (by decide) (by decide) (by decide)) dX0_bringDown_59 ?_
        refine lv_topi (fun x_596 ex_596 => ?_)
        have lf_597 : (f_589 2).toInt = x_596.toInt := by rw [ex_596]; rfl
        refine va_gets hx hb hSt.2.2.1 hS hown (hts (.fieldLink RX0 23 "CrownTable$Cloth" "OF_THE_NEXT" "[I") (mem_i 2 rfl)) (fun _ h9 => h9) dX0_bringDown_60 ?_
        refine lv_iload_n hx hb dX0_bringDown_63 rfl (lv_at hl 0 rfl) ?_
        refine lv_iconst (v := 1) hx hb dX0_bringDown_64 (by decide) ?_
        refine lv_isub hx hb dX0_bringDown_65 ?_
        refine lk_i (y := 2) (by decide) ?_
        refine va_ti (v := .int 20) hx hb hSt.2.2.2.1 hS (vin (a := 2) (by decide) (by decide) (by decide)) rfl dX0_bringDown_66 ?_
        refine lv_iadd hx hb dX0_bringDown_67 ?_
        refine lv_topi (fun x_598 ex_598 => ?_)
        have tx_598 : x_598.toInt = (x_596.toInt + 20) := by rw [ex_598]; exact add_ti (a := x_596.toInt) (b := 20) rfl (by decide) (by omega) (by omega)
        refine va_iast hx hb hK hP hD hS 1 1 rfl rfl (vin (a := 2) (by decide) (by decide) (by decide)) dX0_bringDown_68 (fun H locs hP hD hS => ?_)
        obtain ⟨f_599, ef_599, hP, hD⟩ : ∃ f_599 : Nat → Int32, f_599 = upd f_589 (2 : Int32).toNatClampNeg x_598 ∧ va_P D vwCl [(A_self, .inr (0, [.ref A_counters])), (A_counters, .inl (c 1, 6, .inl f_599))] H ∧ va_D A [(A_self, .inr (0, [.ref A_counters])), (A_counters, .inl (c 1, 6, .inl f_599))] := ⟨_, rfl, hP, hD⟩
        have cl_600 : (f_599 0).toInt = (f_589 0).toInt := by rw [ef_599]; rfl
        have cl_601 : (f_599 1).toInt = (f_589 1).toInt := by rw [ef_599]; rfl
        have cl_602 : (f_599 2).toInt = x_598.toInt := by rw [ef_599]; rfl
        have cl_603 : (f_599 3).toInt = (f_589 3).toInt := by rw [ef_599]; rfl
        have cl_604 : (f_599 4).toInt = (f_589 4).toInt := by rw [ef_599]; rfl
        have cl_605 : (f_599 5).toInt = (f_589 5).toInt := by rw [ef_599]; rfl
        refine lv_iinc (v := 2) (lv' := [(3, .int 2), (2, .int 4), (0, .ref A_self), (1, .int 2)]) hx hb dX0_bringDown_69 hl (k := 0) rfl (by decide) (by decide) rfl (fun ls hl => ?_)
        refine lv_goto (tgt := 36) hx hb dX0_bringDown_72 (by decide) ?_
        refine lv_iload_n hx hb dX0_bringDown_36 rfl (lv_at hl 0 rfl) ?_
        refine lv_iload_n hx hb dX0_bringDown_37 rfl (lv_at hl 3 rfl) ?_
        refine iicmp_leT (a := 2) (b := 2) (tgt := 75) hx hb (by decide) (by decide) dX0_bringDown_38 (by decide) (by decide) ?_
        refine lv_iload_n hx hb dX0_bringDown_75 rfl (lv_at hl 1 rfl) ?_
        refine lv_iload_n hx hb dX0_bringDown_76 rfl (lv_at hl 3 rfl) ?_
        refine lv_isub hx hb dX0_bringDown_77 ?_
        refine lk_i (y := 2) (by decide) ?_
        have kzz_606 : (2 : Int32).toInt = 2 := by decide
        have hP9 := hP.sub (ws' := [(A_self, .inr (0, [.ref A_counters])), (A_counters, .inl (c 1, 6, .inl f_599))]) [0, 1] rfl
        have hD9 := hD.sub (ws' := [(A_self, .inr (0, [.ref A_counters])), (A_counters, .inl (c 1, 6, .inl f_599))]) [0, 1] (by decide) rfl
        refine W.widen (k := 0) (n := 0) (by omega) (by omega) ?_
        exact W.iret (v := 2) hx hb hr (fun t ht hW => ⟨⟨_, (f_599, ()), rfl, (show BdI i_a1 (f_counters 0).toInt (f_counters 1).toInt (f_counters 2).toInt (f_counters 3).toInt (f_counters 4).toInt (f_counters 5).toInt (f_599 0).toInt (f_599 1).toInt (f_599 2).toInt (f_599 3).toInt (f_599 4).toInt (f_599 5).toInt (2 : Int32).toInt from (BdI.i2_1 hsp (by omega) (by omega) (by omega) (by omega) (by omega) (by omega) (by omega) (by omega) (by omega))), ⟨by rw [ht]; exact hP9, hD9⟩⟩, hS.F ht⟩) hS.2.2 dX0_bringDown_78
      · skip
        refine lv_iinc (v := 5) (lv' := [(2, .int 5), (0, .ref A_self), (1, .int 2)]) hx hb dX0_bringDown_20 hl (k := 0) rfl (by decide) (by decide) rfl (fun ls hl => ?_)
        refine lv_goto (tgt := 4) hx hb dX0_bringDown_23 (by decide) ?_
        refine lv_iload_n hx hb dX0_bringDown_4 rfl (lv_at hl 0 rfl) ?_
        refine lv_bipush (v := 6) hx hb dX0_bringDown_5 (by decide) ?_
        refine iicmp_geF (a := 5) (b := 6) (tgt := 26) hx hb (by decide) (by decide) dX0_bringDown_7 (by decide) (by decide) ?_
        refine lv_aload_n hx hb dX0_bringDown_10 rfl (lv_at hl 1 rfl) ?_
        refine va_get (D := D) (ci := 0) (v := .ref A_counters) (C := RX0) (T := TX0) (N := 1) hx hb hts (fun _ h => List.mem_cons_of_mem _ (List.mem_append_right _ h)) hown hK hP 0 rfl rfl 0 (by decide) (hts (.fieldLink RX0 9 "CrownTable$Cloth" "counters" "[I") (mem_i 1 rfl)) (fun _ h9 => h9) rfl dX0_bringDown_11 ?_
        refine lv_iload_n hx hb dX0_bringDown_14 rfl (lv_at hl 0 rfl) ?_
        refine va_iald hx hb hK hP 1 1 rfl rfl (vin (a := 5) (by decide) (by decide) (by decide)) dX0_bringDown_15 ?_
        refine lv_topi (fun x_607 ex_607 => ?_)
        have lf_608 : (f_counters 5).toInt = x_607.toInt := by rw [ex_607]; rfl
        refine lv_iconst (v := 1) hx hb dX0_bringDown_16 (by decide) ?_
        refine iicmp_ge (a := x_607.toInt) (b := 1) (tgt := 26) hx hb rfl (by decide) dX0_bringDown_17 (by decide) (fun k_609 => ?_) (fun k_609 => ?_)
        · skip
          refine lv_iload_n hx hb dX0_bringDown_26 rfl (lv_at hl 0 rfl) ?_
          refine lv_bipush (v := 6) hx hb dX0_bringDown_27 (by decide) ?_
          refine iicmp_ltT (a := 5) (b := 6) (tgt := 34) hx hb (by decide) (by decide) dX0_bringDown_29 (by decide) (by decide) ?_
          refine lv_iload_n hx hb dX0_bringDown_34 rfl (lv_at hl 0 rfl) ?_
          refine lv_istore_n (lv' := [(3, .int 5), (2, .int 5), (0, .ref A_self), (1, .int 2)]) hx hb dX0_bringDown_35 rfl hl (by decide) rfl (fun ls hl => ?_)
          refine lv_iload_n hx hb dX0_bringDown_36 rfl (lv_at hl 0 rfl) ?_
          refine lv_iload_n hx hb dX0_bringDown_37 rfl (lv_at hl 3 rfl) ?_
          refine iicmp_leF (a := 5) (b := 2) (tgt := 75) hx hb (by decide) (by decide) dX0_bringDown_38 (by decide) (by decide) ?_
          refine lv_aload_n hx hb dX0_bringDown_41 rfl (lv_at hl 2 rfl) ?_
          refine va_get (D := D) (ci := 0) (v := .ref A_counters) (C := RX0) (T := TX0) (N := 1) hx hb hts (fun _ h => List.mem_cons_of_mem _ (List.mem_append_right _ h)) hown hK hP 0 rfl rfl 0 (by decide) (hts (.fieldLink RX0 9 "CrownTable$Cloth" "counters" "[I") (mem_i 1 rfl)) (fun _ h9 => h9) rfl dX0_bringDown_42 ?_
          refine lv_iload_n hx hb dX0_bringDown_45 rfl (lv_at hl 0 rfl) ?_
          refine lv_dup2_11 hx hb dX0_bringDown_46 rfl rfl ?_
          refine va_iald hx hb hK hP 1 1 rfl rfl (vin (a := 5) (by decide) (by decide) (by decide)) dX0_bringDown_47 ?_
          refine lv_topi (fun x_610 ex_610 => ?_)
          have lf_611 : (f_counters 5).toInt = x_610.toInt := by rw [ex_610]; rfl
          refine lv_iconst (v := 1) hx hb dX0_bringDown_48 (by decide) ?_
          refine lv_isub hx hb dX0_bringDown_49 ?_
          refine lv_topi (fun x_612 ex_612 => ?_)
          have tx_612 : x_612.toInt = (x_610.toInt - 1) := by rw [ex_612]; exact sub_ti (a := x_610.toInt) (b := 1) rfl (by decide) (by omega) (by omega)
          refine va_iast hx hb hK hP hD hS 1 1 rfl rfl (vin (a := 5) (by decide) (by decide) (by decide)) dX0_bringDown_50 (fun H locs hP hD hS => ?_)
          obtain ⟨f_613, ef_613, hP, hD⟩ : ∃ f_613 : Nat → Int32, f_613 = upd f_counters (5 : Int32).toNatClampNeg x_612 ∧ va_P D vwCl [(A_self, .inr (0, [.ref A_counters])), (A_counters, .inl (c 1, 6, .inl f_613))] H ∧ va_D A [(A_self, .inr (0, [.ref A_counters])), (A_counters, .inl (c 1, 6, .inl f_613))] := ⟨_, rfl, hP, hD⟩
          have cl_614 : (f_613 0).toInt = (f_counters 0).toInt := by rw [ef_613]; rfl
          have cl_615 : (f_613 1).toInt = (f_counters 1).toInt := by rw [ef_613]; rfl
          have cl_616 : (f_613 2).toInt = (f_counters 2).toInt := by rw [ef_613]; rfl
          have cl_617 : (f_613 3).toInt = (f_counters 3).toInt := by rw [ef_613]; rfl
          have cl_618 : (f_613 4).toInt = (f_counters 4).toInt := by rw [ef_613]; rfl
          have cl_619 : (f_613 5).toInt = x_612.toInt := by rw [ef_613]; rfl
          refine lv_aload_n hx hb dX0_bringDown_51 rfl (lv_at hl 2 rfl) ?_
          refine va_get (D := D) (ci := 0) (v := .ref A_counters) (C := RX0) (T := TX0) (N := 1) hx hb hts (fun _ h => List.mem_cons_of_mem _ (List.mem_append_right _ h)) hown hK hP 0 rfl rfl 0 (by decide) (hts (.fieldLink RX0 9 "CrownTable$Cloth" "counters" "[I") (mem_i 1 rfl)) (fun _ h9 => h9) rfl dX0_bringDown_52 ?_
          refine lv_iload_n hx hb dX0_bringDown_55 rfl (lv_at hl 0 rfl) ?_
          refine lv_iconst (v := 1) hx hb dX0_bringDown_56 (by decide) ?_
          refine lv_isub hx hb dX0_bringDown_57 ?_
          refine lk_i (y := 4) (by decide) ?_
          refine lv_dup2_11 hx hb dX0_bringDown_58 rfl rfl ?_
          refine va_iald hx hb hK hP 1 1 rfl rfl (vin (a := 4) (by decide) (by decide) (by decide)) dX0_bringDown_59 ?_
          refine lv_topi (fun x_620 ex_620 => ?_)
          have lf_621 : (f_613 4).toInt = x_620.toInt := by rw [ex_620]; rfl
          refine va_gets hx hb hSt.2.2.1 hS hown (hts (.fieldLink RX0 23 "CrownTable$Cloth" "OF_THE_NEXT" "[I") (mem_i 2 rfl)) (fun _ h9 => h9) dX0_bringDown_60 ?_
          refine lv_iload_n hx hb dX0_bringDown_63 rfl (lv_at hl 0 rfl) ?_
          refine lv_iconst (v := 1) hx hb dX0_bringDown_64 (by decide) ?_
          refine lv_isub hx hb dX0_bringDown_65 ?_
          refine lk_i (y := 4) (by decide) ?_
          refine va_ti (v := .int 10) hx hb hSt.2.2.2.1 hS (vin (a := 4) (by decide) (by decide) (by decide)) rfl dX0_bringDown_66 ?_
          refine lv_iadd hx hb dX0_bringDown_67 ?_
          refine lv_topi (fun x_622 ex_622 => ?_)
          have tx_622 : x_622.toInt = (x_620.toInt + 10) := by rw [ex_622]; exact add_ti (a := x_620.toInt) (b := 10) rfl (by decide) (by omega) (by omega)
          refine va_iast hx hb hK hP hD hS 1 1 rfl rfl (vin (a := 4) (by decide) (by decide) (by decide)) dX0_bringDown_68 (fun H locs hP hD hS => ?_)
          obtain ⟨f_623, ef_623, hP, hD⟩ : ∃ f_623 : Nat → Int32, f_623 = upd f_613 (4 : Int32).toNatClampNeg x_622 ∧ va_P D vwCl [(A_self, .inr (0, [.ref A_counters])), (A_counters, .inl (c 1, 6, .inl f_623))] H ∧ va_D A [(A_self, .inr (0, [.ref A_counters])), (A_counters, .inl (c 1, 6, .inl f_623))] := ⟨_, rfl, hP, hD⟩
          have cl_624 : (f_623 0).toInt = (f_613 0).toInt := by rw [ef_623]; rfl
          have cl_625 : (f_623 1).toInt = (f_613 1).toInt := by rw [ef_623]; rfl
          have cl_626 : (f_623 2).toInt = (f_613 2).toInt := by rw [ef_623]; rfl
          have cl_627 : (f_623 3).toInt = (f_613 3).toInt := by rw [ef_623]; rfl
          have cl_628 : (f_623 4).toInt = x_622.toInt := by rw [ef_623]; rfl
          have cl_629 : (f_623 5).toInt = (f_613 5).toInt := by rw [ef_623]; rfl
          refine lv_iinc (v := 4) (lv' := [(3, .int 4), (2, .int 5), (0, .ref A_self), (1, .int 2)]) hx hb dX0_bringDown_69 hl (k := 0) rfl (by decide) (by decide) rfl (fun ls hl => ?_)
          refine lv_goto (tgt := 36) hx hb dX0_bringDown_72 (by decide) ?_
          refine lv_iload_n hx hb dX0_bringDown_36 rfl (lv_at hl 0 rfl) ?_
          refine lv_iload_n hx hb dX0_bringDown_37 rfl (lv_at hl 3 rfl) ?_
          refine iicmp_leF (a := 4) (b := 2) (tgt := 75) hx hb (by decide) (by decide) dX0_bringDown_38 (by decide) (by decide) ?_
          refine lv_aload_n hx hb dX0_bringDown_41 rfl (lv_at hl 2 rfl) ?_
          refine va_get (D := D) (ci := 0) (v := .ref A_counters) (C := RX0) (T := TX0) (N := 1) hx hb hts (fun _ h => List.mem_cons_of_mem _ (List.mem_append_right _ h)) hown hK hP 0 rfl rfl 0 (by decide) (hts (.fieldLink RX0 9 "CrownTable$Cloth" "counters" "[I") (mem_i 1 rfl)) (fun _ h9 => h9) rfl dX0_bringDown_42 ?_
          refine lv_iload_n hx hb dX0_bringDown_45 rfl (lv_at hl 0 rfl) ?_
          refine lv_dup2_11 hx hb dX0_bringDown_46 rfl rfl ?_
          refine va_iald hx hb hK hP 1 1 rfl rfl (vin (a := 4) (by decide) (by decide) (by decide)) dX0_bringDown_47 ?_
          refine lv_topi (fun x_630 ex_630 => ?_)
          have lf_631 : (f_623 4).toInt = x_630.toInt := by rw [ex_630]; rfl
          refine lv_iconst (v := 1) hx hb dX0_bringDown_48 (by decide) ?_
          refine lv_isub hx hb dX0_bringDown_49 ?_
          refine lv_topi (fun x_632 ex_632 => ?_)
          have tx_632 : x_632.toInt = (x_630.toInt - 1) := by rw [ex_632]; exact sub_ti (a := x_630.toInt) (b := 1) rfl (by decide) (by omega) (by omega)
          refine va_iast hx hb hK hP hD hS 1 1 rfl rfl (vin (a := 4) (by decide) (by decide) (by decide)) dX0_bringDown_50 (fun H locs hP hD hS => ?_)
          obtain ⟨f_633, ef_633, hP, hD⟩ : ∃ f_633 : Nat → Int32, f_633 = upd f_623 (4 : Int32).toNatClampNeg x_632 ∧ va_P D vwCl [(A_self, .inr (0, [.ref A_counters])), (A_counters, .inl (c 1, 6, .inl f_633))] H ∧ va_D A [(A_self, .inr (0, [.ref A_counters])), (A_counters, .inl (c 1, 6, .inl f_633))] := ⟨_, rfl, hP, hD⟩
          have cl_634 : (f_633 0).toInt = (f_623 0).toInt := by rw [ef_633]; rfl
          have cl_635 : (f_633 1).toInt = (f_623 1).toInt := by rw [ef_633]; rfl
          have cl_636 : (f_633 2).toInt = (f_623 2).toInt := by rw [ef_633]; rfl
          have cl_637 : (f_633 3).toInt = (f_623 3).toInt := by rw [ef_633]; rfl
          have cl_638 : (f_633 4).toInt = x_632.toInt := by rw [ef_633]; rfl
          have cl_639 : (f_633 5).toInt = (f_623 5).toInt := by rw [ef_633]; rfl
          refine lv_aload_n hx hb dX0_bringDown_51 rfl (lv_at hl 2 rfl) ?_
          refine va_get (D := D) (ci := 0) (v := .ref A_counters) (C := RX0) (T := TX0) (N := 1) hx hb hts (fun _ h => List.mem_cons_of_mem _ (List.mem_append_right _ h)) hown hK hP 0 rfl rfl 0 (by decide) (hts (.fieldLink RX0 9 "CrownTable$Cloth" "counters" "[I") (mem_i 1 rfl)) (fun _ h9 => h9) rfl dX0_bringDown_52 ?_
          refine lv_iload_n hx hb dX0_bringDown_55 rfl (lv_at hl 0 rfl) ?_
          refine lv_iconst (v := 1) hx hb dX0_bringDown_56 (by decide) ?_
          refine lv_isub hx hb dX0_bringDown_57 ?_
          refine lk_i (y := 3) (by decide) ?_
          refine lv_dup2_11 hx hb dX0_bringDown_58 rfl rfl ?_
          refine va_iald hx hb hK hP 1 1 rfl rfl (vin (a := 3) (by decide) (by decide) (by decide)) dX0_bringDown_59 ?_
          refine lv_topi (fun x_640 ex_640 => ?_)
          have lf_641 : (f_633 3).toInt = x_640.toInt := by rw [ex_640]; rfl
          refine va_gets hx hb hSt.2.2.1 hS hown (hts (.fieldLink RX0 23 "CrownTable$Cloth" "OF_THE_NEXT" "[I") (mem_i 2 rfl)) (fun _ h9 => h9) dX0_bringDown_60 ?_
          refine lv_iload_n hx hb dX0_bringDown_63 rfl (lv_at hl 0 rfl) ?_
          refine lv_iconst (v := 1) hx hb dX0_bringDown_64 (by decide) ?_
          refine lv_isub hx hb dX0_bringDown_65 ?_
          refine lk_i (y := 3) (by decide) ?_
          refine va_ti (v := .int 5) hx hb hSt.2.2.2.1 hS (vin (a := 3) (by decide) (by decide) (by decide)) rfl dX0_bringDown_66 ?_
          refine lv_iadd hx hb dX0_bringDown_67 ?_
          refine lv_topi (fun x_642 ex_642 => ?_)
          have tx_642 : x_642.toInt = (x_640.toInt + 5) := by rw [ex_642]; exact add_ti (a := x_640.toInt) (b := 5) rfl (by decide) (by omega) (by omega)
          refine va_iast hx hb hK hP hD hS 1 1 rfl rfl (vin (a := 3) (by decide) (by decide) (by decide)) dX0_bringDown_68 (fun H locs hP hD hS => ?_)
          obtain ⟨f_643, ef_643, hP, hD⟩ : ∃ f_643 : Nat → Int32, f_643 = upd f_633 (3 : Int32).toNatClampNeg x_642 ∧ va_P D vwCl [(A_self, .inr (0, [.ref A_counters])), (A_counters, .inl (c 1, 6, .inl f_643))] H ∧ va_D A [(A_self, .inr (0, [.ref A_counters])), (A_counters, .inl (c 1, 6, .inl f_643))] := ⟨_, rfl, hP, hD⟩
          have cl_644 : (f_643 0).toInt = (f_633 0).toInt := by rw [ef_643]; rfl
          have cl_645 : (f_643 1).toInt = (f_633 1).toInt := by rw [ef_643]; rfl
          have cl_646 : (f_643 2).toInt = (f_633 2).toInt := by rw [ef_643]; rfl
          have cl_647 : (f_643 3).toInt = x_642.toInt := by rw [ef_643]; rfl
          have cl_648 : (f_643 4).toInt = (f_633 4).toInt := by rw [ef_643]; rfl
          have cl_649 : (f_643 5).toInt = (f_633 5).toInt := by rw [ef_643]; rfl
          refine lv_iinc (v := 3) (lv' := [(3, .int 3), (2, .int 5), (0, .ref A_self), (1, .int 2)]) hx hb dX0_bringDown_69 hl (k := 0) rfl (by decide) (by decide) rfl (fun ls hl => ?_)
          refine lv_goto (tgt := 36) hx hb dX0_bringDown_72 (by decide) ?_
          refine lv_iload_n hx hb dX0_bringDown_36 rfl (lv_at hl 0 rfl) ?_
          refine lv_iload_n hx hb dX0_bringDown_37 rfl (lv_at hl 3 rfl) ?_
          refine iicmp_leF (a := 3) (b := 2) (tgt := 75) hx hb (by decide) (by decide) dX0_bringDown_38 (by decide) (by decide) ?_
          refine lv_aload_n hx hb dX0_bringDown_41 rfl (lv_at hl 2 rfl) ?_
          refine va_get (D := D) (ci := 0) (v := .ref A_counters) (C := RX0) (T := TX0) (N := 1) hx hb hts (fun _ h => List.mem_cons_of_mem _ (List.mem_append_right _ h)) hown hK hP 0 rfl rfl 0 (by decide) (hts (.fieldLink RX0 9 "CrownTable$Cloth" "counters" "[I") (mem_i 1 rfl)) (fun _ h9 => h9) rfl dX0_bringDown_42 ?_
          refine lv_iload_n hx hb dX0_bringDown_45 rfl (lv_at hl 0 rfl) ?_
          refine lv_dup2_11 hx hb dX0_bringDown_46 rfl rfl ?_
          refine va_iald hx hb hK hP 1 1 rfl rfl (vin (a := 3) (by decide) (by decide) (by decide)) dX0_bringDown_47 ?_
          refine lv_topi (fun x_650 ex_650 => ?_)
          have lf_651 : (f_643 3).toInt = x_650.toInt := by rw [ex_650]; rfl
          refine lv_iconst (v := 1) hx hb dX0_bringDown_48 (by decide) ?_
          refine lv_isub hx hb dX0_bringDown_49 ?_
          refine lv_topi (fun x_652 ex_652 => ?_)
          have tx_652 : x_652.toInt = (x_650.toInt - 1) := by rw [ex_652]; exact sub_ti (a := x_650.toInt) (b := 1) rfl (by decide) (by omega) (by omega)
          refine va_iast hx hb hK hP hD hS 1 1 rfl rfl (vin (a := 3) (by decide) (by decide) (by decide)) dX0_bringDown_50 (fun H locs hP hD hS => ?_)
          obtain ⟨f_653, ef_653, hP, hD⟩ : ∃ f_653 : Nat → Int32, f_653 = upd f_643 (3 : Int32).toNatClampNeg x_652 ∧ va_P D vwCl [(A_self, .inr (0, [.ref A_counters])), (A_counters, .inl (c 1, 6, .inl f_653))] H ∧ va_D A [(A_self, .inr (0, [.ref A_counters])), (A_counters, .inl (c 1, 6, .inl f_653))] := ⟨_, rfl, hP, hD⟩
          have cl_654 : (f_653 0).toInt = (f_643 0).toInt := by rw [ef_653]; rfl
          have cl_655 : (f_653 1).toInt = (f_643 1).toInt := by rw [ef_653]; rfl
          have cl_656 : (f_653 2).toInt = (f_643 2).toInt := by rw [ef_653]; rfl
          have cl_657 : (f_653 3).toInt = x_652.toInt := by rw [ef_653]; rfl
          have cl_658 : (f_653 4).toInt = (f_643 4).toInt := by rw [ef_653]; rfl
          have cl_659 : (f_653 5).toInt = (f_643 5).toInt := by rw [ef_653]; rfl
          refine lv_aload_n hx hb dX0_bringDown_51 rfl (lv_at hl 2 rfl) ?_
          refine va_get (D := D) (ci := 0) (v := .ref A_counters) (C := RX0) (T := TX0) (N := 1) hx hb hts (fun _ h => List.mem_cons_of_mem _ (List.mem_append_right _ h)) hown hK hP 0 rfl rfl 0 (by decide) (hts (.fieldLink RX0 9 "CrownTable$Cloth" "counters" "[I") (mem_i 1 rfl)) (fun _ h9 => h9) rfl dX0_bringDown_52 ?_
          refine lv_iload_n hx hb dX0_bringDown_55 rfl (lv_at hl 0 rfl) ?_
          refine lv_iconst (v := 1) hx hb dX0_bringDown_56 (by decide) ?_
          refine lv_isub hx hb dX0_bringDown_57 ?_
          refine lk_i (y := 2) (by decide) ?_
          refine lv_dup2_11 hx hb dX0_bringDown_58 rfl rfl ?_
          refine va_iald hx hb hK hP 1 1 rfl rfl (vin (a := 2) (by decide) (by decide) (by decide)) dX0_bringDown_59 ?_
          refine lv_topi (fun x_660 ex_660 => ?_)
          have lf_661 : (f_653 2).toInt = x_660.toInt := by rw [ex_660]; rfl
          refine va_gets hx hb hSt.2.2.1 hS hown (hts (.fieldLink RX0 23 "CrownTable$Cloth" "OF_THE_NEXT" "[I") (mem_i 2 rfl)) (fun _ h9 => h9) dX0_bringDown_60 ?_
          refine lv_iload_n hx hb dX0_bringDown_63 rfl (lv_at hl 0 rfl) ?_
          refine lv_iconst (v := 1) hx hb dX0_bringDown_64 (by decide) ?_
          refine lv_isub hx hb dX0_bringDown_65 ?_
          refine lk_i (y := 2) (by decide) ?_
          refine va_ti (v := .int 20) hx hb hSt.2.2.2.1 hS (vin (a := 2) (by decide) (by decide) (by decide)) rfl dX0_bringDown_66 ?_
          refine lv_iadd hx hb dX0_bringDown_67 ?_
          refine lv_topi (fun x_662 ex_662 => ?_)
          have tx_662 : x_662.toInt = (x_660.toInt + 20) := by rw [ex_662]; exact add_ti (a := x_660.toInt) (b := 20) rfl (by decide) (by omega) (by omega)
          refine va_iast hx hb hK hP hD hS 1 1 rfl rfl (vin (a := 2) (by decide) (by decide) (by decide)) dX0_bringDown_68 (fun H locs hP hD hS => ?_)
          obtain ⟨f_663, ef_663, hP, hD⟩ : ∃ f_663 : Nat → Int32, f_663 = upd f_653 (2 : Int32).toNatClampNeg x_662 ∧ va_P D vwCl [(A_self, .inr (0, [.ref A_counters])), (A_counters, .inl (c 1, 6, .inl f_663))] H ∧ va_D A [(A_self, .inr (0, [.ref A_counters])), (A_counters, .inl (c 1, 6, .inl f_663))] := ⟨_, rfl, hP, hD⟩
          have cl_664 : (f_663 0).toInt = (f_653 0).toInt := by rw [ef_663]; rfl
          have cl_665 : (f_663 1).toInt = (f_653 1).toInt := by rw [ef_663]; rfl
          have cl_666 : (f_663 2).toInt = x_662.toInt := by rw [ef_663]; rfl
          have cl_667 : (f_663 3).toInt = (f_653 3).toInt := by rw [ef_663]; rfl
          have cl_668 : (f_663 4).toInt = (f_653 4).toInt := by rw [ef_663]; rfl
          have cl_669 : (f_663 5).toInt = (f_653 5).toInt := by rw [ef_663]; rfl
          refine lv_iinc (v := 2) (lv' := [(3, .int 2), (2, .int 5), (0, .ref A_self), (1, .int 2)]) hx hb dX0_bringDown_69 hl (k := 0) rfl (by decide) (by decide) rfl (fun ls hl => ?_)
          refine lv_goto (tgt := 36) hx hb dX0_bringDown_72 (by decide) ?_
          refine lv_iload_n hx hb dX0_bringDown_36 rfl (lv_at hl 0 rfl) ?_
          refine lv_iload_n hx hb dX0_bringDown_37 rfl (lv_at hl 3 rfl) ?_
          refine iicmp_leT (a := 2) (b := 2) (tgt := 75) hx hb (by decide) (by decide) dX0_bringDown_38 (by decide) (by decide) ?_
          refine lv_iload_n hx hb dX0_bringDown_75 rfl (lv_at hl 1 rfl) ?_
          refine lv_iload_n hx hb dX0_bringDown_76 rfl (lv_at hl 3 rfl) ?_
          refine lv_isub hx hb dX0_bringDown_77 ?_
          refine lk_i (y := 3) (by decide) ?_
          have kzz_670 : (3 : Int32).toInt = 3 := by decide
          have hP9 := hP.sub (ws' := [(A_self, .inr (0, [.ref A_counters])), (A_counters, .inl (c 1, 6, .inl f_663))]) [0, 1] rfl
          have hD9 := hD.sub (ws' := [(A_self, .inr (0, [.ref A_counters])), (A_counters, .inl (c 1, 6, .inl f_663))]) [0, 1] (by decide) rfl
          refine W.widen (k := 0) (n := 0) (by omega) (by omega) ?_
          exact W.iret (v := 3) hx hb hr (fun t ht hW => ⟨⟨_, (f_663, ()), rfl, (show BdI i_a1 (f_counters 0).toInt (f_counters 1).toInt (f_counters 2).toInt (f_counters 3).toInt (f_counters 4).toInt (f_counters 5).toInt (f_663 0).toInt (f_663 1).toInt (f_663 2).toInt (f_663 3).toInt (f_663 4).toInt (f_663 5).toInt (3 : Int32).toInt from (BdI.i2_2 hsp (by omega) (by omega) (by omega) (by omega) (by omega) (by omega) (by omega) (by omega) (by omega) (by omega))), ⟨by rw [ht]; exact hP9, hD9⟩⟩, hS.F ht⟩) hS.2.2 dX0_bringDown_78
        · skip
          refine lv_iinc (v := 6) (lv' := [(2, .int 6), (0, .ref A_self), (1, .int 2)]) hx hb dX0_bringDown_20 hl (k := 0) rfl (by decide) (by decide) rfl (fun ls hl => ?_)
          refine lv_goto (tgt := 4) hx hb dX0_bringDown_23 (by decide) ?_
          refine lv_iload_n hx hb dX0_bringDown_4 rfl (lv_at hl 0 rfl) ?_
          refine lv_bipush (v := 6) hx hb dX0_bringDown_5 (by decide) ?_
          refine iicmp_geT (a := 6) (b := 6) (tgt := 26) hx hb (by decide) (by decide) dX0_bringDown_7 (by decide) (by decide) ?_
          refine lv_iload_n hx hb dX0_bringDown_26 rfl (lv_at hl 0 rfl) ?_
          refine lv_bipush (v := 6) hx hb dX0_bringDown_27 (by decide) ?_
          refine iicmp_ltF (a := 6) (b := 6) (tgt := 34) hx hb (by decide) (by decide) dX0_bringDown_29 (by decide) (by decide) ?_
          refine lv_iconst (v := 0) hx hb dX0_bringDown_32 (by decide) ?_
          have kzz_671 : (0 : Int32).toInt = 0 := by decide
          have hP9 := hP.sub (ws' := [(A_self, .inr (0, [.ref A_counters])), (A_counters, .inl (c 1, 6, .inl f_counters))]) [0, 1] rfl
          have hD9 := hD.sub (ws' := [(A_self, .inr (0, [.ref A_counters])), (A_counters, .inl (c 1, 6, .inl f_counters))]) [0, 1] (by decide) rfl
          refine W.widen (k := 0) (n := 0) (by omega) (by omega) ?_
          exact W.iret (v := 0) hx hb hr (fun t ht hW => ⟨⟨_, (f_counters, ()), rfl, (show BdI i_a1 (f_counters 0).toInt (f_counters 1).toInt (f_counters 2).toInt (f_counters 3).toInt (f_counters 4).toInt (f_counters 5).toInt (f_counters 0).toInt (f_counters 1).toInt (f_counters 2).toInt (f_counters 3).toInt (f_counters 4).toInt (f_counters 5).toInt (0 : Int32).toInt from (BdI.i2_3 hsp (by omega) (by omega) (by omega) (by omega) (by omega) (by omega) (by omega) (by omega) (by omega) (by omega))), ⟨by rw [ht]; exact hP9, hD9⟩⟩, hS.F ht⟩) hS.2.2 dX0_bringDown_33
  · skip
    obtain rfl : a1 = 3 := Int32.toInt_inj.mp (by rw [hi_a1, hsp]; rfl)
    have hl : lv_has ls 4 [(0, .ref A_self), (1, .int 3)] := hl
    refine lv_iload_n hx hb dX0_bringDown_0 rfl (lv_at hl 1 rfl) ?_
    refine lv_iconst (v := 1) hx hb dX0_bringDown_1 (by decide) ?_
    refine lv_iadd hx hb dX0_bringDown_2 ?_
    refine lk_i (y := 4) (by decide) ?_
    refine lv_istore_n (lv' := [(2, .int 4), (0, .ref A_self), (1, .int 3)]) hx hb dX0_bringDown_3 rfl hl (by decide) rfl (fun ls hl => ?_)
    refine lv_iload_n hx hb dX0_bringDown_4 rfl (lv_at hl 0 rfl) ?_
    refine lv_bipush (v := 6) hx hb dX0_bringDown_5 (by decide) ?_
    refine iicmp_geF (a := 4) (b := 6) (tgt := 26) hx hb (by decide) (by decide) dX0_bringDown_7 (by decide) (by decide) ?_
    refine lv_aload_n hx hb dX0_bringDown_10 rfl (lv_at hl 1 rfl) ?_
    refine va_get (D := D) (ci := 0) (v := .ref A_counters) (C := RX0) (T := TX0) (N := 1) hx hb hts (fun _ h => List.mem_cons_of_mem _ (List.mem_append_right _ h)) hown hK hP 0 rfl rfl 0 (by decide) (hts (.fieldLink RX0 9 "CrownTable$Cloth" "counters" "[I") (mem_i 1 rfl)) (fun _ h9 => h9) rfl dX0_bringDown_11 ?_
    refine lv_iload_n hx hb dX0_bringDown_14 rfl (lv_at hl 0 rfl) ?_
    refine va_iald hx hb hK hP 1 1 rfl rfl (vin (a := 4) (by decide) (by decide) (by decide)) dX0_bringDown_15 ?_
    refine lv_topi (fun x_672 ex_672 => ?_)
    have lf_673 : (f_counters 4).toInt = x_672.toInt := by rw [ex_672]; rfl
    refine lv_iconst (v := 1) hx hb dX0_bringDown_16 (by decide) ?_
    refine iicmp_ge (a := x_672.toInt) (b := 1) (tgt := 26) hx hb rfl (by decide) dX0_bringDown_17 (by decide) (fun k_674 => ?_) (fun k_674 => ?_)
    · skip
      refine lv_iload_n hx hb dX0_bringDown_26 rfl (lv_at hl 0 rfl) ?_
      refine lv_bipush (v := 6) hx hb dX0_bringDown_27 (by decide) ?_
      refine iicmp_ltT (a := 4) (b := 6) (tgt := 34) hx hb (by decide) (by decide) dX0_bringDown_29 (by decide) (by decide) ?_
      refine lv_iload_n hx hb dX0_bringDown_34 rfl (lv_at hl 0 rfl) ?_
      refine lv_istore_n (lv' := [(3, .int 4), (2, .int 4), (0, .ref A_self), (1, .int 3)]) hx hb dX0_bringDown_35 rfl hl (by decide) rfl (fun ls hl => ?_)
      refine lv_iload_n hx hb dX0_bringDown_36 rfl (lv_at hl 0 rfl) ?_
      refine lv_iload_n hx hb dX0_bringDown_37 rfl (lv_at hl 3 rfl) ?_
      refine iicmp_leF (a := 4) (b := 3) (tgt := 75) hx hb (by decide) (by decide) dX0_bringDown_38 (by decide) (by decide) ?_
      refine lv_aload_n hx hb dX0_bringDown_41 rfl (lv_at hl 2 rfl) ?_
      refine va_get (D := D) (ci := 0) (v := .ref A_counters) (C := RX0) (T := TX0) (N := 1) hx hb hts (fun _ h => List.mem_cons_of_mem _ (List.mem_append_right _ h)) hown hK hP 0 rfl rfl 0 (by decide) (hts (.fieldLink RX0 9 "CrownTable$Cloth" "counters" "[I") (mem_i 1 rfl)) (fun _ h9 => h9) rfl dX0_bringDown_42 ?_
      refine lv_iload_n hx hb dX0_bringDown_45 rfl (lv_at hl 0 rfl) ?_
      refine lv_dup2_11 hx hb dX0_bringDown_46 rfl rfl ?_
      refine va_iald hx hb hK hP 1 1 rfl rfl (vin (a := 4) (by decide) (by decide) (by decide)) dX0_bringDown_47 ?_
      refine lv_topi (fun x_675 ex_675 => ?_)
      have lf_676 : (f_counters 4).toInt = x_675.toInt := by rw [ex_675]; rfl
      refine lv_iconst (v := 1) hx hb dX0_bringDown_48 (by decide) ?_
      refine lv_isub hx hb dX0_bringDown_49 ?_
      refine lv_topi (fun x_677 ex_677 => ?_)
      have tx_677 : x_677.toInt = (x_675.toInt - 1) := by rw [ex_677]; exact sub_ti (a := x_675.toInt) (b := 1) rfl (by decide) (by omega) (by omega)
      refine va_iast hx hb hK hP hD hS 1 1 rfl rfl (vin (a := 4) (by decide) (by decide) (by decide)) dX0_bringDown_50 (fun H locs hP hD hS => ?_)
      obtain ⟨f_678, ef_678, hP, hD⟩ : ∃ f_678 : Nat → Int32, f_678 = upd f_counters (4 : Int32).toNatClampNeg x_677 ∧ va_P D vwCl [(A_self, .inr (0, [.ref A_counters])), (A_counters, .inl (c 1, 6, .inl f_678))] H ∧ va_D A [(A_self, .inr (0, [.ref A_counters])), (A_counters, .inl (c 1, 6, .inl f_678))] := ⟨_, rfl, hP, hD⟩
      have cl_679 : (f_678 0).toInt = (f_counters 0).toInt := by rw [ef_678]; rfl
      have cl_680 : (f_678 1).toInt = (f_counters 1).toInt := by rw [ef_678]; rfl
      have cl_681 : (f_678 2).toInt = (f_counters 2).toInt := by rw [ef_678]; rfl
      have cl_682 : (f_678 3).toInt = (f_counters 3).toInt := by rw [ef_678]; rfl
      have cl_683 : (f_678 4).toInt = x_677.toInt := by rw [ef_678]; rfl
      have cl_684 : (f_678 5).toInt = (f_counters 5).toInt := by rw [ef_678]; rfl
      refine lv_aload_n hx hb dX0_bringDown_51 rfl (lv_at hl 2 rfl) ?_
      refine va_get (D := D) (ci := 0) (v := .ref A_counters) (C := RX0) (T := TX0) (N := 1) hx hb hts (fun _ h => List.mem_cons_of_mem _ (List.mem_append_right _ h)) hown hK hP 0 rfl rfl 0 (by decide) (hts (.fieldLink RX0 9 "CrownTable$Cloth" "counters" "[I") (mem_i 1 rfl)) (fun _ h9 => h9) rfl dX0_bringDown_52 ?_
      refine lv_iload_n hx hb dX0_bringDown_55 rfl (lv_at hl 0 rfl) ?_
      refine lv_iconst (v := 1) hx hb dX0_bringDown_56 (by decide) ?_
      refine lv_isub hx hb dX0_bringDown_57 ?_
      refine lk_i (y := 3) (by decide) ?_
      refine lv_dup2_11 hx hb dX0_bringDown_58 rfl rfl ?_
      refine va_iald hx hb hK hP 1 1 rfl rfl (vin (a := 3) (by decide) (by decide) (by decide)) dX0_bringDown_59 ?_
      refine lv_topi (fun x_685 ex_685 => ?_)
      have lf_686 : (f_678 3).toInt = x_685.toInt := by rw [ex_685]; rfl
      refine va_gets hx hb hSt.2.2.1 hS hown (hts (.fieldLink RX0 23 "CrownTable$Cloth" "OF_THE_NEXT" "[I") (mem_i 2 rfl)) (fun _ h9 => h9) dX0_bringDown_60 ?_
      refine lv_iload_n hx hb dX0_bringDown_63 rfl (lv_at hl 0 rfl) ?_
      refine lv_iconst (v := 1) hx hb dX0_bringDown_64 (by decide) ?_
      refine lv_isub hx hb dX0_bringDown_65 ?_
      refine lk_i (y := 3) (by decide) ?_
      refine va_ti (v := .int 5) hx hb hSt.2.2.2.1 hS (vin (a := 3) (by decide) (by decide) (by decide)) rfl dX0_bringDown_66 ?_
      refine lv_iadd hx hb dX0_bringDown_67 ?_
      refine lv_topi (fun x_687 ex_687 => ?_)
      have tx_687 : x_687.toInt = (x_685.toInt + 5) := by rw [ex_687]; exact add_ti (a := x_685.toInt) (b := 5) rfl (by decide) (by omega) (by omega)
      refine va_iast hx hb hK hP hD hS 1 1 rfl rfl (vin (a := 3) (by decide) (by decide) (by decide)) dX0_bringDown_68 (fun H locs hP hD hS => ?_)
      obtain ⟨f_688, ef_688, hP, hD⟩ : ∃ f_688 : Nat → Int32, f_688 = upd f_678 (3 : Int32).toNatClampNeg x_687 ∧ va_P D vwCl [(A_self, .inr (0, [.ref A_counters])), (A_counters, .inl (c 1, 6, .inl f_688))] H ∧ va_D A [(A_self, .inr (0, [.ref A_counters])), (A_counters, .inl (c 1, 6, .inl f_688))] := ⟨_, rfl, hP, hD⟩
      have cl_689 : (f_688 0).toInt = (f_678 0).toInt := by rw [ef_688]; rfl
      have cl_690 : (f_688 1).toInt = (f_678 1).toInt := by rw [ef_688]; rfl
      have cl_691 : (f_688 2).toInt = (f_678 2).toInt := by rw [ef_688]; rfl
      have cl_692 : (f_688 3).toInt = x_687.toInt := by rw [ef_688]; rfl
      have cl_693 : (f_688 4).toInt = (f_678 4).toInt := by rw [ef_688]; rfl
      have cl_694 : (f_688 5).toInt = (f_678 5).toInt := by rw [ef_688]; rfl
      refine lv_iinc (v := 3) (lv' := [(3, .int 3), (2, .int 4), (0, .ref A_self), (1, .int 3)]) hx hb dX0_bringDown_69 hl (k := 0) rfl (by decide) (by decide) rfl (fun ls hl => ?_)
      refine lv_goto (tgt := 36) hx hb dX0_bringDown_72 (by decide) ?_
      refine lv_iload_n hx hb dX0_bringDown_36 rfl (lv_at hl 0 rfl) ?_
      refine lv_iload_n hx hb dX0_bringDown_37 rfl (lv_at hl 3 rfl) ?_
      refine iicmp_leT (a := 3) (b := 3) (tgt := 75) hx hb (by decide) (by decide) dX0_bringDown_38 (by decide) (by decide) ?_
      refine lv_iload_n hx hb dX0_bringDown_75 rfl (lv_at hl 1 rfl) ?_
      refine lv_iload_n hx hb dX0_bringDown_76 rfl (lv_at hl 3 rfl) ?_
      refine lv_isub hx hb dX0_bringDown_77 ?_
      refine lk_i (y := 1) (by decide) ?_
      have kzz_695 : (1 : Int32).toInt = 1 := by decide
      have hP9 := hP.sub (ws' := [(A_self, .inr (0, [.ref A_counters])), (A_counters, .inl (c 1, 6, .inl f_688))]) [0, 1] rfl
      have hD9 := hD.sub (ws' := [(A_self, .inr (0, [.ref A_counters])), (A_counters, .inl (c 1, 6, .inl f_688))]) [0, 1] (by decide) rfl
      refine W.widen (k := 0) (n := 0) (by omega) (by omega) ?_
      exact W.iret (v := 1) hx hb hr (fun t ht hW => ⟨⟨_, (f_688, ()), rfl, (show BdI i_a1 (f_counters 0).toInt (f_counters 1).toInt (f_counters 2).toInt (f_counters 3).toInt (f_counters 4).toInt (f_counters 5).toInt (f_688 0).toInt (f_688 1).toInt (f_688 2).toInt (f_688 3).toInt (f_688 4).toInt (f_688 5).toInt (1 : Int32).toInt from (BdI.i3_0 hsp (by omega) (by omega) (by omega) (by omega) (by omega) (by omega) (by omega) (by omega))), ⟨by rw [ht]; exact hP9, hD9⟩⟩, hS.F ht⟩) hS.2.2 dX0_bringDown_78
    · skip
      refine lv_iinc (v := 5) (lv' := [(2, .int 5), (0, .ref A_self), (1, .int 3)]) hx hb dX0_bringDown_20 hl (k := 0) rfl (by decide) (by decide) rfl (fun ls hl => ?_)
      refine lv_goto (tgt := 4) hx hb dX0_bringDown_23 (by decide) ?_
      refine lv_iload_n hx hb dX0_bringDown_4 rfl (lv_at hl 0 rfl) ?_
      refine lv_bipush (v := 6) hx hb dX0_bringDown_5 (by decide) ?_
      refine iicmp_geF (a := 5) (b := 6) (tgt := 26) hx hb (by decide) (by decide) dX0_bringDown_7 (by decide) (by decide) ?_
      refine lv_aload_n hx hb dX0_bringDown_10 rfl (lv_at hl 1 rfl) ?_
      refine va_get (D := D) (ci := 0) (v := .ref A_counters) (C := RX0) (T := TX0) (N := 1) hx hb hts (fun _ h => List.mem_cons_of_mem _ (List.mem_append_right _ h)) hown hK hP 0 rfl rfl 0 (by decide) (hts (.fieldLink RX0 9 "CrownTable$Cloth" "counters" "[I") (mem_i 1 rfl)) (fun _ h9 => h9) rfl dX0_bringDown_11 ?_
      refine lv_iload_n hx hb dX0_bringDown_14 rfl (lv_at hl 0 rfl) ?_
      refine va_iald hx hb hK hP 1 1 rfl rfl (vin (a := 5) (by decide) (by decide) (by decide)) dX0_bringDown_15 ?_
      refine lv_topi (fun x_696 ex_696 => ?_)
      have lf_697 : (f_counters 5).toInt = x_696.toInt := by rw [ex_696]; rfl
      refine lv_iconst (v := 1) hx hb dX0_bringDown_16 (by decide) ?_
      refine iicmp_ge (a := x_696.toInt) (b := 1) (tgt := 26) hx hb rfl (by decide) dX0_bringDown_17 (by decide) (fun k_698 => ?_) (fun k_698 => ?_)
      · skip
        refine lv_iload_n hx hb dX0_bringDown_26 rfl (lv_at hl 0 rfl) ?_
        refine lv_bipush (v := 6) hx hb dX0_bringDown_27 (by decide) ?_
        refine iicmp_ltT (a := 5) (b := 6) (tgt := 34) hx hb (by decide) (by decide) dX0_bringDown_29 (by decide) (by decide) ?_
        refine lv_iload_n hx hb dX0_bringDown_34 rfl (lv_at hl 0 rfl) ?_
        refine lv_istore_n (lv' := [(3, .int 5), (2, .int 5), (0, .ref A_self), (1, .int 3)]) hx hb dX0_bringDown_35 rfl hl (by decide) rfl (fun ls hl => ?_)
        refine lv_iload_n hx hb dX0_bringDown_36 rfl (lv_at hl 0 rfl) ?_
        refine lv_iload_n hx hb dX0_bringDown_37 rfl (lv_at hl 3 rfl) ?_
        refine iicmp_leF (a := 5) (b := 3) (tgt := 75) hx hb (by decide) (by decide) dX0_bringDown_38 (by decide) (by decide) ?_
        refine lv_aload_n hx hb dX0_bringDown_41 rfl (lv_at hl 2 rfl) ?_
        refine va_get (D := D) (ci := 0) (v := .ref A_counters) (C := RX0) (T := TX0) (N := 1) hx hb hts (fun _ h => List.mem_cons_of_mem _ (List.mem_append_right _ h)) hown hK hP 0 rfl rfl 0 (by decide) (hts (.fieldLink RX0 9 "CrownTable$Cloth" "counters" "[I") (mem_i 1 rfl)) (fun _ h9 => h9) rfl dX0_bringDown_42 ?_
        refine lv_iload_n hx hb dX0_bringDown_45 rfl (lv_at hl 0 rfl) ?_
        refine lv_dup2_11 hx hb dX0_bringDown_46 rfl rfl ?_
        refine va_iald hx hb hK hP 1 1 rfl rfl (vin (a := 5) (by decide) (by decide) (by decide)) dX0_bringDown_47 ?_
        refine lv_topi (fun x_699 ex_699 => ?_)
        have lf_700 : (f_counters 5).toInt = x_699.toInt := by rw [ex_699]; rfl
        refine lv_iconst (v := 1) hx hb dX0_bringDown_48 (by decide) ?_
        refine lv_isub hx hb dX0_bringDown_49 ?_
        refine lv_topi (fun x_701 ex_701 => ?_)
        have tx_701 : x_701.toInt = (x_699.toInt - 1) := by rw [ex_701]; exact sub_ti (a := x_699.toInt) (b := 1) rfl (by decide) (by omega) (by omega)
        refine va_iast hx hb hK hP hD hS 1 1 rfl rfl (vin (a := 5) (by decide) (by decide) (by decide)) dX0_bringDown_50 (fun H locs hP hD hS => ?_)
        obtain ⟨f_702, ef_702, hP, hD⟩ : ∃ f_702 : Nat → Int32, f_702 = upd f_counters (5 : Int32).toNatClampNeg x_701 ∧ va_P D vwCl [(A_self, .inr (0, [.ref A_counters])), (A_counters, .inl (c 1, 6, .inl f_702))] H ∧ va_D A [(A_self, .inr (0, [.ref A_counters])), (A_counters, .inl (c 1, 6, .inl f_702))] := ⟨_, rfl, hP, hD⟩
        have cl_703 : (f_702 0).toInt = (f_counters 0).toInt := by rw [ef_702]; rfl
        have cl_704 : (f_702 1).toInt = (f_counters 1).toInt := by rw [ef_702]; rfl
        have cl_705 : (f_702 2).toInt = (f_counters 2).toInt := by rw [ef_702]; rfl
        have cl_706 : (f_702 3).toInt = (f_counters 3).toInt := by rw [ef_702]; rfl
        have cl_707 : (f_702 4).toInt = (f_counters 4).toInt := by rw [ef_702]; rfl
        have cl_708 : (f_702 5).toInt = x_701.toInt := by rw [ef_702]; rfl
        refine lv_aload_n hx hb dX0_bringDown_51 rfl (lv_at hl 2 rfl) ?_
        refine va_get (D := D) (ci := 0) (v := .ref A_counters) (C := RX0) (T := TX0) (N := 1) hx hb hts (fun _ h => List.mem_cons_of_mem _ (List.mem_append_right _ h)) hown hK hP 0 rfl rfl 0 (by decide) (hts (.fieldLink RX0 9 "CrownTable$Cloth" "counters" "[I") (mem_i 1 rfl)) (fun _ h9 => h9) rfl dX0_bringDown_52 ?_
        refine lv_iload_n hx hb dX0_bringDown_55 rfl (lv_at hl 0 rfl) ?_
        refine lv_iconst (v := 1) hx hb dX0_bringDown_56 (by decide) ?_
        refine lv_isub hx hb dX0_bringDown_57 ?_
        refine lk_i (y := 4) (by decide) ?_
        refine lv_dup2_11 hx hb dX0_bringDown_58 rfl rfl ?_
        refine va_iald hx hb hK hP 1 1 rfl rfl (vin (a := 4) (by decide) (by decide) (by decide)) dX0_bringDown_59 ?_
        refine lv_topi (fun x_709 ex_709 => ?_)
        have lf_710 : (f_702 4).toInt = x_709.toInt := by rw [ex_709]; rfl
        refine va_gets hx hb hSt.2.2.1 hS hown (hts (.fieldLink RX0 23 "CrownTable$Cloth" "OF_THE_NEXT" "[I") (mem_i 2 rfl)) (fun _ h9 => h9) dX0_bringDown_60 ?_
        refine lv_iload_n hx hb dX0_bringDown_63 rfl (lv_at hl 0 rfl) ?_
        refine lv_iconst (v := 1) hx hb dX0_bringDown_64 (by decide) ?_
        refine lv_isub hx hb dX0_bringDown_65 ?_
        refine lk_i (y := 4) (by decide) ?_
        refine va_ti (v := .int 10) hx hb hSt.2.2.2.1 hS (vin (a := 4) (by decide) (by decide) (by decide)) rfl dX0_bringDown_66 ?_
        refine lv_iadd hx hb dX0_bringDown_67 ?_
        refine lv_topi (fun x_711 ex_711 => ?_)
        have tx_711 : x_711.toInt = (x_709.toInt + 10) := by rw [ex_711]; exact add_ti (a := x_709.toInt) (b := 10) rfl (by decide) (by omega) (by omega)
        refine va_iast hx hb hK hP hD hS 1 1 rfl rfl (vin (a := 4) (by decide) (by decide) (by decide)) dX0_bringDown_68 (fun H locs hP hD hS => ?_)
        obtain ⟨f_712, ef_712, hP, hD⟩ : ∃ f_712 : Nat → Int32, f_712 = upd f_702 (4 : Int32).toNatClampNeg x_711 ∧ va_P D vwCl [(A_self, .inr (0, [.ref A_counters])), (A_counters, .inl (c 1, 6, .inl f_712))] H ∧ va_D A [(A_self, .inr (0, [.ref A_counters])), (A_counters, .inl (c 1, 6, .inl f_712))] := ⟨_, rfl, hP, hD⟩
        have cl_713 : (f_712 0).toInt = (f_702 0).toInt := by rw [ef_712]; rfl
        have cl_714 : (f_712 1).toInt = (f_702 1).toInt := by rw [ef_712]; rfl
        have cl_715 : (f_712 2).toInt = (f_702 2).toInt := by rw [ef_712]; rfl
        have cl_716 : (f_712 3).toInt = (f_702 3).toInt := by rw [ef_712]; rfl
        have cl_717 : (f_712 4).toInt = x_711.toInt := by rw [ef_712]; rfl
        have cl_718 : (f_712 5).toInt = (f_702 5).toInt := by rw [ef_712]; rfl
        refine lv_iinc (v := 4) (lv' := [(3, .int 4), (2, .int 5), (0, .ref A_self), (1, .int 3)]) hx hb dX0_bringDown_69 hl (k := 0) rfl (by decide) (by decide) rfl (fun ls hl => ?_)
        refine lv_goto (tgt := 36) hx hb dX0_bringDown_72 (by decide) ?_
        refine lv_iload_n hx hb dX0_bringDown_36 rfl (lv_at hl 0 rfl) ?_
        refine lv_iload_n hx hb dX0_bringDown_37 rfl (lv_at hl 3 rfl) ?_
        refine iicmp_leF (a := 4) (b := 3) (tgt := 75) hx hb (by decide) (by decide) dX0_bringDown_38 (by decide) (by decide) ?_
        refine lv_aload_n hx hb dX0_bringDown_41 rfl (lv_at hl 2 rfl) ?_
        refine va_get (D := D) (ci := 0) (v := .ref A_counters) (C := RX0) (T := TX0) (N := 1) hx hb hts (fun _ h => List.mem_cons_of_mem _ (List.mem_append_right _ h)) hown hK hP 0 rfl rfl 0 (by decide) (hts (.fieldLink RX0 9 "CrownTable$Cloth" "counters" "[I") (mem_i 1 rfl)) (fun _ h9 => h9) rfl dX0_bringDown_42 ?_
        refine lv_iload_n hx hb dX0_bringDown_45 rfl (lv_at hl 0 rfl) ?_
        refine lv_dup2_11 hx hb dX0_bringDown_46 rfl rfl ?_
        refine va_iald hx hb hK hP 1 1 rfl rfl (vin (a := 4) (by decide) (by decide) (by decide)) dX0_bringDown_47 ?_
        refine lv_topi (fun x_719 ex_719 => ?_)
        have lf_720 : (f_712 4).toInt = x_719.toInt := by rw [ex_719]; rfl
        refine lv_iconst (v := 1) hx hb dX0_bringDown_48 (by decide) ?_
        refine lv_isub hx hb dX0_bringDown_49 ?_
        refine lv_topi (fun x_721 ex_721 => ?_)
        have tx_721 : x_721.toInt = (x_719.toInt - 1) := by rw [ex_721]; exact sub_ti (a := x_719.toInt) (b := 1) rfl (by decide) (by omega) (by omega)
        refine va_iast hx hb hK hP hD hS 1 1 rfl rfl (vin (a := 4) (by decide) (by decide) (by decide)) dX0_bringDown_50 (fun H locs hP hD hS => ?_)
        obtain ⟨f_722, ef_722, hP, hD⟩ : ∃ f_722 : Nat → Int32, f_722 = upd f_712 (4 : Int32).toNatClampNeg x_721 ∧ va_P D vwCl [(A_self, .inr (0, [.ref A_counters])), (A_counters, .inl (c 1, 6, .inl f_722))] H ∧ va_D A [(A_self, .inr (0, [.ref A_counters])), (A_counters, .inl (c 1, 6, .inl f_722))] := ⟨_, rfl, hP, hD⟩
        have cl_723 : (f_722 0).toInt = (f_712 0).toInt := by rw [ef_722]; rfl
        have cl_724 : (f_722 1).toInt = (f_712 1).toInt := by rw [ef_722]; rfl
        have cl_725 : (f_722 2).toInt = (f_712 2).toInt := by rw [ef_722]; rfl
        have cl_726 : (f_722 3).toInt = (f_712 3).toInt := by rw [ef_722]; rfl
        have cl_727 : (f_722 4).toInt = x_721.toInt := by rw [ef_722]; rfl
        have cl_728 : (f_722 5).toInt = (f_712 5).toInt := by rw [ef_722]; rfl
        refine lv_aload_n hx hb dX0_bringDown_51 rfl (lv_at hl 2 rfl) ?_
        refine va_get (D := D) (ci := 0) (v := .ref A_counters) (C := RX0) (T := TX0) (N := 1) hx hb hts (fun _ h => List.mem_cons_of_mem _ (List.mem_append_right _ h)) hown hK hP 0 rfl rfl 0 (by decide) (hts (.fieldLink RX0 9 "CrownTable$Cloth" "counters" "[I") (mem_i 1 rfl)) (fun _ h9 => h9) rfl dX0_bringDown_52 ?_
        refine lv_iload_n hx hb dX0_bringDown_55 rfl (lv_at hl 0 rfl) ?_
        refine lv_iconst (v := 1) hx hb dX0_bringDown_56 (by decide) ?_
        refine lv_isub hx hb dX0_bringDown_57 ?_
        refine lk_i (y := 3) (by decide) ?_
        refine lv_dup2_11 hx hb dX0_bringDown_58 rfl rfl ?_
        refine va_iald hx hb hK hP 1 1 rfl rfl (vin (a := 3) (by decide) (by decide) (by decide)) dX0_bringDown_59 ?_
        refine lv_topi (fun x_729 ex_729 => ?_)
        have lf_730 : (f_722 3).toInt = x_729.toInt := by rw [ex_729]; rfl
        refine va_gets hx hb hSt.2.2.1 hS hown (hts (.fieldLink RX0 23 "CrownTable$Cloth" "OF_THE_NEXT" "[I") (mem_i 2 rfl)) (fun _ h9 => h9) dX0_bringDown_60 ?_
        refine lv_iload_n hx hb dX0_bringDown_63 rfl (lv_at hl 0 rfl) ?_
        refine lv_iconst (v := 1) hx hb dX0_bringDown_64 (by decide) ?_
        refine lv_isub hx hb dX0_bringDown_65 ?_
        refine lk_i (y := 3) (by decide) ?_
        refine va_ti (v := .int 5) hx hb hSt.2.2.2.1 hS (vin (a := 3) (by decide) (by decide) (by decide)) rfl dX0_bringDown_66 ?_
        refine lv_iadd hx hb dX0_bringDown_67 ?_
        refine lv_topi (fun x_731 ex_731 => ?_)
        have tx_731 : x_731.toInt = (x_729.toInt + 5) := by rw [ex_731]; exact add_ti (a := x_729.toInt) (b := 5) rfl (by decide) (by omega) (by omega)
        refine va_iast hx hb hK hP hD hS 1 1 rfl rfl (vin (a := 3) (by decide) (by decide) (by decide)) dX0_bringDown_68 (fun H locs hP hD hS => ?_)
        obtain ⟨f_732, ef_732, hP, hD⟩ : ∃ f_732 : Nat → Int32, f_732 = upd f_722 (3 : Int32).toNatClampNeg x_731 ∧ va_P D vwCl [(A_self, .inr (0, [.ref A_counters])), (A_counters, .inl (c 1, 6, .inl f_732))] H ∧ va_D A [(A_self, .inr (0, [.ref A_counters])), (A_counters, .inl (c 1, 6, .inl f_732))] := ⟨_, rfl, hP, hD⟩
        have cl_733 : (f_732 0).toInt = (f_722 0).toInt := by rw [ef_732]; rfl
        have cl_734 : (f_732 1).toInt = (f_722 1).toInt := by rw [ef_732]; rfl
        have cl_735 : (f_732 2).toInt = (f_722 2).toInt := by rw [ef_732]; rfl
        have cl_736 : (f_732 3).toInt = x_731.toInt := by rw [ef_732]; rfl
        have cl_737 : (f_732 4).toInt = (f_722 4).toInt := by rw [ef_732]; rfl
        have cl_738 : (f_732 5).toInt = (f_722 5).toInt := by rw [ef_732]; rfl
        refine lv_iinc (v := 3) (lv' := [(3, .int 3), (2, .int 5), (0, .ref A_self), (1, .int 3)]) hx hb dX0_bringDown_69 hl (k := 0) rfl (by decide) (by decide) rfl (fun ls hl => ?_)
        refine lv_goto (tgt := 36) hx hb dX0_bringDown_72 (by decide) ?_
        refine lv_iload_n hx hb dX0_bringDown_36 rfl (lv_at hl 0 rfl) ?_
        refine lv_iload_n hx hb dX0_bringDown_37 rfl (lv_at hl 3 rfl) ?_
        refine iicmp_leT (a := 3) (b := 3) (tgt := 75) hx hb (by decide) (by decide) dX0_bringDown_38 (by decide) (by decide) ?_
        refine lv_iload_n hx hb dX0_bringDown_75 rfl (lv_at hl 1 rfl) ?_
        refine lv_iload_n hx hb dX0_bringDown_76 rfl (lv_at hl 3 rfl) ?_
        refine lv_isub hx hb dX0_bringDown_77 ?_
        refine lk_i (y := 2) (by decide) ?_
        have kzz_739 : (2 : Int32).toInt = 2 := by decide
        have hP9 := hP.sub (ws' := [(A_self, .inr (0, [.ref A_counters])), (A_counters, .inl (c 1, 6, .inl f_732))]) [0, 1] rfl
        have hD9 := hD.sub (ws' := [(A_self, .inr (0, [.ref A_counters])), (A_counters, .inl (c 1, 6, .inl f_732))]) [0, 1] (by decide) rfl
        refine W.widen (k := 0) (n := 0) (by omega) (by omega) ?_
        exact W.iret (v := 2) hx hb hr (fun t ht hW => ⟨⟨_, (f_732, ()), rfl, (show BdI i_a1 (f_counters 0).toInt (f_counters 1).toInt (f_counters 2).toInt (f_counters 3).toInt (f_counters 4).toInt (f_counters 5).toInt (f_732 0).toInt (f_732 1).toInt (f_732 2).toInt (f_732 3).toInt (f_732 4).toInt (f_732 5).toInt (2 : Int32).toInt from (BdI.i3_1 hsp (by omega) (by omega) (by omega) (by omega) (by omega) (by omega) (by omega) (by omega) (by omega))), ⟨by rw [ht]; exact hP9, hD9⟩⟩, hS.F ht⟩) hS.2.2 dX0_bringDown_78
      · skip
        refine lv_iinc (v := 6) (lv' := [(2, .int 6), (0, .ref A_self), (1, .int 3)]) hx hb dX0_bringDown_20 hl (k := 0) rfl (by decide) (by decide) rfl (fun ls hl => ?_)
        refine lv_goto (tgt := 4) hx hb dX0_bringDown_23 (by decide) ?_
        refine lv_iload_n hx hb dX0_bringDown_4 rfl (lv_at hl 0 rfl) ?_
        refine lv_bipush (v := 6) hx hb dX0_bringDown_5 (by decide) ?_
        refine iicmp_geT (a := 6) (b := 6) (tgt := 26) hx hb (by decide) (by decide) dX0_bringDown_7 (by decide) (by decide) ?_
        refine lv_iload_n hx hb dX0_bringDown_26 rfl (lv_at hl 0 rfl) ?_
        refine lv_bipush (v := 6) hx hb dX0_bringDown_27 (by decide) ?_
        refine iicmp_ltF (a := 6) (b := 6) (tgt := 34) hx hb (by decide) (by decide) dX0_bringDown_29 (by decide) (by decide) ?_
        refine lv_iconst (v := 0) hx hb dX0_bringDown_32 (by decide) ?_
        have kzz_740 : (0 : Int32).toInt = 0 := by decide
        have hP9 := hP.sub (ws' := [(A_self, .inr (0, [.ref A_counters])), (A_counters, .inl (c 1, 6, .inl f_counters))]) [0, 1] rfl
        have hD9 := hD.sub (ws' := [(A_self, .inr (0, [.ref A_counters])), (A_counters, .inl (c 1, 6, .inl f_counters))]) [0, 1] (by decide) rfl
        refine W.widen (k := 0) (n := 0) (by omega) (by omega) ?_
        exact W.iret (v := 0) hx hb hr (fun t ht hW => ⟨⟨_, (f_counters, ()), rfl, (show BdI i_a1 (f_counters 0).toInt (f_counters 1).toInt (f_counters 2).toInt (f_counters 3).toInt (f_counters 4).toInt (f_counters 5).toInt (f_counters 0).toInt (f_counters 1).toInt (f_counters 2).toInt (f_counters 3).toInt (f_counters 4).toInt (f_counters 5).toInt (0 : Int32).toInt from (BdI.i3_2 hsp (by omega) (by omega) (by omega) (by omega) (by omega) (by omega) (by omega) (by omega) (by omega))), ⟨by rw [ht]; exact hP9, hD9⟩⟩, hS.F ht⟩) hS.2.2 dX0_bringDown_33
  · skip
    obtain rfl : a1 = 4 := Int32.toInt_inj.mp (by rw [hi_a1, hsp]; rfl)
    have hl : lv_has ls 4 [(0, .ref A_self), (1, .int 4)] := hl
    refine lv_iload_n hx hb dX0_bringDown_0 rfl (lv_at hl 1 rfl) ?_
    refine lv_iconst (v := 1) hx hb dX0_bringDown_1 (by decide) ?_
    refine lv_iadd hx hb dX0_bringDown_2 ?_
    refine lk_i (y := 5) (by decide) ?_
    refine lv_istore_n (lv' := [(2, .int 5), (0, .ref A_self), (1, .int 4)]) hx hb dX0_bringDown_3 rfl hl (by decide) rfl (fun ls hl => ?_)
    refine lv_iload_n hx hb dX0_bringDown_4 rfl (lv_at hl 0 rfl) ?_
    refine lv_bipush (v := 6) hx hb dX0_bringDown_5 (by decide) ?_
    refine iicmp_geF (a := 5) (b := 6) (tgt := 26) hx hb (by decide) (by decide) dX0_bringDown_7 (by decide) (by decide) ?_
    refine lv_aload_n hx hb dX0_bringDown_10 rfl (lv_at hl 1 rfl) ?_
    refine va_get (D := D) (ci := 0) (v := .ref A_counters) (C := RX0) (T := TX0) (N := 1) hx hb hts (fun _ h => List.mem_cons_of_mem _ (List.mem_append_right _ h)) hown hK hP 0 rfl rfl 0 (by decide) (hts (.fieldLink RX0 9 "CrownTable$Cloth" "counters" "[I") (mem_i 1 rfl)) (fun _ h9 => h9) rfl dX0_bringDown_11 ?_
    refine lv_iload_n hx hb dX0_bringDown_14 rfl (lv_at hl 0 rfl) ?_
    refine va_iald hx hb hK hP 1 1 rfl rfl (vin (a := 5) (by decide) (by decide) (by decide)) dX0_bringDown_15 ?_
    refine lv_topi (fun x_741 ex_741 => ?_)
    have lf_742 : (f_counters 5).toInt = x_741.toInt := by rw [ex_741]; rfl
    refine lv_iconst (v := 1) hx hb dX0_bringDown_16 (by decide) ?_
    refine iicmp_ge (a := x_741.toInt) (b := 1) (tgt := 26) hx hb rfl (by decide) dX0_bringDown_17 (by decide) (fun k_743 => ?_) (fun k_743 => ?_)
    · skip
      refine lv_iload_n hx hb dX0_bringDown_26 rfl (lv_at hl 0 rfl) ?_
      refine lv_bipush (v := 6) hx hb dX0_bringDown_27 (by decide) ?_
      refine iicmp_ltT (a := 5) (b := 6) (tgt := 34) hx hb (by decide) (by decide) dX0_bringDown_29 (by decide) (by decide) ?_
      refine lv_iload_n hx hb dX0_bringDown_34 rfl (lv_at hl 0 rfl) ?_
      refine lv_istore_n (lv' := [(3, .int 5), (2, .int 5), (0, .ref A_self), (1, .int 4)]) hx hb dX0_bringDown_35 rfl hl (by decide) rfl (fun ls hl => ?_)
      refine lv_iload_n hx hb dX0_bringDown_36 rfl (lv_at hl 0 rfl) ?_
      refine lv_iload_n hx hb dX0_bringDown_37 rfl (lv_at hl 3 rfl) ?_
      refine iicmp_leF (a := 5) (b := 4) (tgt := 75) hx hb (by decide) (by decide) dX0_bringDown_38 (by decide) (by decide) ?_
      refine lv_aload_n hx hb dX0_bringDown_41 rfl (lv_at hl 2 rfl) ?_
      refine va_get (D := D) (ci := 0) (v := .ref A_counters) (C := RX0) (T := TX0) (N := 1) hx hb hts (fun _ h => List.mem_cons_of_mem _ (List.mem_append_right _ h)) hown hK hP 0 rfl rfl 0 (by decide) (hts (.fieldLink RX0 9 "CrownTable$Cloth" "counters" "[I") (mem_i 1 rfl)) (fun _ h9 => h9) rfl dX0_bringDown_42 ?_
      refine lv_iload_n hx hb dX0_bringDown_45 rfl (lv_at hl 0 rfl) ?_
      refine lv_dup2_11 hx hb dX0_bringDown_46 rfl rfl ?_
      refine va_iald hx hb hK hP 1 1 rfl rfl (vin (a := 5) (by decide) (by decide) (by decide)) dX0_bringDown_47 ?_
      refine lv_topi (fun x_744 ex_744 => ?_)
      have lf_745 : (f_counters 5).toInt = x_744.toInt := by rw [ex_744]; rfl
      refine lv_iconst (v := 1) hx hb dX0_bringDown_48 (by decide) ?_
      refine lv_isub hx hb dX0_bringDown_49 ?_
      refine lv_topi (fun x_746 ex_746 => ?_)
      have tx_746 : x_746.toInt = (x_744.toInt - 1) := by rw [ex_746]; exact sub_ti (a := x_744.toInt) (b := 1) rfl (by decide) (by omega) (by omega)
      refine va_iast hx hb hK hP hD hS 1 1 rfl rfl (vin (a := 5) (by decide) (by decide) (by decide)) dX0_bringDown_50 (fun H locs hP hD hS => ?_)
      obtain ⟨f_747, ef_747, hP, hD⟩ : ∃ f_747 : Nat → Int32, f_747 = upd f_counters (5 : Int32).toNatClampNeg x_746 ∧ va_P D vwCl [(A_self, .inr (0, [.ref A_counters])), (A_counters, .inl (c 1, 6, .inl f_747))] H ∧ va_D A [(A_self, .inr (0, [.ref A_counters])), (A_counters, .inl (c 1, 6, .inl f_747))] := ⟨_, rfl, hP, hD⟩
      have cl_748 : (f_747 0).toInt = (f_counters 0).toInt := by rw [ef_747]; rfl
      have cl_749 : (f_747 1).toInt = (f_counters 1).toInt := by rw [ef_747]; rfl
      have cl_750 : (f_747 2).toInt = (f_counters 2).toInt := by rw [ef_747]; rfl
      have cl_751 : (f_747 3).toInt = (f_counters 3).toInt := by rw [ef_747]; rfl
      have cl_752 : (f_747 4).toInt = (f_counters 4).toInt := by rw [ef_747]; rfl
      have cl_753 : (f_747 5).toInt = x_746.toInt := by rw [ef_747]; rfl
      refine lv_aload_n hx hb dX0_bringDown_51 rfl (lv_at hl 2 rfl) ?_
      refine va_get (D := D) (ci := 0) (v := .ref A_counters) (C := RX0) (T := TX0) (N := 1) hx hb hts (fun _ h => List.mem_cons_of_mem _ (List.mem_append_right _ h)) hown hK hP 0 rfl rfl 0 (by decide) (hts (.fieldLink RX0 9 "CrownTable$Cloth" "counters" "[I") (mem_i 1 rfl)) (fun _ h9 => h9) rfl dX0_bringDown_52 ?_
      refine lv_iload_n hx hb dX0_bringDown_55 rfl (lv_at hl 0 rfl) ?_
      refine lv_iconst (v := 1) hx hb dX0_bringDown_56 (by decide) ?_
      refine lv_isub hx hb dX0_bringDown_57 ?_
      refine lk_i (y := 4) (by decide) ?_
      refine lv_dup2_11 hx hb dX0_bringDown_58 rfl rfl ?_
      refine va_iald hx hb hK hP 1 1 rfl rfl (vin (a := 4) (by decide) (by decide) (by decide)) dX0_bringDown_59 ?_
      refine lv_topi (fun x_754 ex_754 => ?_)
      have lf_755 : (f_747 4).toInt = x_754.toInt := by rw [ex_754]; rfl
      refine va_gets hx hb hSt.2.2.1 hS hown (hts (.fieldLink RX0 23 "CrownTable$Cloth" "OF_THE_NEXT" "[I") (mem_i 2 rfl)) (fun _ h9 => h9) dX0_bringDown_60 ?_
      refine lv_iload_n hx hb dX0_bringDown_63 rfl (lv_at hl 0 rfl) ?_
      refine lv_iconst (v := 1) hx hb dX0_bringDown_64 (by decide) ?_
      refine lv_isub hx hb dX0_bringDown_65 ?_
      refine lk_i (y := 4) (by decide) ?_
      refine va_ti (v := .int 10) hx hb hSt.2.2.2.1 hS (vin (a := 4) (by decide) (by decide) (by decide)) rfl dX0_bringDown_66 ?_
      refine lv_iadd hx hb dX0_bringDown_67 ?_
      refine lv_topi (fun x_756 ex_756 => ?_)
      have tx_756 : x_756.toInt = (x_754.toInt + 10) := by rw [ex_756]; exact add_ti (a := x_754.toInt) (b := 10) rfl (by decide) (by omega) (by omega)
      refine va_iast hx hb hK hP hD hS 1 1 rfl rfl (vin (a := 4) (by decide) (by decide) (by decide)) dX0_bringDown_68 (fun H locs hP hD hS => ?_)
      obtain ⟨f_757, ef_757, hP, hD⟩ : ∃ f_757 : Nat → Int32, f_757 = upd f_747 (4 : Int32).toNatClampNeg x_756 ∧ va_P D vwCl [(A_self, .inr (0, [.ref A_counters])), (A_counters, .inl (c 1, 6, .inl f_757))] H ∧ va_D A [(A_self, .inr (0, [.ref A_counters])), (A_counters, .inl (c 1, 6, .inl f_757))] := ⟨_, rfl, hP, hD⟩
      have cl_758 : (f_757 0).toInt = (f_747 0).toInt := by rw [ef_757]; rfl
      have cl_759 : (f_757 1).toInt = (f_747 1).toInt := by rw [ef_757]; rfl
      have cl_760 : (f_757 2).toInt = (f_747 2).toInt := by rw [ef_757]; rfl
      have cl_761 : (f_757 3).toInt = (f_747 3).toInt := by rw [ef_757]; rfl
      have cl_762 : (f_757 4).toInt = x_756.toInt := by rw [ef_757]; rfl
      have cl_763 : (f_757 5).toInt = (f_747 5).toInt := by rw [ef_757]; rfl
      refine lv_iinc (v := 4) (lv' := [(3, .int 4), (2, .int 5), (0, .ref A_self), (1, .int 4)]) hx hb dX0_bringDown_69 hl (k := 0) rfl (by decide) (by decide) rfl (fun ls hl => ?_)
      refine lv_goto (tgt := 36) hx hb dX0_bringDown_72 (by decide) ?_
      refine lv_iload_n hx hb dX0_bringDown_36 rfl (lv_at hl 0 rfl) ?_
      refine lv_iload_n hx hb dX0_bringDown_37 rfl (lv_at hl 3 rfl) ?_
      refine iicmp_leT (a := 4) (b := 4) (tgt := 75) hx hb (by decide) (by decide) dX0_bringDown_38 (by decide) (by decide) ?_
      refine lv_iload_n hx hb dX0_bringDown_75 rfl (lv_at hl 1 rfl) ?_
      refine lv_iload_n hx hb dX0_bringDown_76 rfl (lv_at hl 3 rfl) ?_
      refine lv_isub hx hb dX0_bringDown_77 ?_
      refine lk_i (y := 1) (by decide) ?_
      have kzz_764 : (1 : Int32).toInt = 1 := by decide
      have hP9 := hP.sub (ws' := [(A_self, .inr (0, [.ref A_counters])), (A_counters, .inl (c 1, 6, .inl f_757))]) [0, 1] rfl
      have hD9 := hD.sub (ws' := [(A_self, .inr (0, [.ref A_counters])), (A_counters, .inl (c 1, 6, .inl f_757))]) [0, 1] (by decide) rfl
      refine W.widen (k := 0) (n := 0) (by omega) (by omega) ?_
      exact W.iret (v := 1) hx hb hr (fun t ht hW => ⟨⟨_, (f_757, ()), rfl, (show BdI i_a1 (f_counters 0).toInt (f_counters 1).toInt (f_counters 2).toInt (f_counters 3).toInt (f_counters 4).toInt (f_counters 5).toInt (f_757 0).toInt (f_757 1).toInt (f_757 2).toInt (f_757 3).toInt (f_757 4).toInt (f_757 5).toInt (1 : Int32).toInt from (BdI.i4_0 hsp (by omega) (by omega) (by omega) (by omega) (by omega) (by omega) (by omega) (by omega))), ⟨by rw [ht]; exact hP9, hD9⟩⟩, hS.F ht⟩) hS.2.2 dX0_bringDown_78
    · skip
      refine lv_iinc (v := 6) (lv' := [(2, .int 6), (0, .ref A_self), (1, .int 4)]) hx hb dX0_bringDown_20 hl (k := 0) rfl (by decide) (by decide) rfl (fun ls hl => ?_)
      refine lv_goto (tgt := 4) hx hb dX0_bringDown_23 (by decide) ?_
      refine lv_iload_n hx hb dX0_bringDown_4 rfl (lv_at hl 0 rfl) ?_
      refine lv_bipush (v := 6) hx hb dX0_bringDown_5 (by decide) ?_
      refine iicmp_geT (a := 6) (b := 6) (tgt := 26) hx hb (by decide) (by decide) dX0_bringDown_7 (by decide) (by decide) ?_
      refine lv_iload_n hx hb dX0_bringDown_26 rfl (lv_at hl 0 rfl) ?_
      refine lv_bipush (v := 6) hx hb dX0_bringDown_27 (by decide) ?_
      refine iicmp_ltF (a := 6) (b := 6) (tgt := 34) hx hb (by decide) (by decide) dX0_bringDown_29 (by decide) (by decide) ?_
      refine lv_iconst (v := 0) hx hb dX0_bringDown_32 (by decide) ?_
      have kzz_765 : (0 : Int32).toInt = 0 := by decide
      have hP9 := hP.sub (ws' := [(A_self, .inr (0, [.ref A_counters])), (A_counters, .inl (c 1, 6, .inl f_counters))]) [0, 1] rfl
      have hD9 := hD.sub (ws' := [(A_self, .inr (0, [.ref A_counters])), (A_counters, .inl (c 1, 6, .inl f_counters))]) [0, 1] (by decide) rfl
      refine W.widen (k := 0) (n := 0) (by omega) (by omega) ?_
      exact W.iret (v := 0) hx hb hr (fun t ht hW => ⟨⟨_, (f_counters, ()), rfl, (show BdI i_a1 (f_counters 0).toInt (f_counters 1).toInt (f_counters 2).toInt (f_counters 3).toInt (f_counters 4).toInt (f_counters 5).toInt (f_counters 0).toInt (f_counters 1).toInt (f_counters 2).toInt (f_counters 3).toInt (f_counters 4).toInt (f_counters 5).toInt (0 : Int32).toInt from (BdI.i4_1 hsp (by omega) (by omega) (by omega) (by omega) (by omega) (by omega) (by omega) (by omega))), ⟨by rw [ht]; exact hP9, hD9⟩⟩, hS.F ht⟩) hS.2.2 dX0_bringDown_33
