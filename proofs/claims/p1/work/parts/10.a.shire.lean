set_option maxHeartbeats 4000000 in
set_option maxRecDepth 100000 in
theorem c_X6_isPerson (l : Launch) (D : va_G) (c : Nat → ClassId) (ts : Nat × Nat) (sz : Nat)  (a0 : Int32) (i_a0 : Int) (hi_a0 : a0.toInt = i_a0) : Met l yX6_isPerson wsX6_isPerson ({ frames := 0, cells := 0, slots := 0, locals := 0 }) (va_Pc [.int a0] (Pre0 D c ts [] sz)) (vp_Si (fun r : Int32 => ((0 ≤ i_a0 ∧ i_a0 ≤ 15) ∧ r = 1) ∨ ((¬ (0 ≤ i_a0 ∧ i_a0 ≤ 15)) ∧ r = 0))) 0 0 (fun _ => False) := by
  refine Met.ofW (cc := cX6_isPerson) (maxL := 1) (ret := (some .boolean)) (by decide) rfl ?_
  intro p e s m args below meth cd s₁ B hml hv
  obtain ⟨rfl, hsz, hP, hD0, hAm, hSt⟩ := hv
  have hx := B.exec
  have hb := B.bytes
  have hr := B.returns
  have hts := atoms_spec (ws := wsX6_isPerson) B.pre
  have hown : s.vm.findClass RX6 = some m.cls := findClass_of_methodNamed B.named
  have hlocks := B.notSynchronized
  subst hsz
  have hK := hAm.1
  have hD := hD0.self (sz := s.heap.size)
  generalize hAe : va_A [] s.heap.size = A at hD hSt
  have hA : ∀ q : Nat, s.heap.size ≤ q → A q := fun q h => by rw [← hAe]; exact Or.inr h
  have hS : va_S A s.heap s.heap [] := va_S.rf
  clear hD0 hAe
  have hl := lv_entry ([.int a0]) (n := 1) (Nat.le_of_ble_eq_true rfl)
  rw [lg_entry_eq]
  generalize (lg_sl ([.int a0]) ++ List.replicate (1 - (lg_sl ([.int a0])).length) Slot.unset).toArray = ls at hl ⊢
  have hl : lv_has ls 1 [(0, .int a0)] := hl
  refine lv_iload_n hx hb dX6_isPerson_0 rfl (lv_at hl 0 rfl) ?_
  refine iif_lt (a := i_a0) (tgt := 14) hx hb hi_a0 dX6_isPerson_1 (by decide) (fun k_1 => ?_) (fun k_1 => ?_)
  · skip
    refine lv_iconst (v := 0) hx hb dX6_isPerson_14 (by decide) ?_
    exact W.zret (v := 0) hx hb hr (by decide) (fun t ht hW => ⟨_, rfl, Or.inr (⟨by omega, rfl⟩), ht⟩) (fun _ h => by cases h) dX6_isPerson_15
  · skip
    refine lv_iload_n hx hb dX6_isPerson_4 rfl (lv_at hl 0 rfl) ?_
    refine lv_bipush (v := 16) hx hb dX6_isPerson_5 (by decide) ?_
    refine iicmp_ge (a := i_a0) (b := 16) (tgt := 14) hx hb hi_a0 (by decide) dX6_isPerson_7 (by decide) (fun k_2 => ?_) (fun k_2 => ?_)
    · skip
      refine lv_iconst (v := 0) hx hb dX6_isPerson_14 (by decide) ?_
      exact W.zret (v := 0) hx hb hr (by decide) (fun t ht hW => ⟨_, rfl, Or.inr (⟨by omega, rfl⟩), ht⟩) (fun _ h => by cases h) dX6_isPerson_15
    · skip
      refine lv_iconst (v := 1) hx hb dX6_isPerson_10 (by decide) ?_
      refine lv_goto (tgt := 15) hx hb dX6_isPerson_11 (by decide) ?_
      exact W.zret (v := 1) hx hb hr (by decide) (fun t ht hW => ⟨_, rfl, Or.inl ⟨by omega, rfl⟩, ht⟩) (fun _ h => by cases h) dX6_isPerson_15

set_option maxHeartbeats 4000000 in
set_option maxRecDepth 100000 in
theorem c_X6_shire (l : Launch) (D : va_G) (c : Nat → ClassId) (ts : Nat × Nat) (sz : Nat) (q : Nat → Nat) (h0 : Nat) (a1 : Int32) (i_a1 : Int) (hi_a1 : a1.toInt = i_a1) (a2 : Int32) (i_a2 : Int) (hi_a2 : a2.toInt = i_a2) (a3 : Int32) (i_a3 : Int) (hi_a3 : a3.toInt = i_a3) : Met l yX6_shire wsX6_shire ({ frames := 1, cells := 0, slots := 0, locals := 20 }) (va_Pc [.ref h0, .int a1, .int a2, .int a3] (Pre0 D c ts [(h0, .inr (6, o6 q 0 0 0 0)), (q 17, .inl (c 1, 8, .inl (fun _ => 0))), (q 18, .inl (c 1, 8, .inl (fun _ => (-1))))] sz)) (va_Qi (fun (r : Int32) (u : Unit) => ((0 ≤ i_a1 ∧ i_a1 ≤ 7 ∧ 0 ≤ i_a2 ∧ i_a2 ≤ 100000 ∧ (i_a3 = -1 ∨ 0 ≤ i_a3 ∧ i_a3 ≤ 15)) ∧ r = 1) ∨ ((¬ (0 ≤ i_a1 ∧ i_a1 ≤ 7 ∧ 0 ≤ i_a2 ∧ i_a2 ≤ 100000 ∧ (i_a3 = -1 ∨ 0 ≤ i_a3 ∧ i_a3 ≤ 15))) ∧ r = (-1))) (fun _ _ => True) (va_A [(h0, .inr (6, o6 q 0 0 0 0)), (q 17, .inl (c 1, 8, .inl (fun _ => 0))), (q 18, .inl (c 1, 8, .inl (fun _ => (-1))))] sz)) 0 0 (va_A [(h0, .inr (6, o6 q 0 0 0 0)), (q 17, .inl (c 1, 8, .inl (fun _ => 0))), (q 18, .inl (c 1, 8, .inl (fun _ => (-1))))] sz) := by
  refine Met.ofW (cc := cX6_shire) (maxL := 4) (ret := (some .int)) (by decide) rfl ?_
  intro p e s m args below meth cd s₁ B hml hv
  obtain ⟨rfl, hsz, hP, hD0, hAm, hSt⟩ := hv
  have hx := B.exec
  have hb := B.bytes
  have hr := B.returns
  have hts := atoms_spec (ws := wsX6_shire) B.pre
  have hown : s.vm.findClass RX6 = some m.cls := findClass_of_methodNamed B.named
  have hlocks := B.notSynchronized
  subst hsz
  have hK := hAm.1
  have hD := hD0.self (sz := s.heap.size)
  generalize hAe : va_A [(h0, .inr (6, o6 q 0 0 0 0)), (q 17, .inl (c 1, 8, .inl (fun _ => 0))), (q 18, .inl (c 1, 8, .inl (fun _ => (-1))))] s.heap.size = A at hD hSt ⊢
  have hA : ∀ q : Nat, s.heap.size ≤ q → A q := fun q h => by rw [← hAe]; exact Or.inr h
  have hS : va_S A s.heap s.heap [] := va_S.rf
  clear hD0 hAe
  have hl := lv_entry ([.ref h0, .int a1, .int a2, .int a3]) (n := 4) (Nat.le_of_ble_eq_true rfl)
  rw [lg_entry_eq]
  generalize (lg_sl ([.ref h0, .int a1, .int a2, .int a3]) ++ List.replicate (4 - (lg_sl ([.ref h0, .int a1, .int a2, .int a3])).length) Slot.unset).toArray = ls at hl ⊢
  have hl : lv_has ls 4 [(0, .ref h0), (1, .int a1), (2, .int a2), (3, .int a3)] := hl
  refine lv_iload_n hx hb dX6_shire_0 rfl (lv_at hl 1 rfl) ?_
  refine iif_lt (a := i_a1) (tgt := 20) hx hb hi_a1 dX6_shire_1 (by decide) (fun k_1 => ?_) (fun k_1 => ?_)
  · skip
    refine lv_iconst (v := (-1)) hx hb dX6_shire_20 (by decide) ?_
    refine W.widen (k := 0) (n := 0) (by omega) (by omega) ?_
    exact W.iret (v := (-1)) hx hb hr (fun t ht hW => ⟨⟨_, (), rfl, Or.inr (⟨by omega, rfl⟩), trivial⟩, hS.F ht⟩) hS.2.2 dX6_shire_21
  · skip
    refine lv_iload_n hx hb dX6_shire_4 rfl (lv_at hl 1 rfl) ?_
    refine lv_bipush (v := 8) hx hb dX6_shire_5 (by decide) ?_
    refine iicmp_ge (a := i_a1) (b := 8) (tgt := 20) hx hb hi_a1 (by decide) dX6_shire_7 (by decide) (fun k_2 => ?_) (fun k_2 => ?_)
    · skip
      refine lv_iconst (v := (-1)) hx hb dX6_shire_20 (by decide) ?_
      refine W.widen (k := 0) (n := 0) (by omega) (by omega) ?_
      exact W.iret (v := (-1)) hx hb hr (fun t ht hW => ⟨⟨_, (), rfl, Or.inr (⟨by omega, rfl⟩), trivial⟩, hS.F ht⟩) hS.2.2 dX6_shire_21
    · skip
      refine lv_iload_n hx hb dX6_shire_10 rfl (lv_at hl 2 rfl) ?_
      refine iif_lt (a := i_a2) (tgt := 20) hx hb hi_a2 dX6_shire_11 (by decide) (fun k_3 => ?_) (fun k_3 => ?_)
      · skip
        refine lv_iconst (v := (-1)) hx hb dX6_shire_20 (by decide) ?_
        refine W.widen (k := 0) (n := 0) (by omega) (by omega) ?_
        exact W.iret (v := (-1)) hx hb hr (fun t ht hW => ⟨⟨_, (), rfl, Or.inr (⟨by omega, rfl⟩), trivial⟩, hS.F ht⟩) hS.2.2 dX6_shire_21
      · skip
        refine lv_iload_n hx hb dX6_shire_14 rfl (lv_at hl 2 rfl) ?_
        refine lv_ldc (v := 100000) hx hb hown (hts (.constant RX6 165 (100000)) (mem_i 1 rfl)) dX6_shire_15 ?_
        refine iicmp_le (a := i_a2) (b := 100000) (tgt := 22) hx hb hi_a2 (by decide) dX6_shire_17 (by decide) (fun k_4 => ?_) (fun k_4 => ?_)
        · skip
          refine lv_iload_n hx hb dX6_shire_22 rfl (lv_at hl 3 rfl) ?_
          refine lv_iconst (v := (-1)) hx hb dX6_shire_23 (by decide) ?_
          refine iicmp_eq (a := i_a3) (b := (-1)) (tgt := 36) hx hb hi_a3 (by decide) dX6_shire_24 (by decide) (fun k_5 => ?_) (fun k_5 => ?_)
          · skip
            refine lv_aload_n hx hb dX6_shire_36 rfl (lv_at hl 0 rfl) ?_
            refine va_get (D := D) (ci := 6) (v := .ref (q 17)) (C := RX6) (T := TX6) (N := 18) hx hb hts (fun _ h => List.mem_cons_of_mem _ (List.mem_append_right _ h)) hown hK hP 0 rfl rfl 9 (by decide) (hts (.fieldLink RX6 59 "CrownTable" "farms" "[I") (mem_i 2 rfl)) (fun _ h9 => h9) rfl dX6_shire_37 ?_
            refine lv_iload_n hx hb dX6_shire_40 rfl (lv_at hl 1 rfl) ?_
            refine lv_iload_n hx hb dX6_shire_41 rfl (lv_at hl 2 rfl) ?_
            refine va_iast hx hb hK hP hD hS 1 1 rfl rfl (vin (a := i_a1) hi_a1 (by omega) (by omega)) dX6_shire_42 (fun H locs hP hD hS => ?_)
            obtain ⟨f_6, hP, hD⟩ : ∃ f_6 : Nat → Int32, va_P D vwCl [(h0, .inr (6, o6 q 0 0 0 0)), (q 17, .inl (c 1, 8, .inl f_6)), (q 18, .inl (c 1, 8, .inl (fun _ => (-1))))] H ∧ va_D A [(h0, .inr (6, o6 q 0 0 0 0)), (q 17, .inl (c 1, 8, .inl f_6)), (q 18, .inl (c 1, 8, .inl (fun _ => (-1))))] := ⟨_, hP, hD⟩
            refine lv_aload_n hx hb dX6_shire_43 rfl (lv_at hl 0 rfl) ?_
            refine va_get (D := D) (ci := 6) (v := .ref (q 18)) (C := RX6) (T := TX6) (N := 18) hx hb hts (fun _ h => List.mem_cons_of_mem _ (List.mem_append_right _ h)) hown hK hP 0 rfl rfl 10 (by decide) (hts (.fieldLink RX6 62 "CrownTable" "sheriffs" "[I") (mem_i 3 rfl)) (fun _ h9 => h9) rfl dX6_shire_44 ?_
            refine lv_iload_n hx hb dX6_shire_47 rfl (lv_at hl 1 rfl) ?_
            refine lv_iload_n hx hb dX6_shire_48 rfl (lv_at hl 3 rfl) ?_
            refine va_iast hx hb hK hP hD hS 2 1 rfl rfl (vin (a := i_a1) hi_a1 (by omega) (by omega)) dX6_shire_49 (fun H locs hP hD hS => ?_)
            obtain ⟨f_7, hP, hD⟩ : ∃ f_7 : Nat → Int32, va_P D vwCl [(h0, .inr (6, o6 q 0 0 0 0)), (q 17, .inl (c 1, 8, .inl f_6)), (q 18, .inl (c 1, 8, .inl f_7))] H ∧ va_D A [(h0, .inr (6, o6 q 0 0 0 0)), (q 17, .inl (c 1, 8, .inl f_6)), (q 18, .inl (c 1, 8, .inl f_7))] := ⟨_, hP, hD⟩
            refine lv_iconst (v := 1) hx hb dX6_shire_50 (by decide) ?_
            refine W.widen (k := 0) (n := 0) (by omega) (by omega) ?_
            exact W.iret (v := 1) hx hb hr (fun t ht hW => ⟨⟨_, (), rfl, Or.inl ⟨by omega, rfl⟩, trivial⟩, hS.F ht⟩) hS.2.2 dX6_shire_51
          · skip
            refine lv_iload_n hx hb dX6_shire_27 rfl (lv_at hl 3 rfl) ?_
            have hPc := hP.sub (ws' := []) [] rfl
            have hDc := hD.sub (ws' := []) [] (by decide) rfl
            have hFc := va_free (wc := []) hD hS hA [] rfl
            refine va_csi (va_runS (As := [.int a3]) (rest := []) ⟨hx, hb, hml, hown, hts⟩ (c_X6_isPerson l D c ts s.heap.size a3 i_a3 hi_a3) (cwS 1 hts gX6_shire_X6_isPerson rfl rfl rfl ⟨rfl, hdX6_isPerson⟩ ⟨(show 0 + 1 ≤ 1 by decide), (show 8 + (1 + 11) + 0 ≤ 20 by decide)⟩) ⟨Pre0.blind, Pre0.at hPc hDc hAm hSt hS hFc⟩ rfl rfl hl.1 rfl (lv_room (Nat.le_of_ble_eq_true rfl)) dX6_shire_28 ⟨(show 0 + 0 ≤ 0 by decide), (show 0 + 0 ≤ 0 by decide)⟩) (fun r_9 hw_8 => ?_)
            rcases hw_8 with ⟨hw_8, rfl⟩ | ⟨hw_8, rfl⟩
            · skip
              refine iif_neT (a := 1) (tgt := 36) hx hb (by decide) dX6_shire_31 (by decide) (by decide) ?_
              refine lv_aload_n hx hb dX6_shire_36 rfl (lv_at hl 0 rfl) ?_
              refine va_get (D := D) (ci := 6) (v := .ref (q 17)) (C := RX6) (T := TX6) (N := 18) hx hb hts (fun _ h => List.mem_cons_of_mem _ (List.mem_append_right _ h)) hown hK hP 0 rfl rfl 9 (by decide) (hts (.fieldLink RX6 59 "CrownTable" "farms" "[I") (mem_i 2 rfl)) (fun _ h9 => h9) rfl dX6_shire_37 ?_
              refine lv_iload_n hx hb dX6_shire_40 rfl (lv_at hl 1 rfl) ?_
              refine lv_iload_n hx hb dX6_shire_41 rfl (lv_at hl 2 rfl) ?_
              refine va_iast hx hb hK hP hD hS 1 1 rfl rfl (vin (a := i_a1) hi_a1 (by omega) (by omega)) dX6_shire_42 (fun H locs hP hD hS => ?_)
              obtain ⟨f_10, hP, hD⟩ : ∃ f_10 : Nat → Int32, va_P D vwCl [(h0, .inr (6, o6 q 0 0 0 0)), (q 17, .inl (c 1, 8, .inl f_10)), (q 18, .inl (c 1, 8, .inl (fun _ => (-1))))] H ∧ va_D A [(h0, .inr (6, o6 q 0 0 0 0)), (q 17, .inl (c 1, 8, .inl f_10)), (q 18, .inl (c 1, 8, .inl (fun _ => (-1))))] := ⟨_, hP, hD⟩
              refine lv_aload_n hx hb dX6_shire_43 rfl (lv_at hl 0 rfl) ?_
              refine va_get (D := D) (ci := 6) (v := .ref (q 18)) (C := RX6) (T := TX6) (N := 18) hx hb hts (fun _ h => List.mem_cons_of_mem _ (List.mem_append_right _ h)) hown hK hP 0 rfl rfl 10 (by decide) (hts (.fieldLink RX6 62 "CrownTable" "sheriffs" "[I") (mem_i 3 rfl)) (fun _ h9 => h9) rfl dX6_shire_44 ?_
              refine lv_iload_n hx hb dX6_shire_47 rfl (lv_at hl 1 rfl) ?_
              refine lv_iload_n hx hb dX6_shire_48 rfl (lv_at hl 3 rfl) ?_
              refine va_iast hx hb hK hP hD hS 2 1 rfl rfl (vin (a := i_a1) hi_a1 (by omega) (by omega)) dX6_shire_49 (fun H locs hP hD hS => ?_)
              obtain ⟨f_11, hP, hD⟩ : ∃ f_11 : Nat → Int32, va_P D vwCl [(h0, .inr (6, o6 q 0 0 0 0)), (q 17, .inl (c 1, 8, .inl f_10)), (q 18, .inl (c 1, 8, .inl f_11))] H ∧ va_D A [(h0, .inr (6, o6 q 0 0 0 0)), (q 17, .inl (c 1, 8, .inl f_10)), (q 18, .inl (c 1, 8, .inl f_11))] := ⟨_, hP, hD⟩
              refine lv_iconst (v := 1) hx hb dX6_shire_50 (by decide) ?_
              refine W.widen (k := 0) (n := 0) (by omega) (by omega) ?_
              exact W.iret (v := 1) hx hb hr (fun t ht hW => ⟨⟨_, (), rfl, Or.inl ⟨by omega, rfl⟩, trivial⟩, hS.F ht⟩) hS.2.2 dX6_shire_51
            · skip
              refine iif_neF (a := 0) (tgt := 36) hx hb (by decide) dX6_shire_31 (by decide) (by decide) ?_
              refine lv_iconst (v := (-1)) hx hb dX6_shire_34 (by decide) ?_
              refine W.widen (k := 0) (n := 0) (by omega) (by omega) ?_
              exact W.iret (v := (-1)) hx hb hr (fun t ht hW => ⟨⟨_, (), rfl, Or.inr (⟨by omega, rfl⟩), trivial⟩, hS.F ht⟩) hS.2.2 dX6_shire_35
        · skip
          refine lv_iconst (v := (-1)) hx hb dX6_shire_20 (by decide) ?_
          refine W.widen (k := 0) (n := 0) (by omega) (by omega) ?_
          exact W.iret (v := (-1)) hx hb hr (fun t ht hW => ⟨⟨_, (), rfl, Or.inr (⟨by omega, rfl⟩), trivial⟩, hS.F ht⟩) hS.2.2 dX6_shire_21

set_option maxHeartbeats 4000000 in
set_option maxRecDepth 100000 in
theorem c_X7_in (l : Launch) (D : va_G) (c : Nat → ClassId) (ts : Nat × Nat) (sz : Nat)  (a0 : Int32) (i_a0 : Int) (hi_a0 : a0.toInt = i_a0) : Met l yX7_in wsX7_in ({ frames := 0, cells := 0, slots := 0, locals := 0 }) (va_Pc [.int a0, .int 0, .int 7] (Pre0 D c ts [] sz)) (vp_Si (fun r : Int32 => ((0 ≤ i_a0 ∧ i_a0 ≤ 7) ∧ r = 1) ∨ ((¬ (0 ≤ i_a0 ∧ i_a0 ≤ 7)) ∧ r = 0))) 0 0 (fun _ => False) := by
  refine Met.ofW (cc := cX7_in) (maxL := 3) (ret := (some .boolean)) (by decide) rfl ?_
  intro p e s m args below meth cd s₁ B hml hv
  obtain ⟨rfl, hsz, hP, hD0, hAm, hSt⟩ := hv
  have hx := B.exec
  have hb := B.bytes
  have hr := B.returns
  have hts := atoms_spec (ws := wsX7_in) B.pre
  have hown : s.vm.findClass RX7 = some m.cls := findClass_of_methodNamed B.named
  have hlocks := B.notSynchronized
  subst hsz
  have hK := hAm.1
  have hD := hD0.self (sz := s.heap.size)
  generalize hAe : va_A [] s.heap.size = A at hD hSt
  have hA : ∀ q : Nat, s.heap.size ≤ q → A q := fun q h => by rw [← hAe]; exact Or.inr h
  have hS : va_S A s.heap s.heap [] := va_S.rf
  clear hD0 hAe
  have hl := lv_entry ([.int a0, .int 0, .int 7]) (n := 3) (Nat.le_of_ble_eq_true rfl)
  rw [lg_entry_eq]
  generalize (lg_sl ([.int a0, .int 0, .int 7]) ++ List.replicate (3 - (lg_sl ([.int a0, .int 0, .int 7])).length) Slot.unset).toArray = ls at hl ⊢
  have hl : lv_has ls 3 [(0, .int a0), (1, .int 0), (2, .int 7)] := hl
  refine lv_iload_n hx hb dX7_in_0 rfl (lv_at hl 0 rfl) ?_
  refine lv_iload_n hx hb dX7_in_1 rfl (lv_at hl 1 rfl) ?_
  refine iicmp_lt (a := i_a0) (b := 0) (tgt := 14) hx hb hi_a0 (by decide) dX7_in_2 (by decide) (fun k_1 => ?_) (fun k_1 => ?_)
  · skip
    refine lv_iconst (v := 0) hx hb dX7_in_14 (by decide) ?_
    exact W.zret (v := 0) hx hb hr (by decide) (fun t ht hW => ⟨_, rfl, Or.inr (⟨by omega, rfl⟩), ht⟩) (fun _ h => by cases h) dX7_in_15
  · skip
    refine lv_iload_n hx hb dX7_in_5 rfl (lv_at hl 0 rfl) ?_
    refine lv_iload_n hx hb dX7_in_6 rfl (lv_at hl 2 rfl) ?_
    refine iicmp_gt (a := i_a0) (b := 7) (tgt := 14) hx hb hi_a0 (by decide) dX7_in_7 (by decide) (fun k_2 => ?_) (fun k_2 => ?_)
    · skip
      refine lv_iconst (v := 0) hx hb dX7_in_14 (by decide) ?_
      exact W.zret (v := 0) hx hb hr (by decide) (fun t ht hW => ⟨_, rfl, Or.inr (⟨by omega, rfl⟩), ht⟩) (fun _ h => by cases h) dX7_in_15
    · skip
      refine lv_iconst (v := 1) hx hb dX7_in_10 (by decide) ?_
      refine lv_goto (tgt := 15) hx hb dX7_in_11 (by decide) ?_
      exact W.zret (v := 1) hx hb hr (by decide) (fun t ht hW => ⟨_, rfl, Or.inl ⟨by omega, rfl⟩, ht⟩) (fun _ h => by cases h) dX7_in_15

set_option maxHeartbeats 4000000 in
set_option maxRecDepth 100000 in
theorem c_X7_in_1 (l : Launch) (D : va_G) (c : Nat → ClassId) (ts : Nat × Nat) (sz : Nat)  (a0 : Int32) (i_a0 : Int) (hi_a0 : a0.toInt = i_a0) : Met l yX7_in wsX7_in ({ frames := 0, cells := 0, slots := 0, locals := 0 }) (va_Pc [.int a0, .int 0, .int 100000] (Pre0 D c ts [] sz)) (vp_Si (fun r : Int32 => ((0 ≤ i_a0 ∧ i_a0 ≤ 100000) ∧ r = 1) ∨ ((¬ (0 ≤ i_a0 ∧ i_a0 ≤ 100000)) ∧ r = 0))) 0 0 (fun _ => False) := by
  refine Met.ofW (cc := cX7_in) (maxL := 3) (ret := (some .boolean)) (by decide) rfl ?_
  intro p e s m args below meth cd s₁ B hml hv
  obtain ⟨rfl, hsz, hP, hD0, hAm, hSt⟩ := hv
  have hx := B.exec
  have hb := B.bytes
  have hr := B.returns
  have hts := atoms_spec (ws := wsX7_in) B.pre
  have hown : s.vm.findClass RX7 = some m.cls := findClass_of_methodNamed B.named
  have hlocks := B.notSynchronized
  subst hsz
  have hK := hAm.1
  have hD := hD0.self (sz := s.heap.size)
  generalize hAe : va_A [] s.heap.size = A at hD hSt
  have hA : ∀ q : Nat, s.heap.size ≤ q → A q := fun q h => by rw [← hAe]; exact Or.inr h
  have hS : va_S A s.heap s.heap [] := va_S.rf
  clear hD0 hAe
  have hl := lv_entry ([.int a0, .int 0, .int 100000]) (n := 3) (Nat.le_of_ble_eq_true rfl)
  rw [lg_entry_eq]
  generalize (lg_sl ([.int a0, .int 0, .int 100000]) ++ List.replicate (3 - (lg_sl ([.int a0, .int 0, .int 100000])).length) Slot.unset).toArray = ls at hl ⊢
  have hl : lv_has ls 3 [(0, .int a0), (1, .int 0), (2, .int 100000)] := hl
  refine lv_iload_n hx hb dX7_in_0 rfl (lv_at hl 0 rfl) ?_
  refine lv_iload_n hx hb dX7_in_1 rfl (lv_at hl 1 rfl) ?_
  refine iicmp_lt (a := i_a0) (b := 0) (tgt := 14) hx hb hi_a0 (by decide) dX7_in_2 (by decide) (fun k_1 => ?_) (fun k_1 => ?_)
  · skip
    refine lv_iconst (v := 0) hx hb dX7_in_14 (by decide) ?_
    exact W.zret (v := 0) hx hb hr (by decide) (fun t ht hW => ⟨_, rfl, Or.inr (⟨by omega, rfl⟩), ht⟩) (fun _ h => by cases h) dX7_in_15
  · skip
    refine lv_iload_n hx hb dX7_in_5 rfl (lv_at hl 0 rfl) ?_
    refine lv_iload_n hx hb dX7_in_6 rfl (lv_at hl 2 rfl) ?_
    refine iicmp_gt (a := i_a0) (b := 100000) (tgt := 14) hx hb hi_a0 (by decide) dX7_in_7 (by decide) (fun k_2 => ?_) (fun k_2 => ?_)
    · skip
      refine lv_iconst (v := 0) hx hb dX7_in_14 (by decide) ?_
      exact W.zret (v := 0) hx hb hr (by decide) (fun t ht hW => ⟨_, rfl, Or.inr (⟨by omega, rfl⟩), ht⟩) (fun _ h => by cases h) dX7_in_15
    · skip
      refine lv_iconst (v := 1) hx hb dX7_in_10 (by decide) ?_
      refine lv_goto (tgt := 15) hx hb dX7_in_11 (by decide) ?_
      exact W.zret (v := 1) hx hb hr (by decide) (fun t ht hW => ⟨_, rfl, Or.inl ⟨by omega, rfl⟩, ht⟩) (fun _ h => by cases h) dX7_in_15

set_option maxHeartbeats 4000000 in
set_option maxRecDepth 100000 in
theorem c_X7_in_2 (l : Launch) (D : va_G) (c : Nat → ClassId) (ts : Nat × Nat) (sz : Nat)  (a0 : Int32) (i_a0 : Int) (hi_a0 : a0.toInt = i_a0) : Met l yX7_in wsX7_in ({ frames := 0, cells := 0, slots := 0, locals := 0 }) (va_Pc [.int a0, .int 0, .int 15] (Pre0 D c ts [] sz)) (vp_Si (fun r : Int32 => ((0 ≤ i_a0 ∧ i_a0 ≤ 15) ∧ r = 1) ∨ ((¬ (0 ≤ i_a0 ∧ i_a0 ≤ 15)) ∧ r = 0))) 0 0 (fun _ => False) := by
  refine Met.ofW (cc := cX7_in) (maxL := 3) (ret := (some .boolean)) (by decide) rfl ?_
  intro p e s m args below meth cd s₁ B hml hv
  obtain ⟨rfl, hsz, hP, hD0, hAm, hSt⟩ := hv
  have hx := B.exec
  have hb := B.bytes
  have hr := B.returns
  have hts := atoms_spec (ws := wsX7_in) B.pre
  have hown : s.vm.findClass RX7 = some m.cls := findClass_of_methodNamed B.named
  have hlocks := B.notSynchronized
  subst hsz
  have hK := hAm.1
  have hD := hD0.self (sz := s.heap.size)
  generalize hAe : va_A [] s.heap.size = A at hD hSt
  have hA : ∀ q : Nat, s.heap.size ≤ q → A q := fun q h => by rw [← hAe]; exact Or.inr h
  have hS : va_S A s.heap s.heap [] := va_S.rf
  clear hD0 hAe
  have hl := lv_entry ([.int a0, .int 0, .int 15]) (n := 3) (Nat.le_of_ble_eq_true rfl)
  rw [lg_entry_eq]
  generalize (lg_sl ([.int a0, .int 0, .int 15]) ++ List.replicate (3 - (lg_sl ([.int a0, .int 0, .int 15])).length) Slot.unset).toArray = ls at hl ⊢
  have hl : lv_has ls 3 [(0, .int a0), (1, .int 0), (2, .int 15)] := hl
  refine lv_iload_n hx hb dX7_in_0 rfl (lv_at hl 0 rfl) ?_
  refine lv_iload_n hx hb dX7_in_1 rfl (lv_at hl 1 rfl) ?_
  refine iicmp_lt (a := i_a0) (b := 0) (tgt := 14) hx hb hi_a0 (by decide) dX7_in_2 (by decide) (fun k_1 => ?_) (fun k_1 => ?_)
  · skip
    refine lv_iconst (v := 0) hx hb dX7_in_14 (by decide) ?_
    exact W.zret (v := 0) hx hb hr (by decide) (fun t ht hW => ⟨_, rfl, Or.inr (⟨by omega, rfl⟩), ht⟩) (fun _ h => by cases h) dX7_in_15
  · skip
    refine lv_iload_n hx hb dX7_in_5 rfl (lv_at hl 0 rfl) ?_
    refine lv_iload_n hx hb dX7_in_6 rfl (lv_at hl 2 rfl) ?_
    refine iicmp_gt (a := i_a0) (b := 15) (tgt := 14) hx hb hi_a0 (by decide) dX7_in_7 (by decide) (fun k_2 => ?_) (fun k_2 => ?_)
    · skip
      refine lv_iconst (v := 0) hx hb dX7_in_14 (by decide) ?_
      exact W.zret (v := 0) hx hb hr (by decide) (fun t ht hW => ⟨_, rfl, Or.inr (⟨by omega, rfl⟩), ht⟩) (fun _ h => by cases h) dX7_in_15
    · skip
      refine lv_iconst (v := 1) hx hb dX7_in_10 (by decide) ?_
      refine lv_goto (tgt := 15) hx hb dX7_in_11 (by decide) ?_
      exact W.zret (v := 1) hx hb hr (by decide) (fun t ht hW => ⟨_, rfl, Or.inl ⟨by omega, rfl⟩, ht⟩) (fun _ h => by cases h) dX7_in_15

set_option maxHeartbeats 4000000 in
set_option maxRecDepth 100000 in
theorem c_X7_isPerson (l : Launch) (D : va_G) (c : Nat → ClassId) (ts : Nat × Nat) (sz : Nat)  (a0 : Int32) (i_a0 : Int) (hi_a0 : a0.toInt = i_a0) : Met l yX7_isPerson wsX7_isPerson ({ frames := 1, cells := 0, slots := 0, locals := 22 }) (va_Pc [.int a0] (Pre0 D c ts [] sz)) (vp_Si (fun r : Int32 => ((0 ≤ i_a0 ∧ i_a0 ≤ 15) ∧ r = 1) ∨ ((¬ (0 ≤ i_a0 ∧ i_a0 ≤ 15)) ∧ r = 0))) 0 0 (fun _ => False) := by
  refine Met.ofW (cc := cX7_isPerson) (maxL := 1) (ret := (some .boolean)) (by decide) rfl ?_
  intro p e s m args below meth cd s₁ B hml hv
  obtain ⟨rfl, hsz, hP, hD0, hAm, hSt⟩ := hv
  have hx := B.exec
  have hb := B.bytes
  have hr := B.returns
  have hts := atoms_spec (ws := wsX7_isPerson) B.pre
  have hown : s.vm.findClass RX7 = some m.cls := findClass_of_methodNamed B.named
  have hlocks := B.notSynchronized
  subst hsz
  have hK := hAm.1
  have hD := hD0.self (sz := s.heap.size)
  generalize hAe : va_A [] s.heap.size = A at hD hSt
  have hA : ∀ q : Nat, s.heap.size ≤ q → A q := fun q h => by rw [← hAe]; exact Or.inr h
  have hS : va_S A s.heap s.heap [] := va_S.rf
  clear hD0 hAe
  have hl := lv_entry ([.int a0]) (n := 1) (Nat.le_of_ble_eq_true rfl)
  rw [lg_entry_eq]
  generalize (lg_sl ([.int a0]) ++ List.replicate (1 - (lg_sl ([.int a0])).length) Slot.unset).toArray = ls at hl ⊢
  have hl : lv_has ls 1 [(0, .int a0)] := hl
  refine lv_iload_n hx hb dX7_isPerson_0 rfl (lv_at hl 0 rfl) ?_
  refine lv_iconst (v := 0) hx hb dX7_isPerson_1 (by decide) ?_
  refine lv_bipush (v := 15) hx hb dX7_isPerson_2 (by decide) ?_
  have hPc := hP.sub (ws' := []) [] rfl
  have hDc := hD.sub (ws' := []) [] (by decide) rfl
  have hFc := va_free (wc := []) hD hS hA [] rfl
  refine va_csi (va_runS (As := [.int a0, .int 0, .int 15]) (rest := []) ⟨hx, hb, hml, hown, hts⟩ (c_X7_in_2 l D c ts s.heap.size a0 i_a0 hi_a0) (cwS 3 hts gX7_isPerson_X7_in rfl rfl rfl ⟨rfl, hdX7_in⟩ ⟨(show 0 + 1 ≤ 1 by decide), (show 8 + (3 + 11) + 0 ≤ 22 by decide)⟩) ⟨Pre0.blind, Pre0.at hPc hDc hAm hSt hS hFc⟩ rfl rfl hl.1 rfl (lv_room (Nat.le_of_ble_eq_true rfl)) dX7_isPerson_4 ⟨(show 0 + 0 ≤ 0 by decide), (show 0 + 0 ≤ 0 by decide)⟩) (fun r_2 hw_1 => ?_)
  rcases hw_1 with ⟨hw_1, rfl⟩ | ⟨hw_1, rfl⟩
  · skip
    exact W.zret (v := 1) hx hb hr (by decide) (fun t ht hW => ⟨_, rfl, Or.inl ⟨by omega, rfl⟩, ht⟩) (fun _ h => by cases h) dX7_isPerson_7
  · skip
    exact W.zret (v := 0) hx hb hr (by decide) (fun t ht hW => ⟨_, rfl, Or.inr (⟨by omega, rfl⟩), ht⟩) (fun _ h => by cases h) dX7_isPerson_7

set_option maxHeartbeats 4000000 in
set_option maxRecDepth 100000 in
theorem c_X7_shire (l : Launch) (D : va_G) (c : Nat → ClassId) (ts : Nat × Nat) (sz : Nat) (q : Nat → Nat) (h0 : Nat) (a1 : Int32) (i_a1 : Int) (hi_a1 : a1.toInt = i_a1) (a2 : Int32) (i_a2 : Int) (hi_a2 : a2.toInt = i_a2) (a3 : Int32) (i_a3 : Int) (hi_a3 : a3.toInt = i_a3) : Met l yX7_shire wsX7_shire ({ frames := 2, cells := 0, slots := 0, locals := 42 }) (va_Pc [.ref h0, .int a1, .int a2, .int a3] (Pre0 D c ts [(h0, .inr (7, o7 q v0 w0)), (q 25, .inl (c 1, 8, .inl (fun _ => 0))), (q 26, .inl (c 1, 8, .inl (fun _ => (-1))))] sz)) (va_Qi (fun (r : Int32) (u : Unit) => ((0 ≤ i_a1 ∧ i_a1 ≤ 7 ∧ 0 ≤ i_a2 ∧ i_a2 ≤ 100000 ∧ (i_a3 = -1 ∨ 0 ≤ i_a3 ∧ i_a3 ≤ 15)) ∧ r = 1) ∨ ((¬ (0 ≤ i_a1 ∧ i_a1 ≤ 7 ∧ 0 ≤ i_a2 ∧ i_a2 ≤ 100000 ∧ (i_a3 = -1 ∨ 0 ≤ i_a3 ∧ i_a3 ≤ 15))) ∧ r = (-1))) (fun _ _ => True) (va_A [(h0, .inr (7, o7 q v0 w0)), (q 25, .inl (c 1, 8, .inl (fun _ => 0))), (q 26, .inl (c 1, 8, .inl (fun _ => (-1))))] sz)) 0 0 (va_A [(h0, .inr (7, o7 q v0 w0)), (q 25, .inl (c 1, 8, .inl (fun _ => 0))), (q 26, .inl (c 1, 8, .inl (fun _ => (-1))))] sz) := by
  refine Met.ofW (cc := cX7_shire) (maxL := 4) (ret := (some .int)) (by decide) rfl ?_
  intro p e s m args below meth cd s₁ B hml hv
  obtain ⟨rfl, hsz, hP, hD0, hAm, hSt⟩ := hv
  have hx := B.exec
  have hb := B.bytes
  have hr := B.returns
  have hts := atoms_spec (ws := wsX7_shire) B.pre
  have hown : s.vm.findClass RX7 = some m.cls := findClass_of_methodNamed B.named
  have hlocks := B.notSynchronized
  subst hsz
  have hK := hAm.1
  have hD := hD0.self (sz := s.heap.size)
  generalize hAe : va_A [(h0, .inr (7, o7 q v0 w0)), (q 25, .inl (c 1, 8, .inl (fun _ => 0))), (q 26, .inl (c 1, 8, .inl (fun _ => (-1))))] s.heap.size = A at hD hSt ⊢
  have hA : ∀ q : Nat, s.heap.size ≤ q → A q := fun q h => by rw [← hAe]; exact Or.inr h
  have hS : va_S A s.heap s.heap [] := va_S.rf
  clear hD0 hAe
  have hl := lv_entry ([.ref h0, .int a1, .int a2, .int a3]) (n := 4) (Nat.le_of_ble_eq_true rfl)
  rw [lg_entry_eq]
  generalize (lg_sl ([.ref h0, .int a1, .int a2, .int a3]) ++ List.replicate (4 - (lg_sl ([.ref h0, .int a1, .int a2, .int a3])).length) Slot.unset).toArray = ls at hl ⊢
  have hl : lv_has ls 4 [(0, .ref h0), (1, .int a1), (2, .int a2), (3, .int a3)] := hl
  refine lv_iload_n hx hb dX7_shire_0 rfl (lv_at hl 1 rfl) ?_
  refine lv_iconst (v := 0) hx hb dX7_shire_1 (by decide) ?_
  refine lv_bipush (v := 7) hx hb dX7_shire_2 (by decide) ?_
  have hPc := hP.sub (ws' := []) [] rfl
  have hDc := hD.sub (ws' := []) [] (by decide) rfl
  have hFc := va_free (wc := []) hD hS hA [] rfl
  refine va_csi (va_runS (As := [.int a1, .int 0, .int 7]) (rest := []) ⟨hx, hb, hml, hown, hts⟩ (c_X7_in l D c ts s.heap.size a1 i_a1 hi_a1) (cwS 3 hts gX7_shire_X7_in rfl rfl rfl ⟨rfl, hdX7_in⟩ ⟨(show 0 + 1 ≤ 2 by decide), (show 8 + (3 + 11) + 0 ≤ 42 by decide)⟩) ⟨Pre0.blind, Pre0.at hPc hDc hAm hSt hS hFc⟩ rfl rfl hl.1 rfl (lv_room (Nat.le_of_ble_eq_true rfl)) dX7_shire_4 ⟨(show 0 + 0 ≤ 0 by decide), (show 0 + 0 ≤ 0 by decide)⟩) (fun r_2 hw_1 => ?_)
  rcases hw_1 with ⟨hw_1, rfl⟩ | ⟨hw_1, rfl⟩
  · skip
    refine iif_eqF (a := 1) (tgt := 33) hx hb (by decide) dX7_shire_7 (by decide) (by decide) ?_
    refine lv_iload_n hx hb dX7_shire_10 rfl (lv_at hl 2 rfl) ?_
    refine lv_iconst (v := 0) hx hb dX7_shire_11 (by decide) ?_
    refine lv_ldcw (v := 100000) hx hb hown (hts (.constant RX7 280 (100000)) (mem_i 1 rfl)) dX7_shire_12 ?_
    have hPc := hP.sub (ws' := []) [] rfl
    have hDc := hD.sub (ws' := []) [] (by decide) rfl
    have hFc := va_free (wc := []) hD hS hA [] rfl
    refine va_csi (va_runS (As := [.int a2, .int 0, .int 100000]) (rest := []) ⟨hx, hb, hml, hown, hts⟩ (c_X7_in_1 l D c ts s.heap.size a2 i_a2 hi_a2) (cwS 3 hts gX7_shire_X7_in rfl rfl rfl ⟨rfl, hdX7_in⟩ ⟨(show 0 + 1 ≤ 2 by decide), (show 8 + (3 + 11) + 0 ≤ 42 by decide)⟩) ⟨Pre0.blind, Pre0.at hPc hDc hAm hSt hS hFc⟩ rfl rfl hl.1 rfl (lv_room (Nat.le_of_ble_eq_true rfl)) dX7_shire_15 ⟨(show 0 + 0 ≤ 0 by decide), (show 0 + 0 ≤ 0 by decide)⟩) (fun r_4 hw_3 => ?_)
    rcases hw_3 with ⟨hw_3, rfl⟩ | ⟨hw_3, rfl⟩
    · skip
      refine iif_eqF (a := 1) (tgt := 33) hx hb (by decide) dX7_shire_18 (by decide) (by decide) ?_
      refine lv_iload_n hx hb dX7_shire_21 rfl (lv_at hl 3 rfl) ?_
      refine lv_iconst (v := (-1)) hx hb dX7_shire_22 (by decide) ?_
      refine iicmp_eq (a := i_a3) (b := (-1)) (tgt := 35) hx hb hi_a3 (by decide) dX7_shire_23 (by decide) (fun k_5 => ?_) (fun k_5 => ?_)
      · skip
        refine lv_aload_n hx hb dX7_shire_35 rfl (lv_at hl 0 rfl) ?_
        refine va_get (D := D) (ci := 7) (v := .ref (q 25)) (C := RX7) (T := TX7) (N := 56) hx hb hts (fun _ h => List.mem_cons_of_mem _ (List.mem_append_right _ h)) hown hK hP 0 rfl rfl 25 (by decide) (hts (.fieldLink RX7 44 "CrownTableModel" "farm" "[I") (mem_i 2 rfl)) (fun _ h9 => h9) rfl dX7_shire_36 ?_
        refine lv_iload_n hx hb dX7_shire_39 rfl (lv_at hl 1 rfl) ?_
        refine lv_iload_n hx hb dX7_shire_40 rfl (lv_at hl 2 rfl) ?_
        refine va_iast hx hb hK hP hD hS 1 1 rfl rfl (vin (a := i_a1) hi_a1 (by omega) (by omega)) dX7_shire_41 (fun H locs hP hD hS => ?_)
        obtain ⟨f_6, hP, hD⟩ : ∃ f_6 : Nat → Int32, va_P D vwCl [(h0, .inr (7, o7 q v0 w0)), (q 25, .inl (c 1, 8, .inl f_6)), (q 26, .inl (c 1, 8, .inl (fun _ => (-1))))] H ∧ va_D A [(h0, .inr (7, o7 q v0 w0)), (q 25, .inl (c 1, 8, .inl f_6)), (q 26, .inl (c 1, 8, .inl (fun _ => (-1))))] := ⟨_, hP, hD⟩
        refine lv_aload_n hx hb dX7_shire_42 rfl (lv_at hl 0 rfl) ?_
        refine va_get (D := D) (ci := 7) (v := .ref (q 26)) (C := RX7) (T := TX7) (N := 56) hx hb hts (fun _ h => List.mem_cons_of_mem _ (List.mem_append_right _ h)) hown hK hP 0 rfl rfl 26 (by decide) (hts (.fieldLink RX7 47 "CrownTableModel" "sheriff" "[I") (mem_i 3 rfl)) (fun _ h9 => h9) rfl dX7_shire_43 ?_
        refine lv_iload_n hx hb dX7_shire_46 rfl (lv_at hl 1 rfl) ?_
        refine lv_iload_n hx hb dX7_shire_47 rfl (lv_at hl 3 rfl) ?_
        refine va_iast hx hb hK hP hD hS 2 1 rfl rfl (vin (a := i_a1) hi_a1 (by omega) (by omega)) dX7_shire_48 (fun H locs hP hD hS => ?_)
        obtain ⟨f_7, hP, hD⟩ : ∃ f_7 : Nat → Int32, va_P D vwCl [(h0, .inr (7, o7 q v0 w0)), (q 25, .inl (c 1, 8, .inl f_6)), (q 26, .inl (c 1, 8, .inl f_7))] H ∧ va_D A [(h0, .inr (7, o7 q v0 w0)), (q 25, .inl (c 1, 8, .inl f_6)), (q 26, .inl (c 1, 8, .inl f_7))] := ⟨_, hP, hD⟩
        refine lv_iconst (v := 1) hx hb dX7_shire_49 (by decide) ?_
        refine W.widen (k := 0) (n := 0) (by omega) (by omega) ?_
        exact W.iret (v := 1) hx hb hr (fun t ht hW => ⟨⟨_, (), rfl, Or.inl ⟨by omega, rfl⟩, trivial⟩, hS.F ht⟩) hS.2.2 dX7_shire_50
      · skip
        refine lv_iload_n hx hb dX7_shire_26 rfl (lv_at hl 3 rfl) ?_
        have hPc := hP.sub (ws' := []) [] rfl
        have hDc := hD.sub (ws' := []) [] (by decide) rfl
        have hFc := va_free (wc := []) hD hS hA [] rfl
        refine va_csi (va_runS (As := [.int a3]) (rest := []) ⟨hx, hb, hml, hown, hts⟩ (c_X7_isPerson l D c ts s.heap.size a3 i_a3 hi_a3) (cwS 1 hts gX7_shire_X7_isPerson rfl rfl rfl ⟨rfl, hdX7_isPerson⟩ ⟨(show 1 + 1 ≤ 2 by decide), (show 8 + (1 + 11) + 22 ≤ 42 by decide)⟩) ⟨Pre0.blind, Pre0.at hPc hDc hAm hSt hS hFc⟩ rfl rfl hl.1 rfl (lv_room (Nat.le_of_ble_eq_true rfl)) dX7_shire_27 ⟨(show 0 + 0 ≤ 0 by decide), (show 0 + 0 ≤ 0 by decide)⟩) (fun r_9 hw_8 => ?_)
        rcases hw_8 with ⟨hw_8, rfl⟩ | ⟨hw_8, rfl⟩
        · skip
          refine iif_neT (a := 1) (tgt := 35) hx hb (by decide) dX7_shire_30 (by decide) (by decide) ?_
          refine lv_aload_n hx hb dX7_shire_35 rfl (lv_at hl 0 rfl) ?_
          refine va_get (D := D) (ci := 7) (v := .ref (q 25)) (C := RX7) (T := TX7) (N := 56) hx hb hts (fun _ h => List.mem_cons_of_mem _ (List.mem_append_right _ h)) hown hK hP 0 rfl rfl 25 (by decide) (hts (.fieldLink RX7 44 "CrownTableModel" "farm" "[I") (mem_i 2 rfl)) (fun _ h9 => h9) rfl dX7_shire_36 ?_
          refine lv_iload_n hx hb dX7_shire_39 rfl (lv_at hl 1 rfl) ?_
          refine lv_iload_n hx hb dX7_shire_40 rfl (lv_at hl 2 rfl) ?_
          refine va_iast hx hb hK hP hD hS 1 1 rfl rfl (vin (a := i_a1) hi_a1 (by omega) (by omega)) dX7_shire_41 (fun H locs hP hD hS => ?_)
          obtain ⟨f_10, hP, hD⟩ : ∃ f_10 : Nat → Int32, va_P D vwCl [(h0, .inr (7, o7 q v0 w0)), (q 25, .inl (c 1, 8, .inl f_10)), (q 26, .inl (c 1, 8, .inl (fun _ => (-1))))] H ∧ va_D A [(h0, .inr (7, o7 q v0 w0)), (q 25, .inl (c 1, 8, .inl f_10)), (q 26, .inl (c 1, 8, .inl (fun _ => (-1))))] := ⟨_, hP, hD⟩
          refine lv_aload_n hx hb dX7_shire_42 rfl (lv_at hl 0 rfl) ?_
          refine va_get (D := D) (ci := 7) (v := .ref (q 26)) (C := RX7) (T := TX7) (N := 56) hx hb hts (fun _ h => List.mem_cons_of_mem _ (List.mem_append_right _ h)) hown hK hP 0 rfl rfl 26 (by decide) (hts (.fieldLink RX7 47 "CrownTableModel" "sheriff" "[I") (mem_i 3 rfl)) (fun _ h9 => h9) rfl dX7_shire_43 ?_
          refine lv_iload_n hx hb dX7_shire_46 rfl (lv_at hl 1 rfl) ?_
          refine lv_iload_n hx hb dX7_shire_47 rfl (lv_at hl 3 rfl) ?_
          refine va_iast hx hb hK hP hD hS 2 1 rfl rfl (vin (a := i_a1) hi_a1 (by omega) (by omega)) dX7_shire_48 (fun H locs hP hD hS => ?_)
          obtain ⟨f_11, hP, hD⟩ : ∃ f_11 : Nat → Int32, va_P D vwCl [(h0, .inr (7, o7 q v0 w0)), (q 25, .inl (c 1, 8, .inl f_10)), (q 26, .inl (c 1, 8, .inl f_11))] H ∧ va_D A [(h0, .inr (7, o7 q v0 w0)), (q 25, .inl (c 1, 8, .inl f_10)), (q 26, .inl (c 1, 8, .inl f_11))] := ⟨_, hP, hD⟩
          refine lv_iconst (v := 1) hx hb dX7_shire_49 (by decide) ?_
          refine W.widen (k := 0) (n := 0) (by omega) (by omega) ?_
          exact W.iret (v := 1) hx hb hr (fun t ht hW => ⟨⟨_, (), rfl, Or.inl ⟨by omega, rfl⟩, trivial⟩, hS.F ht⟩) hS.2.2 dX7_shire_50
        · skip
          refine iif_neF (a := 0) (tgt := 35) hx hb (by decide) dX7_shire_30 (by decide) (by decide) ?_
          refine lv_iconst (v := (-1)) hx hb dX7_shire_33 (by decide) ?_
          refine W.widen (k := 0) (n := 0) (by omega) (by omega) ?_
          exact W.iret (v := (-1)) hx hb hr (fun t ht hW => ⟨⟨_, (), rfl, Or.inr (⟨by omega, rfl⟩), trivial⟩, hS.F ht⟩) hS.2.2 dX7_shire_34
    · skip
      refine iif_eqT (a := 0) (tgt := 33) hx hb (by decide) dX7_shire_18 (by decide) (by decide) ?_
      refine lv_iconst (v := (-1)) hx hb dX7_shire_33 (by decide) ?_
      refine W.widen (k := 0) (n := 0) (by omega) (by omega) ?_
      exact W.iret (v := (-1)) hx hb hr (fun t ht hW => ⟨⟨_, (), rfl, Or.inr (⟨by omega, rfl⟩), trivial⟩, hS.F ht⟩) hS.2.2 dX7_shire_34
  · skip
    refine iif_eqT (a := 0) (tgt := 33) hx hb (by decide) dX7_shire_7 (by decide) (by decide) ?_
    refine lv_iconst (v := (-1)) hx hb dX7_shire_33 (by decide) ?_
    refine W.widen (k := 0) (n := 0) (by omega) (by omega) ?_
    exact W.iret (v := (-1)) hx hb hr (fun t ht hW => ⟨⟨_, (), rfl, Or.inr (⟨by omega, rfl⟩), trivial⟩, hS.F ht⟩) hS.2.2 dX7_shire_34
