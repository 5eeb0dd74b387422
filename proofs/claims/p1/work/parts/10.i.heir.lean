set_option maxHeartbeats 4000000 in
set_option maxRecDepth 100000 in
theorem c_X6_heir (l : Launch) (D : va_G) (c : Nat → ClassId) (ts : Nat × Nat) (sz : Nat) (q : Nat → Nat) (h0 : Nat) (a1 : Int32) (i_a1 : Int) (hi_a1 : a1.toInt = i_a1) (a2 : Int32) (i_a2 : Int) (hi_a2 : a2.toInt = i_a2) : Met l yX6_heir wsX6_heir ({ frames := 1, cells := 0, slots := 0, locals := 20 }) (va_Pc [.ref h0, .int a1, .int a2] (Pre0 D c ts [(h0, .inr (6, o6 q 0 0 0 0)), (q 14, .inl (c 2, 16, .inr (.inl (fun _ => 0)))), (q 19, .inr (2, [.int 7, .int 400, .ref (q 20), .int 0]))] sz)) (va_Qi (fun (r : Int32) (u : Unit) => ((0 ≤ i_a1 ∧ i_a1 ≤ 15 ∧ 0 ≤ i_a2 ∧ i_a2 ≤ 15 ∧ ¬ i_a1 = i_a2) ∧ r = 0) ∨ ((¬ (0 ≤ i_a1 ∧ i_a1 ≤ 15 ∧ 0 ≤ i_a2 ∧ i_a2 ≤ 15 ∧ ¬ i_a1 = i_a2)) ∧ r = (-1))) (fun _ _ => True) (va_A [(h0, .inr (6, o6 q 0 0 0 0)), (q 14, .inl (c 2, 16, .inr (.inl (fun _ => 0)))), (q 19, .inr (2, [.int 7, .int 400, .ref (q 20), .int 0]))] sz)) 0 0 (va_A [(h0, .inr (6, o6 q 0 0 0 0)), (q 14, .inl (c 2, 16, .inr (.inl (fun _ => 0)))), (q 19, .inr (2, [.int 7, .int 400, .ref (q 20), .int 0]))] sz) := by
  refine Met.ofW (cc := cX6_heir) (maxL := 5) (ret := (some .int)) (by decide) rfl ?_
  intro p e s m args below meth cd s₁ B hml hv
  obtain ⟨rfl, hsz, hP, hD0, hAm, hSt⟩ := hv
  have hx := B.exec
  have hb := B.bytes
  have hr := B.returns
  have hts := atoms_spec (ws := wsX6_heir) B.pre
  have hown : s.vm.findClass RX6 = some m.cls := findClass_of_methodNamed B.named
  have hlocks := B.notSynchronized
  subst hsz
  have hK := hAm.1
  have hD := hD0.self (sz := s.heap.size)
  generalize hAe : va_A [(h0, .inr (6, o6 q 0 0 0 0)), (q 14, .inl (c 2, 16, .inr (.inl (fun _ => 0)))), (q 19, .inr (2, [.int 7, .int 400, .ref (q 20), .int 0]))] s.heap.size = A at hD hSt ⊢
  have hA : ∀ q : Nat, s.heap.size ≤ q → A q := fun q h => by rw [← hAe]; exact Or.inr h
  have hS : va_S A s.heap s.heap [] := va_S.rf
  clear hD0 hAe
  have hl := lv_entry ([.ref h0, .int a1, .int a2]) (n := 5) (Nat.le_of_ble_eq_true rfl)
  rw [lg_entry_eq]
  generalize (lg_sl ([.ref h0, .int a1, .int a2]) ++ List.replicate (5 - (lg_sl ([.ref h0, .int a1, .int a2])).length) Slot.unset).toArray = ls at hl ⊢
  have hl : lv_has ls 5 [(0, .ref h0), (1, .int a1), (2, .int a2)] := hl
  refine lv_iload_n hx hb dX6_heir_0 rfl (lv_at hl 1 rfl) ?_
  have hPc := hP.sub (ws' := []) [] rfl
  have hDc := hD.sub (ws' := []) [] (by decide) rfl
  have hFc := va_free (wc := []) hD hS hA [] rfl
  refine va_csi (va_runS (As := [.int a1]) (rest := []) ⟨hx, hb, hml, hown, hts⟩ (c_X6_isPerson l D c ts s.heap.size a1 i_a1 hi_a1) (cwS 1 hts gX6_heir_X6_isPerson rfl rfl rfl ⟨rfl, hdX6_isPerson⟩ ⟨(show 0 + 1 ≤ 1 by decide), (show 8 + (1 + 11) + 0 ≤ 20 by decide)⟩) ⟨Pre0.blind, Pre0.at hPc hDc hAm hSt hS hFc⟩ rfl rfl hl.1 rfl (lv_room (Nat.le_of_ble_eq_true rfl)) dX6_heir_1 ⟨(show 0 + 0 ≤ 0 by decide), (show 0 + 0 ≤ 0 by decide)⟩) (fun r_2 hw_1 => ?_)
  rcases hw_1 with ⟨hw_1, rfl⟩ | ⟨hw_1, rfl⟩
  · skip
    refine iif_eqF (a := 1) (tgt := 19) hx hb (by decide) dX6_heir_4 (by decide) (by decide) ?_
    refine lv_iload_n hx hb dX6_heir_7 rfl (lv_at hl 2 rfl) ?_
    have hPc := hP.sub (ws' := []) [] rfl
    have hDc := hD.sub (ws' := []) [] (by decide) rfl
    have hFc := va_free (wc := []) hD hS hA [] rfl
    refine va_csi (va_runS (As := [.int a2]) (rest := []) ⟨hx, hb, hml, hown, hts⟩ (c_X6_isPerson l D c ts s.heap.size a2 i_a2 hi_a2) (cwS 1 hts gX6_heir_X6_isPerson rfl rfl rfl ⟨rfl, hdX6_isPerson⟩ ⟨(show 0 + 1 ≤ 1 by decide), (show 8 + (1 + 11) + 0 ≤ 20 by decide)⟩) ⟨Pre0.blind, Pre0.at hPc hDc hAm hSt hS hFc⟩ rfl rfl hl.1 rfl (lv_room (Nat.le_of_ble_eq_true rfl)) dX6_heir_8 ⟨(show 0 + 0 ≤ 0 by decide), (show 0 + 0 ≤ 0 by decide)⟩) (fun r_4 hw_3 => ?_)
    rcases hw_3 with ⟨hw_3, rfl⟩ | ⟨hw_3, rfl⟩
    · skip
      refine iif_eqF (a := 1) (tgt := 19) hx hb (by decide) dX6_heir_11 (by decide) (by decide) ?_
      refine lv_iload_n hx hb dX6_heir_14 rfl (lv_at hl 1 rfl) ?_
      refine lv_iload_n hx hb dX6_heir_15 rfl (lv_at hl 2 rfl) ?_
      refine iicmp_ne (a := i_a1) (b := i_a2) (tgt := 21) hx hb hi_a1 hi_a2 dX6_heir_16 (by decide) (fun k_5 => ?_) (fun k_5 => ?_)
      · skip
        refine lv_iconst (v := 0) hx hb dX6_heir_21 (by decide) ?_
        refine lv_istore_n (lv' := [(3, .int 0), (0, .ref h0), (1, .int a1), (2, .int a2)]) hx hb dX6_heir_22 rfl hl (by decide) rfl (fun ls hl => ?_)
        refine lv_iconst (v := 0) hx hb dX6_heir_23 (by decide) ?_
        refine lv_istore (lv' := [(4, .int 0), (3, .int 0), (0, .ref h0), (1, .int a1), (2, .int a2)]) hx hb dX6_heir_24 hl (by decide) rfl (fun ls hl => ?_)
        refine lv_iload hx hb dX6_heir_26 (lv_at hl 0 rfl) ?_
        refine lv_aload_n hx hb dX6_heir_28 rfl (lv_at hl 2 rfl) ?_
        refine va_get (D := D) (ci := 6) (v := .ref (q 19)) (C := RX6) (T := TX6) (N := 18) hx hb hts (fun _ h => List.mem_cons_of_mem _ (List.mem_append_left _ (List.mem_append_right _ h))) hown hK hP 0 rfl rfl 11 (by decide) (hts (.fieldLink RX6 65 "CrownTable" "debts" "LCrownTable$Rows;") (mem_i 1 rfl)) (fun _ h9 => h9) rfl dX6_heir_29 ?_
        refine va_getN (D := D) (ci := 2) (v := .int 0) (own := RX6) (ref := "CrownTable$Rows") (host := RX6) (index := 155) (C := RX2) (T := TX2) (N := 4) hx hb hts (fun _ h => List.mem_cons_of_mem _ (List.mem_append_right _ h)) hown hK hP 2 rfl rfl 3 (by decide) (show (Cond.fieldLinkNest RX6 155 "CrownTable$Rows" "size" "I" RX6).before _ _ = true from va_Nw.use rfl (hAm.2.1.2 (RX6, 155, "CrownTable$Rows", "size", "I", RX6) (mem_i 3 rfl))) (fun _ h9 => h9) rfl dX6_heir_32 ?_
        refine iicmp_geT (a := 0) (b := 0) (tgt := 64) hx hb (by decide) (by decide) dX6_heir_35 (by decide) (by decide) ?_
        refine lv_aload_n hx hb dX6_heir_64 rfl (lv_at hl 2 rfl) ?_
        refine va_get (D := D) (ci := 6) (v := .ref (q 14)) (C := RX6) (T := TX6) (N := 18) hx hb hts (fun _ h => List.mem_cons_of_mem _ (List.mem_append_left _ (List.mem_append_right _ h))) hown hK hP 0 rfl rfl 6 (by decide) (hts (.fieldLink RX6 47 "CrownTable" "credits" "[J") (mem_i 2 rfl)) (fun _ h9 => h9) rfl dX6_heir_65 ?_
        refine lv_iload_n hx hb dX6_heir_68 rfl (lv_at hl 4 rfl) ?_
        refine lv_dup2_11 hx hb dX6_heir_69 rfl rfl ?_
        refine va_lald hx hb hK hP 1 2 rfl rfl (vin (a := i_a2) hi_a2 (by omega) (by omega)) dX6_heir_70 ?_
        refine lk_l (y := 0) rfl ?_
        refine lv_aload_n hx hb dX6_heir_71 rfl (lv_at hl 2 rfl) ?_
        refine va_get (D := D) (ci := 6) (v := .ref (q 14)) (C := RX6) (T := TX6) (N := 18) hx hb hts (fun _ h => List.mem_cons_of_mem _ (List.mem_append_left _ (List.mem_append_right _ h))) hown hK hP 0 rfl rfl 6 (by decide) (hts (.fieldLink RX6 47 "CrownTable" "credits" "[J") (mem_i 2 rfl)) (fun _ h9 => h9) rfl dX6_heir_72 ?_
        refine lv_iload_n hx hb dX6_heir_75 rfl (lv_at hl 3 rfl) ?_
        refine va_lald hx hb hK hP 1 2 rfl rfl (vin (a := i_a1) hi_a1 (by omega) (by omega)) dX6_heir_76 ?_
        refine lk_l (y := 0) rfl ?_
        refine lv_ladd hx hb dX6_heir_77 ?_
        refine lk_l (y := 0) (by decide) ?_
        refine va_last hx hb hK hP hD hS 1 2 rfl rfl (vin (a := i_a2) hi_a2 (by omega) (by omega)) dX6_heir_78 (fun H locs hP hD hS => ?_)
        obtain ⟨g_6, hP, hD⟩ : ∃ g_6 : Nat → Int64, va_P D vwCl [(h0, .inr (6, o6 q 0 0 0 0)), (q 14, .inl (c 2, 16, .inr (.inl g_6))), (q 19, .inr (2, [.int 7, .int 400, .ref (q 20), .int 0]))] H ∧ va_D A [(h0, .inr (6, o6 q 0 0 0 0)), (q 14, .inl (c 2, 16, .inr (.inl g_6))), (q 19, .inr (2, [.int 7, .int 400, .ref (q 20), .int 0]))] := ⟨_, hP, hD⟩
        refine lv_aload_n hx hb dX6_heir_79 rfl (lv_at hl 2 rfl) ?_
        refine va_get (D := D) (ci := 6) (v := .ref (q 14)) (C := RX6) (T := TX6) (N := 18) hx hb hts (fun _ h => List.mem_cons_of_mem _ (List.mem_append_left _ (List.mem_append_right _ h))) hown hK hP 0 rfl rfl 6 (by decide) (hts (.fieldLink RX6 47 "CrownTable" "credits" "[J") (mem_i 2 rfl)) (fun _ h9 => h9) rfl dX6_heir_80 ?_
        refine lv_iload_n hx hb dX6_heir_83 rfl (lv_at hl 3 rfl) ?_
        refine lv_lconst (v := 0) hx hb dX6_heir_84 (by decide) ?_
        refine va_last hx hb hK hP hD hS 1 2 rfl rfl (vin (a := i_a1) hi_a1 (by omega) (by omega)) dX6_heir_85 (fun H locs hP hD hS => ?_)
        obtain ⟨g_7, hP, hD⟩ : ∃ g_7 : Nat → Int64, va_P D vwCl [(h0, .inr (6, o6 q 0 0 0 0)), (q 14, .inl (c 2, 16, .inr (.inl g_7))), (q 19, .inr (2, [.int 7, .int 400, .ref (q 20), .int 0]))] H ∧ va_D A [(h0, .inr (6, o6 q 0 0 0 0)), (q 14, .inl (c 2, 16, .inr (.inl g_7))), (q 19, .inr (2, [.int 7, .int 400, .ref (q 20), .int 0]))] := ⟨_, hP, hD⟩
        refine lv_iload_n hx hb dX6_heir_86 rfl (lv_at hl 1 rfl) ?_
        refine W.widen (k := 0) (n := 0) (by omega) (by omega) ?_
        exact W.iret (v := 0) hx hb hr (fun t ht hW => ⟨⟨_, (), rfl, Or.inl ⟨by omega, rfl⟩, trivial⟩, hS.F ht⟩) hS.2.2 dX6_heir_87
      · skip
        refine lv_iconst (v := (-1)) hx hb dX6_heir_19 (by decide) ?_
        refine W.widen (k := 0) (n := 0) (by omega) (by omega) ?_
        exact W.iret (v := (-1)) hx hb hr (fun t ht hW => ⟨⟨_, (), rfl, Or.inr (⟨by omega, rfl⟩), trivial⟩, hS.F ht⟩) hS.2.2 dX6_heir_20
    · skip
      refine iif_eqT (a := 0) (tgt := 19) hx hb (by decide) dX6_heir_11 (by decide) (by decide) ?_
      refine lv_iconst (v := (-1)) hx hb dX6_heir_19 (by decide) ?_
      refine W.widen (k := 0) (n := 0) (by omega) (by omega) ?_
      exact W.iret (v := (-1)) hx hb hr (fun t ht hW => ⟨⟨_, (), rfl, Or.inr (⟨by omega, rfl⟩), trivial⟩, hS.F ht⟩) hS.2.2 dX6_heir_20
  · skip
    refine iif_eqT (a := 0) (tgt := 19) hx hb (by decide) dX6_heir_4 (by decide) (by decide) ?_
    refine lv_iconst (v := (-1)) hx hb dX6_heir_19 (by decide) ?_
    refine W.widen (k := 0) (n := 0) (by omega) (by omega) ?_
    exact W.iret (v := (-1)) hx hb hr (fun t ht hW => ⟨⟨_, (), rfl, Or.inr (⟨by omega, rfl⟩), trivial⟩, hS.F ht⟩) hS.2.2 dX6_heir_20

set_option maxHeartbeats 4000000 in
set_option maxRecDepth 100000 in
theorem c_X7_heir (l : Launch) (D : va_G) (c : Nat → ClassId) (ts : Nat × Nat) (sz : Nat) (q : Nat → Nat) (h0 : Nat) (a1 : Int32) (i_a1 : Int) (hi_a1 : a1.toInt = i_a1) (a2 : Int32) (i_a2 : Int) (hi_a2 : a2.toInt = i_a2) : Met l yX7_heir wsX7_heir ({ frames := 2, cells := 0, slots := 0, locals := 42 }) (va_Pc [.ref h0, .int a1, .int a2] (Pre0 D c ts [(h0, .inr (7, o7 q v0 w0)), (q 35, .inl (c 2, 16, .inr (.inl (fun _ => 0))))] sz)) (va_Qi (fun (r : Int32) (u : Unit) => ((0 ≤ i_a1 ∧ i_a1 ≤ 15 ∧ 0 ≤ i_a2 ∧ i_a2 ≤ 15 ∧ ¬ i_a1 = i_a2) ∧ r = 0) ∨ ((¬ (0 ≤ i_a1 ∧ i_a1 ≤ 15 ∧ 0 ≤ i_a2 ∧ i_a2 ≤ 15 ∧ ¬ i_a1 = i_a2)) ∧ r = (-1))) (fun _ _ => True) (va_A [(h0, .inr (7, o7 q v0 w0)), (q 35, .inl (c 2, 16, .inr (.inl (fun _ => 0))))] sz)) 0 0 (va_A [(h0, .inr (7, o7 q v0 w0)), (q 35, .inl (c 2, 16, .inr (.inl (fun _ => 0))))] sz) := by
  refine Met.ofW (cc := cX7_heir) (maxL := 5) (ret := (some .int)) (by decide) rfl ?_
  intro p e s m args below meth cd s₁ B hml hv
  obtain ⟨rfl, hsz, hP, hD0, hAm, hSt⟩ := hv
  have hx := B.exec
  have hb := B.bytes
  have hr := B.returns
  have hts := atoms_spec (ws := wsX7_heir) B.pre
  have hown : s.vm.findClass RX7 = some m.cls := findClass_of_methodNamed B.named
  have hlocks := B.notSynchronized
  subst hsz
  have hK := hAm.1
  have hD := hD0.self (sz := s.heap.size)
  generalize hAe : va_A [(h0, .inr (7, o7 q v0 w0)), (q 35, .inl (c 2, 16, .inr (.inl (fun _ => 0))))] s.heap.size = A at hD hSt ⊢
  have hA : ∀ q : Nat, s.heap.size ≤ q → A q := fun q h => by rw [← hAe]; exact Or.inr h
  have hS : va_S A s.heap s.heap [] := va_S.rf
  clear hD0 hAe
  have hl := lv_entry ([.ref h0, .int a1, .int a2]) (n := 5) (Nat.le_of_ble_eq_true rfl)
  rw [lg_entry_eq]
  generalize (lg_sl ([.ref h0, .int a1, .int a2]) ++ List.replicate (5 - (lg_sl ([.ref h0, .int a1, .int a2])).length) Slot.unset).toArray = ls at hl ⊢
  have hl : lv_has ls 5 [(0, .ref h0), (1, .int a1), (2, .int a2)] := hl
  refine lv_iload_n hx hb dX7_heir_0 rfl (lv_at hl 1 rfl) ?_
  have hPc := hP.sub (ws' := []) [] rfl
  have hDc := hD.sub (ws' := []) [] (by decide) rfl
  have hFc := va_free (wc := []) hD hS hA [] rfl
  refine va_csi (va_runS (As := [.int a1]) (rest := []) ⟨hx, hb, hml, hown, hts⟩ (c_X7_isPerson l D c ts s.heap.size a1 i_a1 hi_a1) (cwS 1 hts gX7_heir_X7_isPerson rfl rfl rfl ⟨rfl, hdX7_isPerson⟩ ⟨(show 1 + 1 ≤ 2 by decide), (show 8 + (1 + 11) + 22 ≤ 42 by decide)⟩) ⟨Pre0.blind, Pre0.at hPc hDc hAm hSt hS hFc⟩ rfl rfl hl.1 rfl (lv_room (Nat.le_of_ble_eq_true rfl)) dX7_heir_1 ⟨(show 0 + 0 ≤ 0 by decide), (show 0 + 0 ≤ 0 by decide)⟩) (fun r_2 hw_1 => ?_)
  rcases hw_1 with ⟨hw_1, rfl⟩ | ⟨hw_1, rfl⟩
  · skip
    refine iif_eqF (a := 1) (tgt := 19) hx hb (by decide) dX7_heir_4 (by decide) (by decide) ?_
    refine lv_iload_n hx hb dX7_heir_7 rfl (lv_at hl 2 rfl) ?_
    have hPc := hP.sub (ws' := []) [] rfl
    have hDc := hD.sub (ws' := []) [] (by decide) rfl
    have hFc := va_free (wc := []) hD hS hA [] rfl
    refine va_csi (va_runS (As := [.int a2]) (rest := []) ⟨hx, hb, hml, hown, hts⟩ (c_X7_isPerson l D c ts s.heap.size a2 i_a2 hi_a2) (cwS 1 hts gX7_heir_X7_isPerson rfl rfl rfl ⟨rfl, hdX7_isPerson⟩ ⟨(show 1 + 1 ≤ 2 by decide), (show 8 + (1 + 11) + 22 ≤ 42 by decide)⟩) ⟨Pre0.blind, Pre0.at hPc hDc hAm hSt hS hFc⟩ rfl rfl hl.1 rfl (lv_room (Nat.le_of_ble_eq_true rfl)) dX7_heir_8 ⟨(show 0 + 0 ≤ 0 by decide), (show 0 + 0 ≤ 0 by decide)⟩) (fun r_4 hw_3 => ?_)
    rcases hw_3 with ⟨hw_3, rfl⟩ | ⟨hw_3, rfl⟩
    · skip
      refine iif_eqF (a := 1) (tgt := 19) hx hb (by decide) dX7_heir_11 (by decide) (by decide) ?_
      refine lv_iload_n hx hb dX7_heir_14 rfl (lv_at hl 1 rfl) ?_
      refine lv_iload_n hx hb dX7_heir_15 rfl (lv_at hl 2 rfl) ?_
      refine iicmp_ne (a := i_a1) (b := i_a2) (tgt := 21) hx hb hi_a1 hi_a2 dX7_heir_16 (by decide) (fun k_5 => ?_) (fun k_5 => ?_)
      · skip
        refine lv_iconst (v := 0) hx hb dX7_heir_21 (by decide) ?_
        refine lv_istore_n (lv' := [(3, .int 0), (0, .ref h0), (1, .int a1), (2, .int a2)]) hx hb dX7_heir_22 rfl hl (by decide) rfl (fun ls hl => ?_)
        refine lv_iconst (v := 0) hx hb dX7_heir_23 (by decide) ?_
        refine lv_istore (lv' := [(4, .int 0), (3, .int 0), (0, .ref h0), (1, .int a1), (2, .int a2)]) hx hb dX7_heir_24 hl (by decide) rfl (fun ls hl => ?_)
        refine lv_iload hx hb dX7_heir_26 (lv_at hl 0 rfl) ?_
        refine lv_aload_n hx hb dX7_heir_28 rfl (lv_at hl 2 rfl) ?_
        refine va_get (D := D) (ci := 7) (v := .int 0) (C := RX7) (T := TX7) (N := 56) hx hb hts (fun _ h => List.mem_cons_of_mem _ (List.mem_append_right _ h)) hown hK hP 0 rfl rfl 27 (by decide) (hts (.fieldLink RX7 277 "CrownTableModel" "debts" "I") (mem_i 1 rfl)) (fun _ h9 => h9) rfl dX7_heir_29 ?_
        refine iicmp_geT (a := 0) (b := 0) (tgt := 95) hx hb (by decide) (by decide) dX7_heir_32 (by decide) (by decide) ?_
        refine lv_aload_n hx hb dX7_heir_95 rfl (lv_at hl 2 rfl) ?_
        refine va_get (D := D) (ci := 7) (v := .ref (q 35)) (C := RX7) (T := TX7) (N := 56) hx hb hts (fun _ h => List.mem_cons_of_mem _ (List.mem_append_right _ h)) hown hK hP 0 rfl rfl 35 (by decide) (hts (.fieldLink RX7 71 "CrownTableModel" "credit" "[J") (mem_i 5 rfl)) (fun _ h9 => h9) rfl dX7_heir_96 ?_
        refine lv_iload_n hx hb dX7_heir_99 rfl (lv_at hl 4 rfl) ?_
        refine lv_dup2_11 hx hb dX7_heir_100 rfl rfl ?_
        refine va_lald hx hb hK hP 1 2 rfl rfl (vin (a := i_a2) hi_a2 (by omega) (by omega)) dX7_heir_101 ?_
        refine lk_l (y := 0) rfl ?_
        refine lv_aload_n hx hb dX7_heir_102 rfl (lv_at hl 2 rfl) ?_
        refine va_get (D := D) (ci := 7) (v := .ref (q 35)) (C := RX7) (T := TX7) (N := 56) hx hb hts (fun _ h => List.mem_cons_of_mem _ (List.mem_append_right _ h)) hown hK hP 0 rfl rfl 35 (by decide) (hts (.fieldLink RX7 71 "CrownTableModel" "credit" "[J") (mem_i 5 rfl)) (fun _ h9 => h9) rfl dX7_heir_103 ?_
        refine lv_iload_n hx hb dX7_heir_106 rfl (lv_at hl 3 rfl) ?_
        refine va_lald hx hb hK hP 1 2 rfl rfl (vin (a := i_a1) hi_a1 (by omega) (by omega)) dX7_heir_107 ?_
        refine lk_l (y := 0) rfl ?_
        refine lv_ladd hx hb dX7_heir_108 ?_
        refine lk_l (y := 0) (by decide) ?_
        refine va_last hx hb hK hP hD hS 1 2 rfl rfl (vin (a := i_a2) hi_a2 (by omega) (by omega)) dX7_heir_109 (fun H locs hP hD hS => ?_)
        obtain ⟨g_6, hP, hD⟩ : ∃ g_6 : Nat → Int64, va_P D vwCl [(h0, .inr (7, o7 q v0 w0)), (q 35, .inl (c 2, 16, .inr (.inl g_6)))] H ∧ va_D A [(h0, .inr (7, o7 q v0 w0)), (q 35, .inl (c 2, 16, .inr (.inl g_6)))] := ⟨_, hP, hD⟩
        refine lv_aload_n hx hb dX7_heir_110 rfl (lv_at hl 2 rfl) ?_
        refine va_get (D := D) (ci := 7) (v := .ref (q 35)) (C := RX7) (T := TX7) (N := 56) hx hb hts (fun _ h => List.mem_cons_of_mem _ (List.mem_append_right _ h)) hown hK hP 0 rfl rfl 35 (by decide) (hts (.fieldLink RX7 71 "CrownTableModel" "credit" "[J") (mem_i 5 rfl)) (fun _ h9 => h9) rfl dX7_heir_111 ?_
        refine lv_iload_n hx hb dX7_heir_114 rfl (lv_at hl 3 rfl) ?_
        refine lv_lconst (v := 0) hx hb dX7_heir_115 (by decide) ?_
        refine va_last hx hb hK hP hD hS 1 2 rfl rfl (vin (a := i_a1) hi_a1 (by omega) (by omega)) dX7_heir_116 (fun H locs hP hD hS => ?_)
        obtain ⟨g_7, hP, hD⟩ : ∃ g_7 : Nat → Int64, va_P D vwCl [(h0, .inr (7, o7 q v0 w0)), (q 35, .inl (c 2, 16, .inr (.inl g_7)))] H ∧ va_D A [(h0, .inr (7, o7 q v0 w0)), (q 35, .inl (c 2, 16, .inr (.inl g_7)))] := ⟨_, hP, hD⟩
        refine lv_iload_n hx hb dX7_heir_117 rfl (lv_at hl 1 rfl) ?_
        refine W.widen (k := 0) (n := 0) (by omega) (by omega) ?_
        exact W.iret (v := 0) hx hb hr (fun t ht hW => ⟨⟨_, (), rfl, Or.inl ⟨by omega, rfl⟩, trivial⟩, hS.F ht⟩) hS.2.2 dX7_heir_118
      · skip
        refine lv_iconst (v := (-1)) hx hb dX7_heir_19 (by decide) ?_
        refine W.widen (k := 0) (n := 0) (by omega) (by omega) ?_
        exact W.iret (v := (-1)) hx hb hr (fun t ht hW => ⟨⟨_, (), rfl, Or.inr (⟨by omega, rfl⟩), trivial⟩, hS.F ht⟩) hS.2.2 dX7_heir_20
    · skip
      refine iif_eqT (a := 0) (tgt := 19) hx hb (by decide) dX7_heir_11 (by decide) (by decide) ?_
      refine lv_iconst (v := (-1)) hx hb dX7_heir_19 (by decide) ?_
      refine W.widen (k := 0) (n := 0) (by omega) (by omega) ?_
      exact W.iret (v := (-1)) hx hb hr (fun t ht hW => ⟨⟨_, (), rfl, Or.inr (⟨by omega, rfl⟩), trivial⟩, hS.F ht⟩) hS.2.2 dX7_heir_20
  · skip
    refine iif_eqT (a := 0) (tgt := 19) hx hb (by decide) dX7_heir_4 (by decide) (by decide) ?_
    refine lv_iconst (v := (-1)) hx hb dX7_heir_19 (by decide) ?_
    refine W.widen (k := 0) (n := 0) (by omega) (by omega) ?_
    exact W.iret (v := (-1)) hx hb hr (fun t ht hW => ⟨⟨_, (), rfl, Or.inr (⟨by omega, rfl⟩), trivial⟩, hS.F ht⟩) hS.2.2 dX7_heir_20
