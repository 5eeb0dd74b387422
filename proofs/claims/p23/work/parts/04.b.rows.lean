set_option maxHeartbeats 4000000 in
set_option maxRecDepth 100000 in
theorem k_X4_actOf (l : Launch) (D : va_G) (c : Nat → ClassId) (ts : Nat × Nat) (sz : Nat) (A_acts : Nat) (A_shares : Nat) (A_starts : Nat) (A_code : Nat) (A_self : Nat) (n_acts : Nat) (f_acts : Nat → Int32) (a1 : Int32) (i_a1 : Int) (hi_a1 : a1.toInt = i_a1) (hn_acts : n_acts ≤ 2000) : Met l yX4_actOf wsX4_actOf ({ frames := 0, cells := 0, slots := 0, locals := 0 }) (va_Pc [.ref A_self, .int a1] (Pre1 D c [(A_self, .inr (4, [.ref A_acts, .ref A_shares, .ref A_starts, .ref A_code])), (A_acts, .inl (c 1, n_acts, .inl f_acts))])) (vp_Si (fun r : Int32 => True)) 0 0 (fun _ => False) := by
  refine Met.ofW (cc := cX4_actOf) (maxL := 2) (ret := (some .int)) (by decide) rfl ?_
  intro p e s m args below meth cd s₁ B hml hv
  obtain ⟨rfl, hP, hAm⟩ := hv
  have hx := B.exec
  have hb := B.bytes
  have hr := B.returns
  have hts := atoms_spec (ws := wsX4_actOf) B.pre
  have hown : s.vm.findClass RX4 = some m.cls := findClass_of_methodNamed B.named
  have hlocks := B.notSynchronized
  have hK := hAm.1
  have hS : va_S (fun _ => False) s.heap s.heap [] := va_S.rf
  have hl := lv_entry ([.ref A_self, .int a1]) (n := 2) (Nat.le_of_ble_eq_true rfl)
  rw [lg_entry_eq]
  generalize (lg_sl ([.ref A_self, .int a1]) ++ List.replicate (2 - (lg_sl ([.ref A_self, .int a1])).length) Slot.unset).toArray = ls at hl ⊢
  have hl : lv_has ls 2 [(0, .ref A_self), (1, .int a1)] := hl
  have rg_a1 := i32r a1
  refine lv_iload_n hx hb dX4_actOf_0 rfl (lv_at hl 1 rfl) ?_
  refine iif_lt (a := i_a1) (tgt := 13) hx hb hi_a1 dX4_actOf_1 (by decide) (fun k_1 => ?_) (fun k_1 => ?_)
  · skip
    refine lv_iconst (v := 2) hx hb dX4_actOf_13 (by decide) ?_
    refine lv_goto (tgt := 23) hx hb dX4_actOf_14 (by decide) ?_
    have kzz_2 : (2 : Int32).toInt = 2 := by decide
    exact W.iret (v := 2) hx hb hr (fun t ht hW => ⟨_, rfl, trivial, ht⟩) (fun _ h => by cases h) dX4_actOf_23
  · skip
    refine lv_iload_n hx hb dX4_actOf_4 rfl (lv_at hl 1 rfl) ?_
    refine lv_aload_n hx hb dX4_actOf_5 rfl (lv_at hl 0 rfl) ?_
    refine va_get (D := D) (ci := 4) (v := .ref A_acts) (C := RX4) (T := TX4) (N := 4) hx hb hts (fun _ h => List.mem_cons_of_mem _ (List.mem_append_right _ h)) hown hK hP 0 rfl rfl 0 (by decide) (hts (.fieldLink RX4 9 "CrownTable$Text" "acts" "[I") (mem_i 1 rfl)) (fun _ h9 => h9) rfl dX4_actOf_6 ?_
    refine va_alen hx hb hK hP 1 1 rfl rfl rfl dX4_actOf_9 ?_
    obtain ⟨x_3, ex_3⟩ : ∃ x_3 : Int32, x_3 = Int32.ofNat n_acts := ⟨_, rfl⟩
    refine lk_i (y := x_3) ex_3.symm ?_
    have tx_3 : x_3.toInt = (n_acts : Int) := by rw [ex_3]; exact nI_toInt (by omega)
    refine iicmp_lt (a := i_a1) (b := (n_acts : Int)) (tgt := 17) hx hb hi_a1 tx_3 dX4_actOf_10 (by decide) (fun k_4 => ?_) (fun k_4 => ?_)
    · skip
      refine lv_aload_n hx hb dX4_actOf_17 rfl (lv_at hl 0 rfl) ?_
      refine va_get (D := D) (ci := 4) (v := .ref A_acts) (C := RX4) (T := TX4) (N := 4) hx hb hts (fun _ h => List.mem_cons_of_mem _ (List.mem_append_right _ h)) hown hK hP 0 rfl rfl 0 (by decide) (hts (.fieldLink RX4 9 "CrownTable$Text" "acts" "[I") (mem_i 1 rfl)) (fun _ h9 => h9) rfl dX4_actOf_18 ?_
      refine lv_iload_n hx hb dX4_actOf_21 rfl (lv_at hl 1 rfl) ?_
      refine va_iald hx hb hK hP 1 1 rfl rfl (vin (a := i_a1) hi_a1 (by omega) (by omega)) dX4_actOf_22 ?_
      refine lv_topi (fun x_5 ex_5 => ?_)
      exact W.iret (v := x_5) hx hb hr (fun t ht hW => ⟨_, rfl, trivial, ht⟩) (fun _ h => by cases h) dX4_actOf_23
    · skip
      refine lv_iconst (v := 2) hx hb dX4_actOf_13 (by decide) ?_
      refine lv_goto (tgt := 23) hx hb dX4_actOf_14 (by decide) ?_
      have kzz_6 : (2 : Int32).toInt = 2 := by decide
      exact W.iret (v := 2) hx hb hr (fun t ht hW => ⟨_, rfl, trivial, ht⟩) (fun _ h => by cases h) dX4_actOf_23

set_option maxHeartbeats 4000000 in
set_option maxRecDepth 100000 in
theorem k_X4_shareOf (l : Launch) (D : va_G) (c : Nat → ClassId) (ts : Nat × Nat) (sz : Nat) (A_acts : Nat) (A_shares : Nat) (A_starts : Nat) (A_code : Nat) (A_self : Nat) (n_shares : Nat) (f_shares : Nat → Int32) (a1 : Int32) (i_a1 : Int) (hi_a1 : a1.toInt = i_a1) (hn_shares : n_shares ≤ 2000) : Met l yX4_shareOf wsX4_shareOf ({ frames := 0, cells := 0, slots := 0, locals := 0 }) (va_Pc [.ref A_self, .int a1] (Pre1 D c [(A_self, .inr (4, [.ref A_acts, .ref A_shares, .ref A_starts, .ref A_code])), (A_shares, .inl (c 1, n_shares, .inl f_shares))])) (vp_Si (fun r : Int32 => True)) 0 0 (fun _ => False) := by
  refine Met.ofW (cc := cX4_shareOf) (maxL := 2) (ret := (some .int)) (by decide) rfl ?_
  intro p e s m args below meth cd s₁ B hml hv
  obtain ⟨rfl, hP, hAm⟩ := hv
  have hx := B.exec
  have hb := B.bytes
  have hr := B.returns
  have hts := atoms_spec (ws := wsX4_shareOf) B.pre
  have hown : s.vm.findClass RX4 = some m.cls := findClass_of_methodNamed B.named
  have hlocks := B.notSynchronized
  have hK := hAm.1
  have hS : va_S (fun _ => False) s.heap s.heap [] := va_S.rf
  have hl := lv_entry ([.ref A_self, .int a1]) (n := 2) (Nat.le_of_ble_eq_true rfl)
  rw [lg_entry_eq]
  generalize (lg_sl ([.ref A_self, .int a1]) ++ List.replicate (2 - (lg_sl ([.ref A_self, .int a1])).length) Slot.unset).toArray = ls at hl ⊢
  have hl : lv_has ls 2 [(0, .ref A_self), (1, .int a1)] := hl
  have rg_a1 := i32r a1
  refine lv_iload_n hx hb dX4_shareOf_0 rfl (lv_at hl 1 rfl) ?_
  refine iif_lt (a := i_a1) (tgt := 13) hx hb hi_a1 dX4_shareOf_1 (by decide) (fun k_1 => ?_) (fun k_1 => ?_)
  · skip
    refine lv_iconst (v := 0) hx hb dX4_shareOf_13 (by decide) ?_
    refine lv_goto (tgt := 23) hx hb dX4_shareOf_14 (by decide) ?_
    have kzz_2 : (0 : Int32).toInt = 0 := by decide
    exact W.iret (v := 0) hx hb hr (fun t ht hW => ⟨_, rfl, trivial, ht⟩) (fun _ h => by cases h) dX4_shareOf_23
  · skip
    refine lv_iload_n hx hb dX4_shareOf_4 rfl (lv_at hl 1 rfl) ?_
    refine lv_aload_n hx hb dX4_shareOf_5 rfl (lv_at hl 0 rfl) ?_
    refine va_get (D := D) (ci := 4) (v := .ref A_shares) (C := RX4) (T := TX4) (N := 4) hx hb hts (fun _ h => List.mem_cons_of_mem _ (List.mem_append_right _ h)) hown hK hP 0 rfl rfl 1 (by decide) (hts (.fieldLink RX4 15 "CrownTable$Text" "shares" "[I") (mem_i 1 rfl)) (fun _ h9 => h9) rfl dX4_shareOf_6 ?_
    refine va_alen hx hb hK hP 1 1 rfl rfl rfl dX4_shareOf_9 ?_
    obtain ⟨x_3, ex_3⟩ : ∃ x_3 : Int32, x_3 = Int32.ofNat n_shares := ⟨_, rfl⟩
    refine lk_i (y := x_3) ex_3.symm ?_
    have tx_3 : x_3.toInt = (n_shares : Int) := by rw [ex_3]; exact nI_toInt (by omega)
    refine iicmp_lt (a := i_a1) (b := (n_shares : Int)) (tgt := 17) hx hb hi_a1 tx_3 dX4_shareOf_10 (by decide) (fun k_4 => ?_) (fun k_4 => ?_)
    · skip
      refine lv_aload_n hx hb dX4_shareOf_17 rfl (lv_at hl 0 rfl) ?_
      refine va_get (D := D) (ci := 4) (v := .ref A_shares) (C := RX4) (T := TX4) (N := 4) hx hb hts (fun _ h => List.mem_cons_of_mem _ (List.mem_append_right _ h)) hown hK hP 0 rfl rfl 1 (by decide) (hts (.fieldLink RX4 15 "CrownTable$Text" "shares" "[I") (mem_i 1 rfl)) (fun _ h9 => h9) rfl dX4_shareOf_18 ?_
      refine lv_iload_n hx hb dX4_shareOf_21 rfl (lv_at hl 1 rfl) ?_
      refine va_iald hx hb hK hP 1 1 rfl rfl (vin (a := i_a1) hi_a1 (by omega) (by omega)) dX4_shareOf_22 ?_
      refine lv_topi (fun x_5 ex_5 => ?_)
      exact W.iret (v := x_5) hx hb hr (fun t ht hW => ⟨_, rfl, trivial, ht⟩) (fun _ h => by cases h) dX4_shareOf_23
    · skip
      refine lv_iconst (v := 0) hx hb dX4_shareOf_13 (by decide) ?_
      refine lv_goto (tgt := 23) hx hb dX4_shareOf_14 (by decide) ?_
      have kzz_6 : (0 : Int32).toInt = 0 := by decide
      exact W.iret (v := 0) hx hb hr (fun t ht hW => ⟨_, rfl, trivial, ht⟩) (fun _ h => by cases h) dX4_shareOf_23

set_option maxHeartbeats 4000000 in
set_option maxRecDepth 100000 in
theorem k_X4_codeAt (l : Launch) (D : va_G) (c : Nat → ClassId) (ts : Nat × Nat) (sz : Nat) (A_acts : Nat) (A_shares : Nat) (A_starts : Nat) (A_code : Nat) (A_self : Nat) (n_code : Nat) (f_code : Nat → Int32) (a1 : Int32) (i_a1 : Int) (hi_a1 : a1.toInt = i_a1) (hn_code : n_code ≤ 2000) : Met l yX4_codeAt wsX4_codeAt ({ frames := 0, cells := 0, slots := 0, locals := 0 }) (va_Pc [.ref A_self, .int a1] (Pre1 D c [(A_self, .inr (4, [.ref A_acts, .ref A_shares, .ref A_starts, .ref A_code])), (A_code, .inl (c 1, n_code, .inl f_code))])) (vp_Si (fun r : Int32 => True)) 0 0 (fun _ => False) := by
  refine Met.ofW (cc := cX4_codeAt) (maxL := 2) (ret := (some .int)) (by decide) rfl ?_
  intro p e s m args below meth cd s₁ B hml hv
  obtain ⟨rfl, hP, hAm⟩ := hv
  have hx := B.exec
  have hb := B.bytes
  have hr := B.returns
  have hts := atoms_spec (ws := wsX4_codeAt) B.pre
  have hown : s.vm.findClass RX4 = some m.cls := findClass_of_methodNamed B.named
  have hlocks := B.notSynchronized
  have hK := hAm.1
  have hS : va_S (fun _ => False) s.heap s.heap [] := va_S.rf
  have hl := lv_entry ([.ref A_self, .int a1]) (n := 2) (Nat.le_of_ble_eq_true rfl)
  rw [lg_entry_eq]
  generalize (lg_sl ([.ref A_self, .int a1]) ++ List.replicate (2 - (lg_sl ([.ref A_self, .int a1])).length) Slot.unset).toArray = ls at hl ⊢
  have hl : lv_has ls 2 [(0, .ref A_self), (1, .int a1)] := hl
  have rg_a1 := i32r a1
  refine lv_iload_n hx hb dX4_codeAt_0 rfl (lv_at hl 1 rfl) ?_
  refine iif_lt (a := i_a1) (tgt := 13) hx hb hi_a1 dX4_codeAt_1 (by decide) (fun k_1 => ?_) (fun k_1 => ?_)
  · skip
    refine lv_iconst (v := 0) hx hb dX4_codeAt_13 (by decide) ?_
    refine lv_goto (tgt := 23) hx hb dX4_codeAt_14 (by decide) ?_
    have kzz_2 : (0 : Int32).toInt = 0 := by decide
    exact W.iret (v := 0) hx hb hr (fun t ht hW => ⟨_, rfl, trivial, ht⟩) (fun _ h => by cases h) dX4_codeAt_23
  · skip
    refine lv_iload_n hx hb dX4_codeAt_4 rfl (lv_at hl 1 rfl) ?_
    refine lv_aload_n hx hb dX4_codeAt_5 rfl (lv_at hl 0 rfl) ?_
    refine va_get (D := D) (ci := 4) (v := .ref A_code) (C := RX4) (T := TX4) (N := 4) hx hb hts (fun _ h => List.mem_cons_of_mem _ (List.mem_append_right _ h)) hown hK hP 0 rfl rfl 3 (by decide) (hts (.fieldLink RX4 21 "CrownTable$Text" "code" "[I") (mem_i 1 rfl)) (fun _ h9 => h9) rfl dX4_codeAt_6 ?_
    refine va_alen hx hb hK hP 1 1 rfl rfl rfl dX4_codeAt_9 ?_
    obtain ⟨x_3, ex_3⟩ : ∃ x_3 : Int32, x_3 = Int32.ofNat n_code := ⟨_, rfl⟩
    refine lk_i (y := x_3) ex_3.symm ?_
    have tx_3 : x_3.toInt = (n_code : Int) := by rw [ex_3]; exact nI_toInt (by omega)
    refine iicmp_lt (a := i_a1) (b := (n_code : Int)) (tgt := 17) hx hb hi_a1 tx_3 dX4_codeAt_10 (by decide) (fun k_4 => ?_) (fun k_4 => ?_)
    · skip
      refine lv_aload_n hx hb dX4_codeAt_17 rfl (lv_at hl 0 rfl) ?_
      refine va_get (D := D) (ci := 4) (v := .ref A_code) (C := RX4) (T := TX4) (N := 4) hx hb hts (fun _ h => List.mem_cons_of_mem _ (List.mem_append_right _ h)) hown hK hP 0 rfl rfl 3 (by decide) (hts (.fieldLink RX4 21 "CrownTable$Text" "code" "[I") (mem_i 1 rfl)) (fun _ h9 => h9) rfl dX4_codeAt_18 ?_
      refine lv_iload_n hx hb dX4_codeAt_21 rfl (lv_at hl 1 rfl) ?_
      refine va_iald hx hb hK hP 1 1 rfl rfl (vin (a := i_a1) hi_a1 (by omega) (by omega)) dX4_codeAt_22 ?_
      refine lv_topi (fun x_5 ex_5 => ?_)
      exact W.iret (v := x_5) hx hb hr (fun t ht hW => ⟨_, rfl, trivial, ht⟩) (fun _ h => by cases h) dX4_codeAt_23
    · skip
      refine lv_iconst (v := 0) hx hb dX4_codeAt_13 (by decide) ?_
      refine lv_goto (tgt := 23) hx hb dX4_codeAt_14 (by decide) ?_
      have kzz_6 : (0 : Int32).toInt = 0 := by decide
      exact W.iret (v := 0) hx hb hr (fun t ht hW => ⟨_, rfl, trivial, ht⟩) (fun _ h => by cases h) dX4_codeAt_23

set_option maxHeartbeats 4000000 in
set_option maxRecDepth 100000 in
theorem k_X4_startOf (l : Launch) (D : va_G) (c : Nat → ClassId) (ts : Nat × Nat) (sz : Nat) (A_acts : Nat) (A_shares : Nat) (A_starts : Nat) (A_code : Nat) (A_self : Nat) (n_starts : Nat) (f_starts : Nat → Int32) (n_code : Nat) (f_code : Nat → Int32) (a1 : Int32) (i_a1 : Int) (hi_a1 : a1.toInt = i_a1) (hn_starts : n_starts ≤ 2000) (hn_code : n_code ≤ 2000) : Met l yX4_startOf wsX4_startOf ({ frames := 0, cells := 0, slots := 0, locals := 0 }) (va_Pc [.ref A_self, .int a1] (Pre1 D c [(A_self, .inr (4, [.ref A_acts, .ref A_shares, .ref A_starts, .ref A_code])), (A_starts, .inl (c 1, n_starts, .inl f_starts)), (A_code, .inl (c 1, n_code, .inl f_code))])) (vp_Si (fun r : Int32 => True)) 0 0 (fun _ => False) := by
  refine Met.ofW (cc := cX4_startOf) (maxL := 2) (ret := (some .int)) (by decide) rfl ?_
  intro p e s m args below meth cd s₁ B hml hv
  obtain ⟨rfl, hP, hAm⟩ := hv
  have hx := B.exec
  have hb := B.bytes
  have hr := B.returns
  have hts := atoms_spec (ws := wsX4_startOf) B.pre
  have hown : s.vm.findClass RX4 = some m.cls := findClass_of_methodNamed B.named
  have hlocks := B.notSynchronized
  have hK := hAm.1
  have hS : va_S (fun _ => False) s.heap s.heap [] := va_S.rf
  have hl := lv_entry ([.ref A_self, .int a1]) (n := 2) (Nat.le_of_ble_eq_true rfl)
  rw [lg_entry_eq]
  generalize (lg_sl ([.ref A_self, .int a1]) ++ List.replicate (2 - (lg_sl ([.ref A_self, .int a1])).length) Slot.unset).toArray = ls at hl ⊢
  have hl : lv_has ls 2 [(0, .ref A_self), (1, .int a1)] := hl
  have rg_a1 := i32r a1
  refine lv_iload_n hx hb dX4_startOf_0 rfl (lv_at hl 1 rfl) ?_
  refine iif_lt (a := i_a1) (tgt := 13) hx hb hi_a1 dX4_startOf_1 (by decide) (fun k_1 => ?_) (fun k_1 => ?_)
  · skip
    refine lv_aload_n hx hb dX4_startOf_13 rfl (lv_at hl 0 rfl) ?_
    refine va_get (D := D) (ci := 4) (v := .ref A_code) (C := RX4) (T := TX4) (N := 4) hx hb hts (fun _ h => List.mem_cons_of_mem _ (List.mem_append_right _ h)) hown hK hP 0 rfl rfl 3 (by decide) (hts (.fieldLink RX4 21 "CrownTable$Text" "code" "[I") (mem_i 2 rfl)) (fun _ h9 => h9) rfl dX4_startOf_14 ?_
    refine va_alen hx hb hK hP 2 1 rfl rfl rfl dX4_startOf_17 ?_
    obtain ⟨x_2, ex_2⟩ : ∃ x_2 : Int32, x_2 = Int32.ofNat n_code := ⟨_, rfl⟩
    refine lk_i (y := x_2) ex_2.symm ?_
    have tx_2 : x_2.toInt = (n_code : Int) := by rw [ex_2]; exact nI_toInt (by omega)
    refine lv_goto (tgt := 27) hx hb dX4_startOf_18 (by decide) ?_
    exact W.iret (v := x_2) hx hb hr (fun t ht hW => ⟨_, rfl, trivial, ht⟩) (fun _ h => by cases h) dX4_startOf_27
  · skip
    refine lv_iload_n hx hb dX4_startOf_4 rfl (lv_at hl 1 rfl) ?_
    refine lv_aload_n hx hb dX4_startOf_5 rfl (lv_at hl 0 rfl) ?_
    refine va_get (D := D) (ci := 4) (v := .ref A_starts) (C := RX4) (T := TX4) (N := 4) hx hb hts (fun _ h => List.mem_cons_of_mem _ (List.mem_append_right _ h)) hown hK hP 0 rfl rfl 2 (by decide) (hts (.fieldLink RX4 18 "CrownTable$Text" "starts" "[I") (mem_i 1 rfl)) (fun _ h9 => h9) rfl dX4_startOf_6 ?_
    refine va_alen hx hb hK hP 1 1 rfl rfl rfl dX4_startOf_9 ?_
    obtain ⟨x_3, ex_3⟩ : ∃ x_3 : Int32, x_3 = Int32.ofNat n_starts := ⟨_, rfl⟩
    refine lk_i (y := x_3) ex_3.symm ?_
    have tx_3 : x_3.toInt = (n_starts : Int) := by rw [ex_3]; exact nI_toInt (by omega)
    refine iicmp_lt (a := i_a1) (b := (n_starts : Int)) (tgt := 21) hx hb hi_a1 tx_3 dX4_startOf_10 (by decide) (fun k_4 => ?_) (fun k_4 => ?_)
    · skip
      refine lv_aload_n hx hb dX4_startOf_21 rfl (lv_at hl 0 rfl) ?_
      refine va_get (D := D) (ci := 4) (v := .ref A_starts) (C := RX4) (T := TX4) (N := 4) hx hb hts (fun _ h => List.mem_cons_of_mem _ (List.mem_append_right _ h)) hown hK hP 0 rfl rfl 2 (by decide) (hts (.fieldLink RX4 18 "CrownTable$Text" "starts" "[I") (mem_i 1 rfl)) (fun _ h9 => h9) rfl dX4_startOf_22 ?_
      refine lv_iload_n hx hb dX4_startOf_25 rfl (lv_at hl 1 rfl) ?_
      refine va_iald hx hb hK hP 1 1 rfl rfl (vin (a := i_a1) hi_a1 (by omega) (by omega)) dX4_startOf_26 ?_
      refine lv_topi (fun x_5 ex_5 => ?_)
      exact W.iret (v := x_5) hx hb hr (fun t ht hW => ⟨_, rfl, trivial, ht⟩) (fun _ h => by cases h) dX4_startOf_27
    · skip
      refine lv_aload_n hx hb dX4_startOf_13 rfl (lv_at hl 0 rfl) ?_
      refine va_get (D := D) (ci := 4) (v := .ref A_code) (C := RX4) (T := TX4) (N := 4) hx hb hts (fun _ h => List.mem_cons_of_mem _ (List.mem_append_right _ h)) hown hK hP 0 rfl rfl 3 (by decide) (hts (.fieldLink RX4 21 "CrownTable$Text" "code" "[I") (mem_i 2 rfl)) (fun _ h9 => h9) rfl dX4_startOf_14 ?_
      refine va_alen hx hb hK hP 2 1 rfl rfl rfl dX4_startOf_17 ?_
      obtain ⟨x_6, ex_6⟩ : ∃ x_6 : Int32, x_6 = Int32.ofNat n_code := ⟨_, rfl⟩
      refine lk_i (y := x_6) ex_6.symm ?_
      have tx_6 : x_6.toInt = (n_code : Int) := by rw [ex_6]; exact nI_toInt (by omega)
      refine lv_goto (tgt := 27) hx hb dX4_startOf_18 (by decide) ?_
      exact W.iret (v := x_6) hx hb hr (fun t ht hW => ⟨_, rfl, trivial, ht⟩) (fun _ h => by cases h) dX4_startOf_27

set_option maxHeartbeats 4000000 in
set_option maxRecDepth 100000 in
theorem k_X5_tell (l : Launch) (D : va_G) (c : Nat → ClassId) (ts : Nat × Nat) (sz : Nat) (A_facts : Nat) (A_pile : Nat) (A_self : Nat) (f_facts : Nat → Int64) (self_height : Int32) (i_self_height : Int) (hi_self_height : self_height.toInt = i_self_height) (a1 : Int32) (i_a1 : Int) (hi_a1 : a1.toInt = i_a1) (a2 : Int64) (hv_self_height : 0 ≤ i_self_height ∧ i_self_height ≤ 64) : Met l yX5_tell wsX5_tell ({ frames := 0, cells := 0, slots := 0, locals := 0 }) (va_Pc [.ref A_self, .int a1, .long a2] (Pre0 D c ts [(A_self, .inr (5, [.ref A_facts, .ref A_pile, .int self_height])), (A_facts, .inl (c 2, 10, .inr (.inl f_facts)))] sz)) (va_Qv (fun (u : (Nat → Int64) × Unit) => True) (fun u t => va_P D vwCl [(A_self, .inr (5, [.ref A_facts, .ref A_pile, .int self_height])), (A_facts, .inl (c 2, 10, .inr (.inl u.1)))] t.heap ∧ va_D (va_A [(A_self, .inr (5, [.ref A_facts, .ref A_pile, .int self_height])), (A_facts, .inl (c 2, 10, .inr (.inl f_facts)))] sz) [(A_self, .inr (5, [.ref A_facts, .ref A_pile, .int self_height])), (A_facts, .inl (c 2, 10, .inr (.inl u.1)))]) (va_A [(A_self, .inr (5, [.ref A_facts, .ref A_pile, .int self_height])), (A_facts, .inl (c 2, 10, .inr (.inl f_facts)))] sz)) 0 0 (va_A [(A_self, .inr (5, [.ref A_facts, .ref A_pile, .int self_height])), (A_facts, .inl (c 2, 10, .inr (.inl f_facts)))] sz) := by
  refine Met.ofW (cc := cX5_tell) (maxL := 4) (ret := none) (by decide) rfl ?_
  intro p e s m args below meth cd s₁ B hml hv
  obtain ⟨rfl, hsz, hP, hD0, hAm, hSt⟩ := hv
  have hx := B.exec
  have hb := B.bytes
  have hr := B.returns
  have hts := atoms_spec (ws := wsX5_tell) B.pre
  have hown : s.vm.findClass RX5 = some m.cls := findClass_of_methodNamed B.named
  have hlocks := B.notSynchronized
  have hK := hAm.1
  subst hsz
  have hD := hD0.self (sz := s.heap.size)
  generalize hAe : va_A [(A_self, .inr (5, [.ref A_facts, .ref A_pile, .int self_height])), (A_facts, .inl (c 2, 10, .inr (.inl f_facts)))] s.heap.size = A at hD hSt ⊢
  have hA : ∀ q : Nat, s.heap.size ≤ q → A q := fun q h => by rw [← hAe]; exact Or.inr h
  have hS : va_S A s.heap s.heap [] := va_S.rf
  clear hD0 hAe
  have hl := lv_entry ([.ref A_self, .int a1, .long a2]) (n := 4) (Nat.le_of_ble_eq_true rfl)
  rw [lg_entry_eq]
  generalize (lg_sl ([.ref A_self, .int a1, .long a2]) ++ List.replicate (4 - (lg_sl ([.ref A_self, .int a1, .long a2])).length) Slot.unset).toArray = ls at hl ⊢
  have hl : lv_has ls 4 [(0, .ref A_self), (1, .int a1), (2, .long a2)] := hl
  have rg_a1 := i32r a1
  refine lv_iload_n hx hb dX5_tell_0 rfl (lv_at hl 1 rfl) ?_
  refine lv_bipush (v := 11) hx hb dX5_tell_1 (by decide) ?_
  refine iicmp_lt (a := i_a1) (b := 11) (tgt := 22) hx hb hi_a1 (by decide) dX5_tell_3 (by decide) (fun k_1 => ?_) (fun k_1 => ?_)
  · skip
    have hP9 := hP.sub (ws' := [(A_self, .inr (5, [.ref A_facts, .ref A_pile, .int self_height])), (A_facts, .inl (c 2, 10, .inr (.inl f_facts)))]) [0, 1] rfl
    have hD9 := hD.sub (ws' := [(A_self, .inr (5, [.ref A_facts, .ref A_pile, .int self_height])), (A_facts, .inl (c 2, 10, .inr (.inl f_facts)))]) [0, 1] (by decide) rfl
    refine W.widen (k := 0) (n := 0) (by omega) (by omega) ?_
    exact W.vret hx hb hr (fun t ht hW => ⟨⟨(f_facts, ()), rfl, trivial, ⟨by rw [ht]; exact hP9, hD9⟩⟩, hS.F ht⟩) hS.2.2 dX5_tell_22
  · skip
    refine lv_iload_n hx hb dX5_tell_6 rfl (lv_at hl 1 rfl) ?_
    refine lv_bipush (v := 20) hx hb dX5_tell_7 (by decide) ?_
    refine iicmp_gt (a := i_a1) (b := 20) (tgt := 22) hx hb hi_a1 (by decide) dX5_tell_9 (by decide) (fun k_2 => ?_) (fun k_2 => ?_)
    · skip
      have hP9 := hP.sub (ws' := [(A_self, .inr (5, [.ref A_facts, .ref A_pile, .int self_height])), (A_facts, .inl (c 2, 10, .inr (.inl f_facts)))]) [0, 1] rfl
      have hD9 := hD.sub (ws' := [(A_self, .inr (5, [.ref A_facts, .ref A_pile, .int self_height])), (A_facts, .inl (c 2, 10, .inr (.inl f_facts)))]) [0, 1] (by decide) rfl
      refine W.widen (k := 0) (n := 0) (by omega) (by omega) ?_
      exact W.vret hx hb hr (fun t ht hW => ⟨⟨(f_facts, ()), rfl, trivial, ⟨by rw [ht]; exact hP9, hD9⟩⟩, hS.F ht⟩) hS.2.2 dX5_tell_22
    · skip
      refine lv_aload_n hx hb dX5_tell_12 rfl (lv_at hl 0 rfl) ?_
      refine va_get (D := D) (ci := 5) (v := .ref A_facts) (C := RX5) (T := TX5) (N := 3) hx hb hts (fun _ h => List.mem_cons_of_mem _ (List.mem_append_right _ h)) hown hK hP 0 rfl rfl 0 (by decide) (hts (.fieldLink RX5 9 "CrownTable$Weigher" "facts" "[J") (mem_i 1 rfl)) (fun _ h9 => h9) rfl dX5_tell_13 ?_
      refine lv_iload_n hx hb dX5_tell_16 rfl (lv_at hl 1 rfl) ?_
      refine lv_bipush (v := 11) hx hb dX5_tell_17 (by decide) ?_
      refine lv_isub hx hb dX5_tell_19 ?_
      refine lv_topi (fun x_3 ex_3 => ?_)
      have tx_3 : x_3.toInt = (i_a1 - 11) := by rw [ex_3]; exact sub_ti (a := i_a1) (b := 11) hi_a1 (by decide) (by omega) (by omega)
      refine lv_lload_n hx hb dX5_tell_20 rfl (lv_at hl 2 rfl) ?_
      refine va_last hx hb hK hP hD hS 1 2 rfl rfl (vin (a := (i_a1 - 11)) tx_3 (by omega) (by omega)) dX5_tell_21 (fun H locs hP hD hS => ?_)
      obtain ⟨g_4, eg_4, hP, hD⟩ : ∃ g_4 : Nat → Int64, g_4 = vp_updL f_facts x_3.toNatClampNeg a2 ∧ va_P D vwCl [(A_self, .inr (5, [.ref A_facts, .ref A_pile, .int self_height])), (A_facts, .inl (c 2, 10, .inr (.inl g_4)))] H ∧ va_D A [(A_self, .inr (5, [.ref A_facts, .ref A_pile, .int self_height])), (A_facts, .inl (c 2, 10, .inr (.inl g_4)))] := ⟨_, rfl, hP, hD⟩
      have hP9 := hP.sub (ws' := [(A_self, .inr (5, [.ref A_facts, .ref A_pile, .int self_height])), (A_facts, .inl (c 2, 10, .inr (.inl g_4)))]) [0, 1] rfl
      have hD9 := hD.sub (ws' := [(A_self, .inr (5, [.ref A_facts, .ref A_pile, .int self_height])), (A_facts, .inl (c 2, 10, .inr (.inl g_4)))]) [0, 1] (by decide) rfl
      refine W.widen (k := 0) (n := 0) (by omega) (by omega) ?_
      exact W.vret hx hb hr (fun t ht hW => ⟨⟨(g_4, ()), rfl, trivial, ⟨by rw [ht]; exact hP9, hD9⟩⟩, hS.F ht⟩) hS.2.2 dX5_tell_22

set_option maxHeartbeats 4000000 in
set_option maxRecDepth 100000 in
theorem k_X5_push (l : Launch) (D : va_G) (c : Nat → ClassId) (ts : Nat × Nat) (sz : Nat) (A_facts : Nat) (A_pile : Nat) (A_self : Nat) (f_pile : Nat → Int64) (self_height : Int32) (i_self_height : Int) (hi_self_height : self_height.toInt = i_self_height) (a1 : Int64) (hv_self_height : 0 ≤ i_self_height ∧ i_self_height ≤ 64) : Met l yX5_push wsX5_push ({ frames := 0, cells := 0, slots := 0, locals := 0 }) (va_Pc [.ref A_self, .long a1] (Pre0 D c ts [(A_self, .inr (5, [.ref A_facts, .ref A_pile, .int self_height])), (A_pile, .inl (c 2, 64, .inr (.inl f_pile)))] sz)) (va_Qv (fun (u : Int32 × (Nat → Int64) × Unit) => (0 ≤ u.1.toInt ∧ u.1.toInt ≤ 64)) (fun u t => va_P D vwCl [(A_self, .inr (5, [.ref A_facts, .ref A_pile, .int u.1])), (A_pile, .inl (c 2, 64, .inr (.inl u.2.1)))] t.heap ∧ va_D (va_A [(A_self, .inr (5, [.ref A_facts, .ref A_pile, .int self_height])), (A_pile, .inl (c 2, 64, .inr (.inl f_pile)))] sz) [(A_self, .inr (5, [.ref A_facts, .ref A_pile, .int u.1])), (A_pile, .inl (c 2, 64, .inr (.inl u.2.1)))]) (va_A [(A_self, .inr (5, [.ref A_facts, .ref A_pile, .int self_height])), (A_pile, .inl (c 2, 64, .inr (.inl f_pile)))] sz)) 0 0 (va_A [(A_self, .inr (5, [.ref A_facts, .ref A_pile, .int self_height])), (A_pile, .inl (c 2, 64, .inr (.inl f_pile)))] sz) := by
  refine Met.ofW (cc := cX5_push) (maxL := 3) (ret := none) (by decide) rfl ?_
  intro p e s m args below meth cd s₁ B hml hv
  obtain ⟨rfl, hsz, hP, hD0, hAm, hSt⟩ := hv
  have hx := B.exec
  have hb := B.bytes
  have hr := B.returns
  have hts := atoms_spec (ws := wsX5_push) B.pre
  have hown : s.vm.findClass RX5 = some m.cls := findClass_of_methodNamed B.named
  have hlocks := B.notSynchronized
  have hK := hAm.1
  subst hsz
  have hD := hD0.self (sz := s.heap.size)
  generalize hAe : va_A [(A_self, .inr (5, [.ref A_facts, .ref A_pile, .int self_height])), (A_pile, .inl (c 2, 64, .inr (.inl f_pile)))] s.heap.size = A at hD hSt ⊢
  have hA : ∀ q : Nat, s.heap.size ≤ q → A q := fun q h => by rw [← hAe]; exact Or.inr h
  have hS : va_S A s.heap s.heap [] := va_S.rf
  clear hD0 hAe
  have hl := lv_entry ([.ref A_self, .long a1]) (n := 3) (Nat.le_of_ble_eq_true rfl)
  rw [lg_entry_eq]
  generalize (lg_sl ([.ref A_self, .long a1]) ++ List.replicate (3 - (lg_sl ([.ref A_self, .long a1])).length) Slot.unset).toArray = ls at hl ⊢
  have hl : lv_has ls 3 [(0, .ref A_self), (1, .long a1)] := hl
  refine lv_aload_n hx hb dX5_push_0 rfl (lv_at hl 0 rfl) ?_
  refine va_get (D := D) (ci := 5) (v := .int self_height) (C := RX5) (T := TX5) (N := 3) hx hb hts (fun _ h => List.mem_cons_of_mem _ (List.mem_append_right _ h)) hown hK hP 0 rfl rfl 2 (by decide) (hts (.fieldLink RX5 32 "CrownTable$Weigher" "height" "I") (mem_i 1 rfl)) (fun _ h9 => h9) rfl dX5_push_1 ?_
  refine lv_bipush (v := 64) hx hb dX5_push_4 (by decide) ?_
  refine iicmp_ge (a := i_self_height) (b := 64) (tgt := 29) hx hb hi_self_height (by decide) dX5_push_6 (by decide) (fun k_1 => ?_) (fun k_1 => ?_)
  · skip
    have hP9 := hP.sub (ws' := [(A_self, .inr (5, [.ref A_facts, .ref A_pile, .int self_height])), (A_pile, .inl (c 2, 64, .inr (.inl f_pile)))]) [0, 1] rfl
    have hD9 := hD.sub (ws' := [(A_self, .inr (5, [.ref A_facts, .ref A_pile, .int self_height])), (A_pile, .inl (c 2, 64, .inr (.inl f_pile)))]) [0, 1] (by decide) rfl
    refine W.widen (k := 0) (n := 0) (by omega) (by omega) ?_
    exact W.vret hx hb hr (fun t ht hW => ⟨⟨(self_height, f_pile, ()), rfl, (show 0 ≤ self_height.toInt ∧ self_height.toInt ≤ 64 by omega), ⟨by rw [ht]; exact hP9, hD9⟩⟩, hS.F ht⟩) hS.2.2 dX5_push_29
  · skip
    refine lv_aload_n hx hb dX5_push_9 rfl (lv_at hl 0 rfl) ?_
    refine va_get (D := D) (ci := 5) (v := .ref A_pile) (C := RX5) (T := TX5) (N := 3) hx hb hts (fun _ h => List.mem_cons_of_mem _ (List.mem_append_right _ h)) hown hK hP 0 rfl rfl 1 (by decide) (hts (.fieldLink RX5 15 "CrownTable$Weigher" "pile" "[J") (mem_i 2 rfl)) (fun _ h9 => h9) rfl dX5_push_10 ?_
    refine lv_aload_n hx hb dX5_push_13 rfl (lv_at hl 0 rfl) ?_
    refine va_get (D := D) (ci := 5) (v := .int self_height) (C := RX5) (T := TX5) (N := 3) hx hb hts (fun _ h => List.mem_cons_of_mem _ (List.mem_append_right _ h)) hown hK hP 0 rfl rfl 2 (by decide) (hts (.fieldLink RX5 32 "CrownTable$Weigher" "height" "I") (mem_i 1 rfl)) (fun _ h9 => h9) rfl dX5_push_14 ?_
    refine lv_lload_n hx hb dX5_push_17 rfl (lv_at hl 1 rfl) ?_
    refine va_last hx hb hK hP hD hS 1 2 rfl rfl (vin (a := i_self_height) hi_self_height (by omega) (by omega)) dX5_push_18 (fun H locs hP hD hS => ?_)
    obtain ⟨g_2, eg_2, hP, hD⟩ : ∃ g_2 : Nat → Int64, g_2 = vp_updL f_pile self_height.toNatClampNeg a1 ∧ va_P D vwCl [(A_self, .inr (5, [.ref A_facts, .ref A_pile, .int self_height])), (A_pile, .inl (c 2, 64, .inr (.inl g_2)))] H ∧ va_D A [(A_self, .inr (5, [.ref A_facts, .ref A_pile, .int self_height])), (A_pile, .inl (c 2, 64, .inr (.inl g_2)))] := ⟨_, rfl, hP, hD⟩
    refine lv_aload_n hx hb dX5_push_19 rfl (lv_at hl 0 rfl) ?_
    refine lv_dup hx hb dX5_push_20 rfl ?_
    refine va_get (D := D) (ci := 5) (v := .int self_height) (C := RX5) (T := TX5) (N := 3) hx hb hts (fun _ h => List.mem_cons_of_mem _ (List.mem_append_right _ h)) hown hK hP 0 rfl rfl 2 (by decide) (hts (.fieldLink RX5 32 "CrownTable$Weigher" "height" "I") (mem_i 1 rfl)) (fun _ h9 => h9) rfl dX5_push_21 ?_
    refine lv_iconst (v := 1) hx hb dX5_push_24 (by decide) ?_
    refine lv_iadd hx hb dX5_push_25 ?_
    refine lv_topi (fun x_3 ex_3 => ?_)
    have tx_3 : x_3.toInt = (i_self_height + 1) := by rw [ex_3]; exact add_ti (a := i_self_height) (b := 1) hi_self_height (by decide) (by omega) (by omega)
    refine va_put (D := D) (ci := 5) (v := .int x_3) (ty := .int) (C := RX5) (T := TX5) (N := 3) hx hb hts (fun _ h => List.mem_cons_of_mem _ (List.mem_append_right _ h)) tyX5 tyX5_ok nmX5 hown hK hP hD hS 0 rfl rfl 2 (by decide) (hts (.fieldLink RX5 32 "CrownTable$Weigher" "height" "I") (mem_i 1 rfl)) (fun _ h9 => h9) rfl (by decide +kernel) rfl rfl (Nat.le_of_ble_eq_true rfl) dX5_push_26 (fun H locs hP hD hS => ?_)
    have hP : va_P D vwCl [(A_self, .inr (5, [.ref A_facts, .ref A_pile, .int x_3])), (A_pile, .inl (c 2, 64, .inr (.inl g_2)))] H := hP
    have hD : va_D A [(A_self, .inr (5, [.ref A_facts, .ref A_pile, .int x_3])), (A_pile, .inl (c 2, 64, .inr (.inl g_2)))] := hD
    have hP9 := hP.sub (ws' := [(A_self, .inr (5, [.ref A_facts, .ref A_pile, .int x_3])), (A_pile, .inl (c 2, 64, .inr (.inl g_2)))]) [0, 1] rfl
    have hD9 := hD.sub (ws' := [(A_self, .inr (5, [.ref A_facts, .ref A_pile, .int x_3])), (A_pile, .inl (c 2, 64, .inr (.inl g_2)))]) [0, 1] (by decide) rfl
    refine W.widen (k := 0) (n := 0) (by omega) (by omega) ?_
    exact W.vret hx hb hr (fun t ht hW => ⟨⟨(x_3, g_2, ()), rfl, (show 0 ≤ x_3.toInt ∧ x_3.toInt ≤ 64 by omega), ⟨by rw [ht]; exact hP9, hD9⟩⟩, hS.F ht⟩) hS.2.2 dX5_push_29

set_option maxHeartbeats 4000000 in
set_option maxRecDepth 100000 in
theorem k_X5_pop (l : Launch) (D : va_G) (c : Nat → ClassId) (ts : Nat × Nat) (sz : Nat) (A_facts : Nat) (A_pile : Nat) (A_self : Nat) (f_pile : Nat → Int64) (self_height : Int32) (i_self_height : Int) (hi_self_height : self_height.toInt = i_self_height) (hv_self_height : 0 ≤ i_self_height ∧ i_self_height ≤ 64) : Met l yX5_pop wsX5_pop ({ frames := 0, cells := 0, slots := 0, locals := 0 }) (va_Pc [.ref A_self] (Pre0 D c ts [(A_self, .inr (5, [.ref A_facts, .ref A_pile, .int self_height])), (A_pile, .inl (c 2, 64, .inr (.inl f_pile)))] sz)) (va_Ql (fun (r : Int64) (u : Int32 × Unit) => (0 ≤ u.1.toInt ∧ u.1.toInt ≤ 64)) (fun u t => va_P D vwCl [(A_self, .inr (5, [.ref A_facts, .ref A_pile, .int u.1])), (A_pile, .inl (c 2, 64, .inr (.inl f_pile)))] t.heap ∧ va_D (va_A [(A_self, .inr (5, [.ref A_facts, .ref A_pile, .int self_height])), (A_pile, .inl (c 2, 64, .inr (.inl f_pile)))] sz) [(A_self, .inr (5, [.ref A_facts, .ref A_pile, .int u.1])), (A_pile, .inl (c 2, 64, .inr (.inl f_pile)))]) (va_A [(A_self, .inr (5, [.ref A_facts, .ref A_pile, .int self_height])), (A_pile, .inl (c 2, 64, .inr (.inl f_pile)))] sz)) 0 0 (va_A [(A_self, .inr (5, [.ref A_facts, .ref A_pile, .int self_height])), (A_pile, .inl (c 2, 64, .inr (.inl f_pile)))] sz) := by
  refine Met.ofW (cc := cX5_pop) (maxL := 1) (ret := (some .long)) (by decide) rfl ?_
  intro p e s m args below meth cd s₁ B hml hv
  obtain ⟨rfl, hsz, hP, hD0, hAm, hSt⟩ := hv
  have hx := B.exec
  have hb := B.bytes
  have hr := B.returns
  have hts := atoms_spec (ws := wsX5_pop) B.pre
  have hown : s.vm.findClass RX5 = some m.cls := findClass_of_methodNamed B.named
  have hlocks := B.notSynchronized
  have hK := hAm.1
  subst hsz
  have hD := hD0.self (sz := s.heap.size)
  generalize hAe : va_A [(A_self, .inr (5, [.ref A_facts, .ref A_pile, .int self_height])), (A_pile, .inl (c 2, 64, .inr (.inl f_pile)))] s.heap.size = A at hD hSt ⊢
  have hA : ∀ q : Nat, s.heap.size ≤ q → A q := fun q h => by rw [← hAe]; exact Or.inr h
  have hS : va_S A s.heap s.heap [] := va_S.rf
  clear hD0 hAe
  have hl := lv_entry ([.ref A_self]) (n := 1) (Nat.le_of_ble_eq_true rfl)
  rw [lg_entry_eq]
  generalize (lg_sl ([.ref A_self]) ++ List.replicate (1 - (lg_sl ([.ref A_self])).length) Slot.unset).toArray = ls at hl ⊢
  have hl : lv_has ls 1 [(0, .ref A_self)] := hl
  refine lv_aload_n hx hb dX5_pop_0 rfl (lv_at hl 0 rfl) ?_
  refine va_get (D := D) (ci := 5) (v := .int self_height) (C := RX5) (T := TX5) (N := 3) hx hb hts (fun _ h => List.mem_cons_of_mem _ (List.mem_append_right _ h)) hown hK hP 0 rfl rfl 2 (by decide) (hts (.fieldLink RX5 32 "CrownTable$Weigher" "height" "I") (mem_i 1 rfl)) (fun _ h9 => h9) rfl dX5_pop_1 ?_
  refine lv_iconst (v := 1) hx hb dX5_pop_4 (by decide) ?_
  refine iicmp_ge (a := i_self_height) (b := 1) (tgt := 10) hx hb hi_self_height (by decide) dX5_pop_5 (by decide) (fun k_1 => ?_) (fun k_1 => ?_)
  · skip
    refine lv_aload_n hx hb dX5_pop_10 rfl (lv_at hl 0 rfl) ?_
    refine lv_dup hx hb dX5_pop_11 rfl ?_
    refine va_get (D := D) (ci := 5) (v := .int self_height) (C := RX5) (T := TX5) (N := 3) hx hb hts (fun _ h => List.mem_cons_of_mem _ (List.mem_append_right _ h)) hown hK hP 0 rfl rfl 2 (by decide) (hts (.fieldLink RX5 32 "CrownTable$Weigher" "height" "I") (mem_i 1 rfl)) (fun _ h9 => h9) rfl dX5_pop_12 ?_
    refine lv_iconst (v := 1) hx hb dX5_pop_15 (by decide) ?_
    refine lv_isub hx hb dX5_pop_16 ?_
    refine lv_topi (fun x_2 ex_2 => ?_)
    have tx_2 : x_2.toInt = (i_self_height - 1) := by rw [ex_2]; exact sub_ti (a := i_self_height) (b := 1) hi_self_height (by decide) (by omega) (by omega)
    refine va_put (D := D) (ci := 5) (v := .int x_2) (ty := .int) (C := RX5) (T := TX5) (N := 3) hx hb hts (fun _ h => List.mem_cons_of_mem _ (List.mem_append_right _ h)) tyX5 tyX5_ok nmX5 hown hK hP hD hS 0 rfl rfl 2 (by decide) (hts (.fieldLink RX5 32 "CrownTable$Weigher" "height" "I") (mem_i 1 rfl)) (fun _ h9 => h9) rfl (by decide +kernel) rfl rfl (Nat.le_of_ble_eq_true rfl) dX5_pop_17 (fun H locs hP hD hS => ?_)
    have hP : va_P D vwCl [(A_self, .inr (5, [.ref A_facts, .ref A_pile, .int x_2])), (A_pile, .inl (c 2, 64, .inr (.inl f_pile)))] H := hP
    have hD : va_D A [(A_self, .inr (5, [.ref A_facts, .ref A_pile, .int x_2])), (A_pile, .inl (c 2, 64, .inr (.inl f_pile)))] := hD
    refine lv_aload_n hx hb dX5_pop_20 rfl (lv_at hl 0 rfl) ?_
    refine va_get (D := D) (ci := 5) (v := .ref A_pile) (C := RX5) (T := TX5) (N := 3) hx hb hts (fun _ h => List.mem_cons_of_mem _ (List.mem_append_right _ h)) hown hK hP 0 rfl rfl 1 (by decide) (hts (.fieldLink RX5 15 "CrownTable$Weigher" "pile" "[J") (mem_i 2 rfl)) (fun _ h9 => h9) rfl dX5_pop_21 ?_
    refine lv_aload_n hx hb dX5_pop_24 rfl (lv_at hl 0 rfl) ?_
    refine va_get (D := D) (ci := 5) (v := .int x_2) (C := RX5) (T := TX5) (N := 3) hx hb hts (fun _ h => List.mem_cons_of_mem _ (List.mem_append_right _ h)) hown hK hP 0 rfl rfl 2 (by decide) (hts (.fieldLink RX5 32 "CrownTable$Weigher" "height" "I") (mem_i 1 rfl)) (fun _ h9 => h9) rfl dX5_pop_25 ?_
    refine va_lald hx hb hK hP 1 2 rfl rfl (vin (a := (i_self_height - 1)) tx_2 (by omega) (by omega)) dX5_pop_28 ?_
    refine lv_topl (fun x_3 ex_3 => ?_)
    have hP9 := hP.sub (ws' := [(A_self, .inr (5, [.ref A_facts, .ref A_pile, .int x_2])), (A_pile, .inl (c 2, 64, .inr (.inl f_pile)))]) [0, 1] rfl
    have hD9 := hD.sub (ws' := [(A_self, .inr (5, [.ref A_facts, .ref A_pile, .int x_2])), (A_pile, .inl (c 2, 64, .inr (.inl f_pile)))]) [0, 1] (by decide) rfl
    refine W.widen (k := 0) (n := 0) (by omega) (by omega) ?_
    exact W.lret (v := x_3) hx hb hr (fun t ht hW => ⟨⟨_, (x_2, ()), rfl, (show 0 ≤ x_2.toInt ∧ x_2.toInt ≤ 64 by omega), ⟨by rw [ht]; exact hP9, hD9⟩⟩, hS.F ht⟩) hS.2.2 dX5_pop_29
  · skip
    refine lv_lconst (v := 0) hx hb dX5_pop_8 (by decide) ?_
    have hP9 := hP.sub (ws' := [(A_self, .inr (5, [.ref A_facts, .ref A_pile, .int self_height])), (A_pile, .inl (c 2, 64, .inr (.inl f_pile)))]) [0, 1] rfl
    have hD9 := hD.sub (ws' := [(A_self, .inr (5, [.ref A_facts, .ref A_pile, .int self_height])), (A_pile, .inl (c 2, 64, .inr (.inl f_pile)))]) [0, 1] (by decide) rfl
    refine W.widen (k := 0) (n := 0) (by omega) (by omega) ?_
    exact W.lret (v := 0) hx hb hr (fun t ht hW => ⟨⟨_, (self_height, ()), rfl, (show 0 ≤ self_height.toInt ∧ self_height.toInt ≤ 64 by omega), ⟨by rw [ht]; exact hP9, hD9⟩⟩, hS.F ht⟩) hS.2.2 dX5_pop_9

set_option maxHeartbeats 4000000 in
set_option maxRecDepth 100000 in
theorem k_X5_joined (l : Launch) (D : va_G) (c : Nat → ClassId) (ts : Nat × Nat) (sz : Nat)  (a1 : Int32) (i_a1 : Int) (hi_a1 : a1.toInt = i_a1) (a2 : Int64) (a3 : Int64) : Met l yX5_joined wsX5_joined ({ frames := 0, cells := 0, slots := 0, locals := 0 }) (va_Pc [.int a1, .long a2, .long a3] (Pre0 D c ts [] sz)) (vp_Sl (fun r : Int64 => True)) 0 0 (fun _ => False) := by
  refine Met.ofW (cc := cX5_joined) (maxL := 5) (ret := (some .long)) (by decide) rfl ?_
  intro p e s m args below meth cd s₁ B hml hv
  obtain ⟨rfl, hsz, hP, hD0, hAm, hSt⟩ := hv
  have hx := B.exec
  have hb := B.bytes
  have hr := B.returns
  have hts := atoms_spec (ws := wsX5_joined) B.pre
  have hown : s.vm.findClass RX5 = some m.cls := findClass_of_methodNamed B.named
  have hlocks := B.notSynchronized
  have hK := hAm.1
  subst hsz
  have hD := hD0.self (sz := s.heap.size)
  generalize hAe : va_A [] s.heap.size = A at hD hSt
  have hA : ∀ q : Nat, s.heap.size ≤ q → A q := fun q h => by rw [← hAe]; exact Or.inr h
  have hS : va_S A s.heap s.heap [] := va_S.rf
  clear hD0 hAe
  have hl := lv_entry ([.int a1, .long a2, .long a3]) (n := 5) (Nat.le_of_ble_eq_true rfl)
  rw [lg_entry_eq]
  generalize (lg_sl ([.int a1, .long a2, .long a3]) ++ List.replicate (5 - (lg_sl ([.int a1, .long a2, .long a3])).length) Slot.unset).toArray = ls at hl ⊢
  have hl : lv_has ls 5 [(0, .int a1), (1, .long a2), (3, .long a3)] := hl
  have rg_a1 := i32r a1
  refine lv_iload_n hx hb dX5_joined_0 rfl (lv_at hl 0 rfl) ?_
  by_cases k_1 : i_a1 = 8
  · have ek_1 : a1.toInt = 8 := hi_a1.trans k_1
    refine lv_lookup (off := 115) (tgt := 116) hx hb dX5_joined_1 (by decide) (by rw [ek_1]; decide) (by decide) ?_
    refine lv_lload_n hx hb dX5_joined_116 rfl (lv_at hl 1 rfl) ?_
    refine lv_lload_n hx hb dX5_joined_117 rfl (lv_at hl 2 rfl) ?_
    refine lv_land hx hb dX5_joined_118 ?_
    refine lv_topl (fun x_2 ex_2 => ?_)
    exact W.lret (v := x_2) hx hb hr (fun t ht hW => ⟨_, rfl, trivial, ht⟩) (fun _ h => by cases h) dX5_joined_119
  by_cases k_3 : i_a1 = 42
  · have ek_3 : a1.toInt = 42 := hi_a1.trans k_3
    refine lv_lookup (off := 75) (tgt := 76) hx hb dX5_joined_1 (by decide) (by rw [ek_3]; decide) (by decide) ?_
    refine lv_lload_n hx hb dX5_joined_76 rfl (lv_at hl 1 rfl) ?_
    refine lv_lload_n hx hb dX5_joined_77 rfl (lv_at hl 2 rfl) ?_
    refine lv_lmul hx hb dX5_joined_78 ?_
    refine lv_topl (fun x_4 ex_4 => ?_)
    exact W.lret (v := x_4) hx hb hr (fun t ht hW => ⟨_, rfl, trivial, ht⟩) (fun _ h => by cases h) dX5_joined_79
  by_cases k_5 : i_a1 = 43
  · have ek_5 : a1.toInt = 43 := hi_a1.trans k_5
    refine lv_lookup (off := 67) (tgt := 68) hx hb dX5_joined_1 (by decide) (by rw [ek_5]; decide) (by decide) ?_
    refine lv_lload_n hx hb dX5_joined_68 rfl (lv_at hl 1 rfl) ?_
    refine lv_lload_n hx hb dX5_joined_69 rfl (lv_at hl 2 rfl) ?_
    refine lv_ladd hx hb dX5_joined_70 ?_
    refine lv_topl (fun x_6 ex_6 => ?_)
    exact W.lret (v := x_6) hx hb hr (fun t ht hW => ⟨_, rfl, trivial, ht⟩) (fun _ h => by cases h) dX5_joined_71
  by_cases k_7 : i_a1 = 45
  · have ek_7 : a1.toInt = 45 := hi_a1.trans k_7
    refine lv_lookup (off := 71) (tgt := 72) hx hb dX5_joined_1 (by decide) (by rw [ek_7]; decide) (by decide) ?_
    refine lv_lload_n hx hb dX5_joined_72 rfl (lv_at hl 1 rfl) ?_
    refine lv_lload_n hx hb dX5_joined_73 rfl (lv_at hl 2 rfl) ?_
    refine lv_lsub hx hb dX5_joined_74 ?_
    refine lv_topl (fun x_8 ex_8 => ?_)
    exact W.lret (v := x_8) hx hb hr (fun t ht hW => ⟨_, rfl, trivial, ht⟩) (fun _ h => by cases h) dX5_joined_75
  by_cases k_9 : i_a1 = 60
  · have ek_9 : a1.toInt = 60 := hi_a1.trans k_9
    refine lv_lookup (off := 79) (tgt := 80) hx hb dX5_joined_1 (by decide) (by rw [ek_9]; decide) (by decide) ?_
    refine lv_lload_n hx hb dX5_joined_80 rfl (lv_at hl 1 rfl) ?_
    refine lv_lload_n hx hb dX5_joined_81 rfl (lv_at hl 2 rfl) ?_
    refine W.lcmp hx hb dX5_joined_82 ?_
    refine lv_topi (fun x_10 ex_10 => ?_)
    have tx_10 := lcg_fact (n := x_10) ex_10 (show (a2 : Int64).toInt = a2.toInt from rfl) (show (a3 : Int64).toInt = a3.toInt from rfl)
    refine iif_ge (a := x_10.toInt) (tgt := 90) hx hb rfl dX5_joined_83 (by decide) (fun k_11 => ?_) (fun k_11 => ?_)
    · skip
      refine lv_lconst (v := 0) hx hb dX5_joined_90 (by decide) ?_
      exact W.lret (v := 0) hx hb hr (fun t ht hW => ⟨_, rfl, trivial, ht⟩) (fun _ h => by cases h) dX5_joined_91
    · skip
      refine lv_lconst (v := 1) hx hb dX5_joined_86 (by decide) ?_
      refine lv_goto (tgt := 91) hx hb dX5_joined_87 (by decide) ?_
      exact W.lret (v := 1) hx hb hr (fun t ht hW => ⟨_, rfl, trivial, ht⟩) (fun _ h => by cases h) dX5_joined_91
  by_cases k_12 : i_a1 = 61
  · have ek_12 : a1.toInt = 61 := hi_a1.trans k_12
    refine lv_lookup (off := 91) (tgt := 92) hx hb dX5_joined_1 (by decide) (by rw [ek_12]; decide) (by decide) ?_
    refine lv_lload_n hx hb dX5_joined_92 rfl (lv_at hl 1 rfl) ?_
    refine lv_lload_n hx hb dX5_joined_93 rfl (lv_at hl 2 rfl) ?_
    refine W.lcmp hx hb dX5_joined_94 ?_
    refine lv_topi (fun x_13 ex_13 => ?_)
    have tx_13 := lcg_fact (n := x_13) ex_13 (show (a2 : Int64).toInt = a2.toInt from rfl) (show (a3 : Int64).toInt = a3.toInt from rfl)
    refine iif_ne (a := x_13.toInt) (tgt := 102) hx hb rfl dX5_joined_95 (by decide) (fun k_14 => ?_) (fun k_14 => ?_)
    · skip
      refine lv_lconst (v := 0) hx hb dX5_joined_102 (by decide) ?_
      exact W.lret (v := 0) hx hb hr (fun t ht hW => ⟨_, rfl, trivial, ht⟩) (fun _ h => by cases h) dX5_joined_103
    · skip
      refine lv_lconst (v := 1) hx hb dX5_joined_98 (by decide) ?_
      refine lv_goto (tgt := 103) hx hb dX5_joined_99 (by decide) ?_
      exact W.lret (v := 1) hx hb hr (fun t ht hW => ⟨_, rfl, trivial, ht⟩) (fun _ h => by cases h) dX5_joined_103
  by_cases k_15 : i_a1 = 62
  · have ek_15 : a1.toInt = 62 := hi_a1.trans k_15
    refine lv_lookup (off := 103) (tgt := 104) hx hb dX5_joined_1 (by decide) (by rw [ek_15]; decide) (by decide) ?_
    refine lv_lload_n hx hb dX5_joined_104 rfl (lv_at hl 1 rfl) ?_
    refine lv_lload_n hx hb dX5_joined_105 rfl (lv_at hl 2 rfl) ?_
    refine W.lcmp hx hb dX5_joined_106 ?_
    refine lv_topi (fun x_16 ex_16 => ?_)
    have tx_16 := lcg_fact (n := x_16) ex_16 (show (a2 : Int64).toInt = a2.toInt from rfl) (show (a3 : Int64).toInt = a3.toInt from rfl)
    refine iif_le (a := x_16.toInt) (tgt := 114) hx hb rfl dX5_joined_107 (by decide) (fun k_17 => ?_) (fun k_17 => ?_)
    · skip
      refine lv_lconst (v := 0) hx hb dX5_joined_114 (by decide) ?_
      exact W.lret (v := 0) hx hb hr (fun t ht hW => ⟨_, rfl, trivial, ht⟩) (fun _ h => by cases h) dX5_joined_115
    · skip
      refine lv_lconst (v := 1) hx hb dX5_joined_110 (by decide) ?_
      refine lv_goto (tgt := 115) hx hb dX5_joined_111 (by decide) ?_
      exact W.lret (v := 1) hx hb hr (fun t ht hW => ⟨_, rfl, trivial, ht⟩) (fun _ h => by cases h) dX5_joined_115
  refine lv_lookup (off := 119) (tgt := 120) hx hb dX5_joined_1 (by decide) (by simp only [Op.lookupswitch.offset]; rw [if_neg (show ¬ ((8 : Int) = a1.toInt) by omega), if_neg (show ¬ ((42 : Int) = a1.toInt) by omega), if_neg (show ¬ ((43 : Int) = a1.toInt) by omega), if_neg (show ¬ ((45 : Int) = a1.toInt) by omega), if_neg (show ¬ ((60 : Int) = a1.toInt) by omega), if_neg (show ¬ ((61 : Int) = a1.toInt) by omega), if_neg (show ¬ ((62 : Int) = a1.toInt) by omega)]) (by decide) ?_
  refine lv_lload_n hx hb dX5_joined_120 rfl (lv_at hl 1 rfl) ?_
  refine lv_lload_n hx hb dX5_joined_121 rfl (lv_at hl 2 rfl) ?_
  refine lv_lor hx hb dX5_joined_122 ?_
  refine lv_topl (fun x_18 ex_18 => ?_)
  exact W.lret (v := x_18) hx hb hr (fun t ht hW => ⟨_, rfl, trivial, ht⟩) (fun _ h => by cases h) dX5_joined_123

set_option maxHeartbeats 4000000 in
set_option maxRecDepth 100000 in
theorem k_X5_doStep (l : Launch) (D : va_G) (c : Nat → ClassId) (ts : Nat × Nat) (sz : Nat) (A_facts : Nat) (A_pile : Nat) (A_self : Nat) (f_facts : Nat → Int64) (f_pile : Nat → Int64) (self_height : Int32) (i_self_height : Int) (hi_self_height : self_height.toInt = i_self_height) (a1 : Int32) (i_a1 : Int) (hi_a1 : a1.toInt = i_a1) (hv_self_height : 0 ≤ i_self_height ∧ i_self_height ≤ 64) : Met l yX5_doStep wsX5_doStep ({ frames := 1, cells := 0, slots := 0, locals := 24 }) (va_Pc [.ref A_self, .int a1] (Pre0 D c ts [(A_self, .inr (5, [.ref A_facts, .ref A_pile, .int self_height])), (A_facts, .inl (c 2, 10, .inr (.inl f_facts))), (A_pile, .inl (c 2, 64, .inr (.inl f_pile)))] sz)) (va_Qv (fun (u : Int32 × (Nat → Int64) × Unit) => (0 ≤ u.1.toInt ∧ u.1.toInt ≤ 64)) (fun u t => va_P D vwCl [(A_self, .inr (5, [.ref A_facts, .ref A_pile, .int u.1])), (A_facts, .inl (c 2, 10, .inr (.inl f_facts))), (A_pile, .inl (c 2, 64, .inr (.inl u.2.1)))] t.heap ∧ va_D (va_A [(A_self, .inr (5, [.ref A_facts, .ref A_pile, .int self_height])), (A_facts, .inl (c 2, 10, .inr (.inl f_facts))), (A_pile, .inl (c 2, 64, .inr (.inl f_pile)))] sz) [(A_self, .inr (5, [.ref A_facts, .ref A_pile, .int u.1])), (A_facts, .inl (c 2, 10, .inr (.inl f_facts))), (A_pile, .inl (c 2, 64, .inr (.inl u.2.1)))]) (va_A [(A_self, .inr (5, [.ref A_facts, .ref A_pile, .int self_height])), (A_facts, .inl (c 2, 10, .inr (.inl f_facts))), (A_pile, .inl (c 2, 64, .inr (.inl f_pile)))] sz)) 0 0 (va_A [(A_self, .inr (5, [.ref A_facts, .ref A_pile, .int self_height])), (A_facts, .inl (c 2, 10, .inr (.inl f_facts))), (A_pile, .inl (c 2, 64, .inr (.inl f_pile)))] sz) := by
  refine Met.ofW (cc := cX5_doStep) (maxL := 7) (ret := none) (by decide) rfl ?_
  intro p e s m args below meth cd s₁ B hml hv
  obtain ⟨rfl, hsz, hP, hD0, hAm, hSt⟩ := hv
  have hx := B.exec
  have hb := B.bytes
  have hr := B.returns
  have hts := atoms_spec (ws := wsX5_doStep) B.pre
  have hown : s.vm.findClass RX5 = some m.cls := findClass_of_methodNamed B.named
  have hlocks := B.notSynchronized
  have hK := hAm.1
  subst hsz
  have hD := hD0.self (sz := s.heap.size)
  generalize hAe : va_A [(A_self, .inr (5, [.ref A_facts, .ref A_pile, .int self_height])), (A_facts, .inl (c 2, 10, .inr (.inl f_facts))), (A_pile, .inl (c 2, 64, .inr (.inl f_pile)))] s.heap.size = A at hD hSt ⊢
  have hA : ∀ q : Nat, s.heap.size ≤ q → A q := fun q h => by rw [← hAe]; exact Or.inr h
  have hS : va_S A s.heap s.heap [] := va_S.rf
  clear hD0 hAe
  have hl := lv_entry ([.ref A_self, .int a1]) (n := 7) (Nat.le_of_ble_eq_true rfl)
  rw [lg_entry_eq]
  generalize (lg_sl ([.ref A_self, .int a1]) ++ List.replicate (7 - (lg_sl ([.ref A_self, .int a1])).length) Slot.unset).toArray = ls at hl ⊢
  have hl : lv_has ls 7 [(0, .ref A_self), (1, .int a1)] := hl
  have rg_a1 := i32r a1
  refine lv_iload_n hx hb dX5_doStep_0 rfl (lv_at hl 1 rfl) ?_
  refine lv_ineg hx hb dX5_doStep_1 ?_
  refine lv_topi (fun x_1 ex_1 => ?_)
  refine lv_istore_n (lv' := [(2, .int x_1), (0, .ref A_self), (1, .int a1)]) hx hb dX5_doStep_2 rfl hl (by decide) rfl (fun ls hl => ?_)
  refine lv_iload_n hx hb dX5_doStep_3 rfl (lv_at hl 2 rfl) ?_
  refine iif_lt (a := i_a1) (tgt := 16) hx hb hi_a1 dX5_doStep_4 (by decide) (fun k_2 => ?_) (fun k_2 => ?_)
  · skip
    refine lv_iload_n hx hb dX5_doStep_16 rfl (lv_at hl 0 rfl) ?_
    refine lv_bipush (v := 11) hx hb dX5_doStep_17 (by decide) ?_
    refine iicmp_lt (a := x_1.toInt) (b := 11) (tgt := 44) hx hb rfl (by decide) dX5_doStep_19 (by decide) (fun k_3 => ?_) (fun k_3 => ?_)
    · skip
      refine lv_iload_n hx hb dX5_doStep_44 rfl (lv_at hl 0 rfl) ?_
      refine lv_bipush (v := 10) hx hb dX5_doStep_45 (by decide) ?_
      refine iicmp_ne (a := x_1.toInt) (b := 10) (tgt := 71) hx hb rfl (by decide) dX5_doStep_47 (by decide) (fun k_4 => ?_) (fun k_4 => ?_)
      · skip
        refine lv_aload_n hx hb dX5_doStep_71 rfl (lv_at hl 1 rfl) ?_
        have hPc := hP.sub (ws' := [(A_self, .inr (5, [.ref A_facts, .ref A_pile, .int self_height])), (A_pile, .inl (c 2, 64, .inr (.inl f_pile)))]) [0, 2] rfl
        have hDc := hD.sub (ws' := [(A_self, .inr (5, [.ref A_facts, .ref A_pile, .int self_height])), (A_pile, .inl (c 2, 64, .inr (.inl f_pile)))]) [0, 2] (by decide) rfl
        have hFc := va_free (wc := [(A_self, .inr (5, [.ref A_facts, .ref A_pile, .int self_height])), (A_pile, .inl (c 2, 64, .inr (.inl f_pile)))]) hD hS hA [0, 2] rfl
        refine va_calll (va_runV (As := []) (rest := []) ⟨hx, hb, hml, hown, hts⟩ (k_X5_pop l D c ts s.heap.size A_facts A_pile A_self f_pile self_height i_self_height hi_self_height (by omega)) (cwV 0 hts gX5_doStep_X5_pop rfl rfl rfl ⟨rfl, hdX5_pop⟩ ⟨(show 0 + 1 ≤ 1 by decide), (show 8 + (1 + 11) + 0 ≤ 24 by decide)⟩) ⟨Pre0.blind, va_recv hK hPc (ci := 5) (q0 := 0) rfl rfl, Pre0.at hPc hDc hAm hSt hS hFc⟩ rfl rfl hl.1 rfl (lv_room (Nat.le_of_ble_eq_true rfl)) dX5_doStep_72 ⟨(show 0 + 0 ≤ 0 by decide), (show 0 + 0 ≤ 0 by decide)⟩) hS (fun q _ h => hFc q h) hFc (fun r_6 u_7 t1 H locs ht hvm hw_5 hB_9 hz1_9 hk1_9 hS => ?_)
        obtain ⟨y_8, _⟩ := u_7
        have hw_5 : (0 ≤ y_8.toInt ∧ y_8.toInt ≤ 64) := hw_5
        obtain ⟨hP1_9, hD1_9⟩ := hB_9
        rw [ht] at hP1_9
        have hP1_9 : va_P D vwCl [(A_self, .inr (5, [.ref A_facts, .ref A_pile, .int y_8])), (A_pile, .inl (c 2, 64, .inr (.inl f_pile)))] H := hP1_9
        obtain ⟨hP, hD⟩ := va_join (wr := [(A_facts, .inl (c 2, 10, .inr (.inl f_facts)))]) (w1 := [(A_self, .inr (5, [.ref A_facts, .ref A_pile, .int y_8])), (A_pile, .inl (c 2, 64, .inr (.inl f_pile)))]) hP hD [0, 2] [1] rfl rfl (by decide) (by decide) hk1_9 hFc hP1_9 hD1_9
        have hP : va_P D vwCl [(A_facts, .inl (c 2, 10, .inr (.inl f_facts))), (A_self, .inr (5, [.ref A_facts, .ref A_pile, .int y_8])), (A_pile, .inl (c 2, 64, .inr (.inl f_pile)))] H := hP
        have hD : va_D A [(A_facts, .inl (c 2, 10, .inr (.inl f_facts))), (A_self, .inr (5, [.ref A_facts, .ref A_pile, .int y_8])), (A_pile, .inl (c 2, 64, .inr (.inl f_pile)))] := hD
        refine W.widen (k := 0) (n := 0) (by omega) (by omega) ?_
        refine lv_lstore_n (lv' := [(3, .long r_6), (2, .int x_1), (0, .ref A_self), (1, .int a1)]) hx hb dX5_doStep_75 rfl hl (by decide) rfl (fun ls hl => ?_)
        refine lv_aload_n hx hb dX5_doStep_76 rfl (lv_at hl 2 rfl) ?_
        have hPc := hP.sub (ws' := [(A_self, .inr (5, [.ref A_facts, .ref A_pile, .int y_8])), (A_pile, .inl (c 2, 64, .inr (.inl f_pile)))]) [1, 2] rfl
        have hDc := hD.sub (ws' := [(A_self, .inr (5, [.ref A_facts, .ref A_pile, .int y_8])), (A_pile, .inl (c 2, 64, .inr (.inl f_pile)))]) [1, 2] (by decide) rfl
        have hFc := va_free (wc := [(A_self, .inr (5, [.ref A_facts, .ref A_pile, .int y_8])), (A_pile, .inl (c 2, 64, .inr (.inl f_pile)))]) hD hS hA [1, 2] rfl
        refine va_calll (va_runV (As := []) (rest := []) ⟨hx, hb, hml, hown, hts⟩ (k_X5_pop l D c ts H.size A_facts A_pile A_self f_pile y_8 y_8.toInt rfl (by omega)) (cwV 0 hts gX5_doStep_X5_pop rfl rfl rfl ⟨rfl, hdX5_pop⟩ ⟨(show 0 + 1 ≤ 1 by decide), (show 8 + (1 + 11) + 0 ≤ 24 by decide)⟩) ⟨Pre0.blind, va_recv hK hPc (ci := 5) (q0 := 0) rfl rfl, Pre0.at hPc hDc hAm hSt hS hFc⟩ rfl rfl hl.1 rfl (lv_room (Nat.le_of_ble_eq_true rfl)) dX5_doStep_77 ⟨(show 0 + 0 ≤ 0 by decide), (show 0 + 0 ≤ 0 by decide)⟩) hS (fun q _ h => hFc q h) hFc (fun r_10 u_11 t1 H locs ht hvm hw_9 hB_9 hz1_9 hk1_9 hS => ?_)
        obtain ⟨y_12, _⟩ := u_11
        have hw_9 : (0 ≤ y_12.toInt ∧ y_12.toInt ≤ 64) := hw_9
        obtain ⟨hP1_9, hD1_9⟩ := hB_9
        rw [ht] at hP1_9
        have hP1_9 : va_P D vwCl [(A_self, .inr (5, [.ref A_facts, .ref A_pile, .int y_12])), (A_pile, .inl (c 2, 64, .inr (.inl f_pile)))] H := hP1_9
        obtain ⟨hP, hD⟩ := va_join (wr := [(A_facts, .inl (c 2, 10, .inr (.inl f_facts)))]) (w1 := [(A_self, .inr (5, [.ref A_facts, .ref A_pile, .int y_12])), (A_pile, .inl (c 2, 64, .inr (.inl f_pile)))]) hP hD [1, 2] [0] rfl rfl (by decide) (by decide) hk1_9 hFc hP1_9 hD1_9
        have hP : va_P D vwCl [(A_facts, .inl (c 2, 10, .inr (.inl f_facts))), (A_self, .inr (5, [.ref A_facts, .ref A_pile, .int y_12])), (A_pile, .inl (c 2, 64, .inr (.inl f_pile)))] H := hP
        have hD : va_D A [(A_facts, .inl (c 2, 10, .inr (.inl f_facts))), (A_self, .inr (5, [.ref A_facts, .ref A_pile, .int y_12])), (A_pile, .inl (c 2, 64, .inr (.inl f_pile)))] := hD
        refine W.widen (k := 0) (n := 0) (by omega) (by omega) ?_
        refine lv_lstore (lv' := [(5, .long r_10), (3, .long r_6), (2, .int x_1), (0, .ref A_self), (1, .int a1)]) hx hb dX5_doStep_80 hl (by decide) rfl (fun ls hl => ?_)
        refine lv_aload_n hx hb dX5_doStep_82 rfl (lv_at hl 3 rfl) ?_
        refine lv_iload_n hx hb dX5_doStep_83 rfl (lv_at hl 2 rfl) ?_
        refine lv_lload hx hb dX5_doStep_84 (lv_at hl 0 rfl) ?_
        refine lv_lload_n hx hb dX5_doStep_86 rfl (lv_at hl 1 rfl) ?_
        have hPc := hP.sub (ws' := []) [] rfl
        have hDc := hD.sub (ws' := []) [] (by decide) rfl
        have hFc := va_free (wc := []) hD hS hA [] rfl
        refine va_csl (va_runS (As := [.int x_1, .long r_10, .long r_6]) (rest := [.ref A_self]) ⟨hx, hb, hml, hown, hts⟩ (k_X5_joined l D c ts H.size x_1 x_1.toInt rfl r_10 r_6) (cwS 3 hts gX5_doStep_X5_joined rfl rfl rfl ⟨rfl, hdX5_joined⟩ ⟨(show 0 + 1 ≤ 1 by decide), (show 8 + (5 + 11) + 0 ≤ 24 by decide)⟩) ⟨Pre0.blind, Pre0.at hPc hDc hAm hSt hS hFc⟩ rfl rfl hl.1 rfl (lv_room (Nat.le_of_ble_eq_true rfl)) dX5_doStep_87 ⟨(show 0 + 0 ≤ 0 by decide), (show 0 + 0 ≤ 0 by decide)⟩) (fun r_14 hw_13 => ?_)
        have hPc := hP.sub (ws' := [(A_self, .inr (5, [.ref A_facts, .ref A_pile, .int y_12])), (A_pile, .inl (c 2, 64, .inr (.inl f_pile)))]) [1, 2] rfl
        have hDc := hD.sub (ws' := [(A_self, .inr (5, [.ref A_facts, .ref A_pile, .int y_12])), (A_pile, .inl (c 2, 64, .inr (.inl f_pile)))]) [1, 2] (by decide) rfl
        have hFc := va_free (wc := [(A_self, .inr (5, [.ref A_facts, .ref A_pile, .int y_12])), (A_pile, .inl (c 2, 64, .inr (.inl f_pile)))]) hD hS hA [1, 2] rfl
        refine va_callv (va_runV (As := [.long r_14]) (rest := []) ⟨hx, hb, hml, hown, hts⟩ (k_X5_push l D c ts H.size A_facts A_pile A_self f_pile y_12 y_12.toInt rfl r_14 (by omega)) (cwV 1 hts gX5_doStep_X5_push rfl rfl rfl ⟨rfl, hdX5_push⟩ ⟨(show 0 + 1 ≤ 1 by decide), (show 8 + (3 + 11) + 0 ≤ 24 by decide)⟩) ⟨Pre0.blind, va_recv hK hPc (ci := 5) (q0 := 0) rfl rfl, Pre0.at hPc hDc hAm hSt hS hFc⟩ rfl rfl hl.1 rfl (lv_room (Nat.le_of_ble_eq_true rfl)) dX5_doStep_90 ⟨(show 0 + 0 ≤ 0 by decide), (show 0 + 0 ≤ 0 by decide)⟩) hS (fun q _ h => hFc q h) hFc (fun u_17 t1 H locs ht hvm hw_15 hB_9 hz1_9 hk1_9 hS => ?_)
        obtain ⟨y_18, f_19, _⟩ := u_17
        have hw_15 : (0 ≤ y_18.toInt ∧ y_18.toInt ≤ 64) := hw_15
        obtain ⟨hP1_9, hD1_9⟩ := hB_9
        rw [ht] at hP1_9
        have hP1_9 : va_P D vwCl [(A_self, .inr (5, [.ref A_facts, .ref A_pile, .int y_18])), (A_pile, .inl (c 2, 64, .inr (.inl f_19)))] H := hP1_9
        obtain ⟨hP, hD⟩ := va_join (wr := [(A_facts, .inl (c 2, 10, .inr (.inl f_facts)))]) (w1 := [(A_self, .inr (5, [.ref A_facts, .ref A_pile, .int y_18])), (A_pile, .inl (c 2, 64, .inr (.inl f_19)))]) hP hD [1, 2] [0] rfl rfl (by decide) (by decide) hk1_9 hFc hP1_9 hD1_9
        have hP : va_P D vwCl [(A_facts, .inl (c 2, 10, .inr (.inl f_facts))), (A_self, .inr (5, [.ref A_facts, .ref A_pile, .int y_18])), (A_pile, .inl (c 2, 64, .inr (.inl f_19)))] H := hP
        have hD : va_D A [(A_facts, .inl (c 2, 10, .inr (.inl f_facts))), (A_self, .inr (5, [.ref A_facts, .ref A_pile, .int y_18])), (A_pile, .inl (c 2, 64, .inr (.inl f_19)))] := hD
        refine W.widen (k := 0) (n := 0) (by omega) (by omega) ?_
        have hP9 := hP.sub (ws' := [(A_self, .inr (5, [.ref A_facts, .ref A_pile, .int y_18])), (A_facts, .inl (c 2, 10, .inr (.inl f_facts))), (A_pile, .inl (c 2, 64, .inr (.inl f_19)))]) [1, 0, 2] rfl
        have hD9 := hD.sub (ws' := [(A_self, .inr (5, [.ref A_facts, .ref A_pile, .int y_18])), (A_facts, .inl (c 2, 10, .inr (.inl f_facts))), (A_pile, .inl (c 2, 64, .inr (.inl f_19)))]) [1, 0, 2] (by decide) rfl
        refine W.widen (k := 0) (n := 0) (by omega) (by omega) ?_
        exact W.vret hx hb hr (fun t ht hW => ⟨⟨(y_18, f_19, ()), rfl, (show 0 ≤ y_18.toInt ∧ y_18.toInt ≤ 64 by omega), ⟨by rw [ht]; exact hP9, hD9⟩⟩, hS.F ht⟩) hS.2.2 dX5_doStep_93
      · skip
        refine lv_aload_n hx hb dX5_doStep_50 rfl (lv_at hl 1 rfl) ?_
        refine lv_aload_n hx hb dX5_doStep_51 rfl (lv_at hl 1 rfl) ?_
        have hPc := hP.sub (ws' := [(A_self, .inr (5, [.ref A_facts, .ref A_pile, .int self_height])), (A_pile, .inl (c 2, 64, .inr (.inl f_pile)))]) [0, 2] rfl
        have hDc := hD.sub (ws' := [(A_self, .inr (5, [.ref A_facts, .ref A_pile, .int self_height])), (A_pile, .inl (c 2, 64, .inr (.inl f_pile)))]) [0, 2] (by decide) rfl
        have hFc := va_free (wc := [(A_self, .inr (5, [.ref A_facts, .ref A_pile, .int self_height])), (A_pile, .inl (c 2, 64, .inr (.inl f_pile)))]) hD hS hA [0, 2] rfl
        refine va_calll (va_runV (As := []) (rest := [.ref A_self]) ⟨hx, hb, hml, hown, hts⟩ (k_X5_pop l D c ts s.heap.size A_facts A_pile A_self f_pile self_height i_self_height hi_self_height (by omega)) (cwV 0 hts gX5_doStep_X5_pop rfl rfl rfl ⟨rfl, hdX5_pop⟩ ⟨(show 0 + 1 ≤ 1 by decide), (show 8 + (1 + 11) + 0 ≤ 24 by decide)⟩) ⟨Pre0.blind, va_recv hK hPc (ci := 5) (q0 := 0) rfl rfl, Pre0.at hPc hDc hAm hSt hS hFc⟩ rfl rfl hl.1 rfl (lv_room (Nat.le_of_ble_eq_true rfl)) dX5_doStep_52 ⟨(show 0 + 0 ≤ 0 by decide), (show 0 + 0 ≤ 0 by decide)⟩) hS (fun q _ h => hFc q h) hFc (fun r_21 u_22 t1 H locs ht hvm hw_20 hB_9 hz1_9 hk1_9 hS => ?_)
        obtain ⟨y_23, _⟩ := u_22
        have hw_20 : (0 ≤ y_23.toInt ∧ y_23.toInt ≤ 64) := hw_20
        obtain ⟨hP1_9, hD1_9⟩ := hB_9
        rw [ht] at hP1_9
        have hP1_9 : va_P D vwCl [(A_self, .inr (5, [.ref A_facts, .ref A_pile, .int y_23])), (A_pile, .inl (c 2, 64, .inr (.inl f_pile)))] H := hP1_9
        obtain ⟨hP, hD⟩ := va_join (wr := [(A_facts, .inl (c 2, 10, .inr (.inl f_facts)))]) (w1 := [(A_self, .inr (5, [.ref A_facts, .ref A_pile, .int y_23])), (A_pile, .inl (c 2, 64, .inr (.inl f_pile)))]) hP hD [0, 2] [1] rfl rfl (by decide) (by decide) hk1_9 hFc hP1_9 hD1_9
        have hP : va_P D vwCl [(A_facts, .inl (c 2, 10, .inr (.inl f_facts))), (A_self, .inr (5, [.ref A_facts, .ref A_pile, .int y_23])), (A_pile, .inl (c 2, 64, .inr (.inl f_pile)))] H := hP
        have hD : va_D A [(A_facts, .inl (c 2, 10, .inr (.inl f_facts))), (A_self, .inr (5, [.ref A_facts, .ref A_pile, .int y_23])), (A_pile, .inl (c 2, 64, .inr (.inl f_pile)))] := hD
        refine W.widen (k := 0) (n := 0) (by omega) (by omega) ?_
        refine lv_lconst (v := 0) hx hb dX5_doStep_55 (by decide) ?_
        have lp_65 : ∀ (K0 : Int64) (H : Heap) (locs : List Loc) (ls : Array Slot), va_P D vwCl [(A_facts, .inl (c 2, 10, .inr (.inl f_facts))), (A_self, .inr (5, [.ref A_facts, .ref A_pile, .int y_23])), (A_pile, .inl (c 2, 64, .inr (.inl f_pile)))] H → va_D A [(A_facts, .inl (c 2, 10, .inr (.inl f_facts))), (A_self, .inr (5, [.ref A_facts, .ref A_pile, .int y_23])), (A_pile, .inl (c 2, 64, .inr (.inl f_pile)))] → va_S A s.heap H locs → lv_has ls 7 [(2, .int x_1), (0, .ref A_self), (1, .int a1)] → W p l e (headSpec wsX5_doStep ({ frames := 1, cells := 0, slots := 0, locals := 24 })).room s m (([.ref A_self, .int a1] : List Value).toArray) below meth cd H locs 0 0 (MQ below (va_Qv (fun (u : Int32 × (Nat → Int64) × Unit) => (0 ≤ u.1.toInt ∧ u.1.toInt ≤ 64)) (fun u t => va_P D vwCl [(A_self, .inr (5, [.ref A_facts, .ref A_pile, .int u.1])), (A_facts, .inl (c 2, 10, .inr (.inl f_facts))), (A_pile, .inl (c 2, 64, .inr (.inl u.2.1)))] t.heap ∧ va_D A [(A_self, .inr (5, [.ref A_facts, .ref A_pile, .int u.1])), (A_facts, .inl (c 2, 10, .inr (.inl f_facts))), (A_pile, .inl (c 2, 64, .inr (.inl u.2.1)))]) A) ([.ref A_self, .int a1] : List Value).toArray s 0 0 A) (F0 m 65 ls [.long K0, .ref A_self]) := by
          intro K0 H locs ls hP hD hS hl
          have hPc := hP.sub (ws' := [(A_self, .inr (5, [.ref A_facts, .ref A_pile, .int y_23])), (A_pile, .inl (c 2, 64, .inr (.inl f_pile)))]) [1, 2] rfl
          have hDc := hD.sub (ws' := [(A_self, .inr (5, [.ref A_facts, .ref A_pile, .int y_23])), (A_pile, .inl (c 2, 64, .inr (.inl f_pile)))]) [1, 2] (by decide) rfl
          have hFc := va_free (wc := [(A_self, .inr (5, [.ref A_facts, .ref A_pile, .int y_23])), (A_pile, .inl (c 2, 64, .inr (.inl f_pile)))]) hD hS hA [1, 2] rfl
          refine va_callv (va_runV (As := [.long K0]) (rest := []) ⟨hx, hb, hml, hown, hts⟩ (k_X5_push l D c ts H.size A_facts A_pile A_self f_pile y_23 y_23.toInt rfl K0 (by omega)) (cwV 1 hts gX5_doStep_X5_push rfl rfl rfl ⟨rfl, hdX5_push⟩ ⟨(show 0 + 1 ≤ 1 by decide), (show 8 + (3 + 11) + 0 ≤ 24 by decide)⟩) ⟨Pre0.blind, va_recv hK hPc (ci := 5) (q0 := 0) rfl rfl, Pre0.at hPc hDc hAm hSt hS hFc⟩ rfl rfl hl.1 rfl (lv_room (Nat.le_of_ble_eq_true rfl)) dX5_doStep_65 ⟨(show 0 + 0 ≤ 0 by decide), (show 0 + 0 ≤ 0 by decide)⟩) hS (fun q _ h => hFc q h) hFc (fun u_26 t1 H locs ht hvm hw_24 hB_9 hz1_9 hk1_9 hS => ?_)
          obtain ⟨y_27, f_28, _⟩ := u_26
          have hw_24 : (0 ≤ y_27.toInt ∧ y_27.toInt ≤ 64) := hw_24
          obtain ⟨hP1_9, hD1_9⟩ := hB_9
          rw [ht] at hP1_9
          have hP1_9 : va_P D vwCl [(A_self, .inr (5, [.ref A_facts, .ref A_pile, .int y_27])), (A_pile, .inl (c 2, 64, .inr (.inl f_28)))] H := hP1_9
          obtain ⟨hP, hD⟩ := va_join (wr := [(A_facts, .inl (c 2, 10, .inr (.inl f_facts)))]) (w1 := [(A_self, .inr (5, [.ref A_facts, .ref A_pile, .int y_27])), (A_pile, .inl (c 2, 64, .inr (.inl f_28)))]) hP hD [1, 2] [0] rfl rfl (by decide) (by decide) hk1_9 hFc hP1_9 hD1_9
          have hP : va_P D vwCl [(A_facts, .inl (c 2, 10, .inr (.inl f_facts))), (A_self, .inr (5, [.ref A_facts, .ref A_pile, .int y_27])), (A_pile, .inl (c 2, 64, .inr (.inl f_28)))] H := hP
          have hD : va_D A [(A_facts, .inl (c 2, 10, .inr (.inl f_facts))), (A_self, .inr (5, [.ref A_facts, .ref A_pile, .int y_27])), (A_pile, .inl (c 2, 64, .inr (.inl f_28)))] := hD
          refine W.widen (k := 0) (n := 0) (by omega) (by omega) ?_
          refine lv_goto (tgt := 93) hx hb dX5_doStep_68 (by decide) ?_
          have hP9 := hP.sub (ws' := [(A_self, .inr (5, [.ref A_facts, .ref A_pile, .int y_27])), (A_facts, .inl (c 2, 10, .inr (.inl f_facts))), (A_pile, .inl (c 2, 64, .inr (.inl f_28)))]) [1, 0, 2] rfl
          have hD9 := hD.sub (ws' := [(A_self, .inr (5, [.ref A_facts, .ref A_pile, .int y_27])), (A_facts, .inl (c 2, 10, .inr (.inl f_facts))), (A_pile, .inl (c 2, 64, .inr (.inl f_28)))]) [1, 0, 2] (by decide) rfl
          refine W.widen (k := 0) (n := 0) (by omega) (by omega) ?_
          exact W.vret hx hb hr (fun t ht hW => ⟨⟨(y_27, f_28, ()), rfl, (show 0 ≤ y_27.toInt ∧ y_27.toInt ≤ 64 by omega), ⟨by rw [ht]; exact hP9, hD9⟩⟩, hS.F ht⟩) hS.2.2 dX5_doStep_93
        refine W.lcmp hx hb dX5_doStep_56 ?_
        refine lv_topi (fun x_29 ex_29 => ?_)
        have tx_29 := lcg_fact (n := x_29) ex_29 (show (r_21 : Int64).toInt = r_21.toInt from rfl) (show (0 : Int64).toInt = 0 from (by decide))
        refine iif_ne (a := x_29.toInt) (tgt := 64) hx hb rfl dX5_doStep_57 (by decide) (fun k_30 => ?_) (fun k_30 => ?_)
        · skip
          refine lv_lconst (v := 0) hx hb dX5_doStep_64 (by decide) ?_
          exact lp_65 0 _ _ _ hP hD hS hl
        · skip
          refine lv_lconst (v := 1) hx hb dX5_doStep_60 (by decide) ?_
          refine lv_goto (tgt := 65) hx hb dX5_doStep_61 (by decide) ?_
          exact lp_65 1 _ _ _ hP hD hS hl
    · skip
      refine lv_iload_n hx hb dX5_doStep_22 rfl (lv_at hl 0 rfl) ?_
      refine lv_bipush (v := 20) hx hb dX5_doStep_23 (by decide) ?_
      refine iicmp_gt (a := x_1.toInt) (b := 20) (tgt := 44) hx hb rfl (by decide) dX5_doStep_25 (by decide) (fun k_31 => ?_) (fun k_31 => ?_)
      · skip
        refine lv_iload_n hx hb dX5_doStep_44 rfl (lv_at hl 0 rfl) ?_
        refine lv_bipush (v := 10) hx hb dX5_doStep_45 (by decide) ?_
        refine iicmp_neT (a := x_1.toInt) (b := 10) (tgt := 71) hx hb rfl (by decide) dX5_doStep_47 (by decide) (by omega) ?_
        refine lv_aload_n hx hb dX5_doStep_71 rfl (lv_at hl 1 rfl) ?_
        have hPc := hP.sub (ws' := [(A_self, .inr (5, [.ref A_facts, .ref A_pile, .int self_height])), (A_pile, .inl (c 2, 64, .inr (.inl f_pile)))]) [0, 2] rfl
        have hDc := hD.sub (ws' := [(A_self, .inr (5, [.ref A_facts, .ref A_pile, .int self_height])), (A_pile, .inl (c 2, 64, .inr (.inl f_pile)))]) [0, 2] (by decide) rfl
        have hFc := va_free (wc := [(A_self, .inr (5, [.ref A_facts, .ref A_pile, .int self_height])), (A_pile, .inl (c 2, 64, .inr (.inl f_pile)))]) hD hS hA [0, 2] rfl
        refine va_calll (va_runV (As := []) (rest := []) ⟨hx, hb, hml, hown, hts⟩ (k_X5_pop l D c ts s.heap.size A_facts A_pile A_self f_pile self_height i_self_height hi_self_height (by omega)) (cwV 0 hts gX5_doStep_X5_pop rfl rfl rfl ⟨rfl, hdX5_pop⟩ ⟨(show 0 + 1 ≤ 1 by decide), (show 8 + (1 + 11) + 0 ≤ 24 by decide)⟩) ⟨Pre0.blind, va_recv hK hPc (ci := 5) (q0 := 0) rfl rfl, Pre0.at hPc hDc hAm hSt hS hFc⟩ rfl rfl hl.1 rfl (lv_room (Nat.le_of_ble_eq_true rfl)) dX5_doStep_72 ⟨(show 0 + 0 ≤ 0 by decide), (show 0 + 0 ≤ 0 by decide)⟩) hS (fun q _ h => hFc q h) hFc (fun r_33 u_34 t1 H locs ht hvm hw_32 hB_9 hz1_9 hk1_9 hS => ?_)
        obtain ⟨y_35, _⟩ := u_34
        have hw_32 : (0 ≤ y_35.toInt ∧ y_35.toInt ≤ 64) := hw_32
        obtain ⟨hP1_9, hD1_9⟩ := hB_9
        rw [ht] at hP1_9
        have hP1_9 : va_P D vwCl [(A_self, .inr (5, [.ref A_facts, .ref A_pile, .int y_35])), (A_pile, .inl (c 2, 64, .inr (.inl f_pile)))] H := hP1_9
        obtain ⟨hP, hD⟩ := va_join (wr := [(A_facts, .inl (c 2, 10, .inr (.inl f_facts)))]) (w1 := [(A_self, .inr (5, [.ref A_facts, .ref A_pile, .int y_35])), (A_pile, .inl (c 2, 64, .inr (.inl f_pile)))]) hP hD [0, 2] [1] rfl rfl (by decide) (by decide) hk1_9 hFc hP1_9 hD1_9
        have hP : va_P D vwCl [(A_facts, .inl (c 2, 10, .inr (.inl f_facts))), (A_self, .inr (5, [.ref A_facts, .ref A_pile, .int y_35])), (A_pile, .inl (c 2, 64, .inr (.inl f_pile)))] H := hP
        have hD : va_D A [(A_facts, .inl (c 2, 10, .inr (.inl f_facts))), (A_self, .inr (5, [.ref A_facts, .ref A_pile, .int y_35])), (A_pile, .inl (c 2, 64, .inr (.inl f_pile)))] := hD
        refine W.widen (k := 0) (n := 0) (by omega) (by omega) ?_
        refine lv_lstore_n (lv' := [(3, .long r_33), (2, .int x_1), (0, .ref A_self), (1, .int a1)]) hx hb dX5_doStep_75 rfl hl (by decide) rfl (fun ls hl => ?_)
        refine lv_aload_n hx hb dX5_doStep_76 rfl (lv_at hl 2 rfl) ?_
        have hPc := hP.sub (ws' := [(A_self, .inr (5, [.ref A_facts, .ref A_pile, .int y_35])), (A_pile, .inl (c 2, 64, .inr (.inl f_pile)))]) [1, 2] rfl
        have hDc := hD.sub (ws' := [(A_self, .inr (5, [.ref A_facts, .ref A_pile, .int y_35])), (A_pile, .inl (c 2, 64, .inr (.inl f_pile)))]) [1, 2] (by decide) rfl
        have hFc := va_free (wc := [(A_self, .inr (5, [.ref A_facts, .ref A_pile, .int y_35])), (A_pile, .inl (c 2, 64, .inr (.inl f_pile)))]) hD hS hA [1, 2] rfl
        refine va_calll (va_runV (As := []) (rest := []) ⟨hx, hb, hml, hown, hts⟩ (k_X5_pop l D c ts H.size A_facts A_pile A_self f_pile y_35 y_35.toInt rfl (by omega)) (cwV 0 hts gX5_doStep_X5_pop rfl rfl rfl ⟨rfl, hdX5_pop⟩ ⟨(show 0 + 1 ≤ 1 by decide), (show 8 + (1 + 11) + 0 ≤ 24 by decide)⟩) ⟨Pre0.blind, va_recv hK hPc (ci := 5) (q0 := 0) rfl rfl, Pre0.at hPc hDc hAm hSt hS hFc⟩ rfl rfl hl.1 rfl (lv_room (Nat.le_of_ble_eq_true rfl)) dX5_doStep_77 ⟨(show 0 + 0 ≤ 0 by decide), (show 0 + 0 ≤ 0 by decide)⟩) hS (fun q _ h => hFc q h) hFc (fun r_37 u_38 t1 H locs ht hvm hw_36 hB_9 hz1_9 hk1_9 hS => ?_)
        obtain ⟨y_39, _⟩ := u_38
        have hw_36 : (0 ≤ y_39.toInt ∧ y_39.toInt ≤ 64) := hw_36
        obtain ⟨hP1_9, hD1_9⟩ := hB_9
        rw [ht] at hP1_9
        have hP1_9 : va_P D vwCl [(A_self, .inr (5, [.ref A_facts, .ref A_pile, .int y_39])), (A_pile, .inl (c 2, 64, .inr (.inl f_pile)))] H := hP1_9
        obtain ⟨hP, hD⟩ := va_join (wr := [(A_facts, .inl (c 2, 10, .inr (.inl f_facts)))]) (w1 := [(A_self, .inr (5, [.ref A_facts, .ref A_pile, .int y_39])), (A_pile, .inl (c 2, 64, .inr (.inl f_pile)))]) hP hD [1, 2] [0] rfl rfl (by decide) (by decide) hk1_9 hFc hP1_9 hD1_9
        have hP : va_P D vwCl [(A_facts, .inl (c 2, 10, .inr (.inl f_facts))), (A_self, .inr (5, [.ref A_facts, .ref A_pile, .int y_39])), (A_pile, .inl (c 2, 64, .inr (.inl f_pile)))] H := hP
        have hD : va_D A [(A_facts, .inl (c 2, 10, .inr (.inl f_facts))), (A_self, .inr (5, [.ref A_facts, .ref A_pile, .int y_39])), (A_pile, .inl (c 2, 64, .inr (.inl f_pile)))] := hD
        refine W.widen (k := 0) (n := 0) (by omega) (by omega) ?_
        refine lv_lstore (lv' := [(5, .long r_37), (3, .long r_33), (2, .int x_1), (0, .ref A_self), (1, .int a1)]) hx hb dX5_doStep_80 hl (by decide) rfl (fun ls hl => ?_)
        refine lv_aload_n hx hb dX5_doStep_82 rfl (lv_at hl 3 rfl) ?_
        refine lv_iload_n hx hb dX5_doStep_83 rfl (lv_at hl 2 rfl) ?_
        refine lv_lload hx hb dX5_doStep_84 (lv_at hl 0 rfl) ?_
        refine lv_lload_n hx hb dX5_doStep_86 rfl (lv_at hl 1 rfl) ?_
        have hPc := hP.sub (ws' := []) [] rfl
        have hDc := hD.sub (ws' := []) [] (by decide) rfl
        have hFc := va_free (wc := []) hD hS hA [] rfl
        refine va_csl (va_runS (As := [.int x_1, .long r_37, .long r_33]) (rest := [.ref A_self]) ⟨hx, hb, hml, hown, hts⟩ (k_X5_joined l D c ts H.size x_1 x_1.toInt rfl r_37 r_33) (cwS 3 hts gX5_doStep_X5_joined rfl rfl rfl ⟨rfl, hdX5_joined⟩ ⟨(show 0 + 1 ≤ 1 by decide), (show 8 + (5 + 11) + 0 ≤ 24 by decide)⟩) ⟨Pre0.blind, Pre0.at hPc hDc hAm hSt hS hFc⟩ rfl rfl hl.1 rfl (lv_room (Nat.le_of_ble_eq_true rfl)) dX5_doStep_87 ⟨(show 0 + 0 ≤ 0 by decide), (show 0 + 0 ≤ 0 by decide)⟩) (fun r_41 hw_40 => ?_)
        have hPc := hP.sub (ws' := [(A_self, .inr (5, [.ref A_facts, .ref A_pile, .int y_39])), (A_pile, .inl (c 2, 64, .inr (.inl f_pile)))]) [1, 2] rfl
        have hDc := hD.sub (ws' := [(A_self, .inr (5, [.ref A_facts, .ref A_pile, .int y_39])), (A_pile, .inl (c 2, 64, .inr (.inl f_pile)))]) [1, 2] (by decide) rfl
        have hFc := va_free (wc := [(A_self, .inr (5, [.ref A_facts, .ref A_pile, .int y_39])), (A_pile, .inl (c 2, 64, .inr (.inl f_pile)))]) hD hS hA [1, 2] rfl
        refine va_callv (va_runV (As := [.long r_41]) (rest := []) ⟨hx, hb, hml, hown, hts⟩ (k_X5_push l D c ts H.size A_facts A_pile A_self f_pile y_39 y_39.toInt rfl r_41 (by omega)) (cwV 1 hts gX5_doStep_X5_push rfl rfl rfl ⟨rfl, hdX5_push⟩ ⟨(show 0 + 1 ≤ 1 by decide), (show 8 + (3 + 11) + 0 ≤ 24 by decide)⟩) ⟨Pre0.blind, va_recv hK hPc (ci := 5) (q0 := 0) rfl rfl, Pre0.at hPc hDc hAm hSt hS hFc⟩ rfl rfl hl.1 rfl (lv_room (Nat.le_of_ble_eq_true rfl)) dX5_doStep_90 ⟨(show 0 + 0 ≤ 0 by decide), (show 0 + 0 ≤ 0 by decide)⟩) hS (fun q _ h => hFc q h) hFc (fun u_44 t1 H locs ht hvm hw_42 hB_9 hz1_9 hk1_9 hS => ?_)
        obtain ⟨y_45, f_46, _⟩ := u_44
        have hw_42 : (0 ≤ y_45.toInt ∧ y_45.toInt ≤ 64) := hw_42
        obtain ⟨hP1_9, hD1_9⟩ := hB_9
        rw [ht] at hP1_9
        have hP1_9 : va_P D vwCl [(A_self, .inr (5, [.ref A_facts, .ref A_pile, .int y_45])), (A_pile, .inl (c 2, 64, .inr (.inl f_46)))] H := hP1_9
        obtain ⟨hP, hD⟩ := va_join (wr := [(A_facts, .inl (c 2, 10, .inr (.inl f_facts)))]) (w1 := [(A_self, .inr (5, [.ref A_facts, .ref A_pile, .int y_45])), (A_pile, .inl (c 2, 64, .inr (.inl f_46)))]) hP hD [1, 2] [0] rfl rfl (by decide) (by decide) hk1_9 hFc hP1_9 hD1_9
        have hP : va_P D vwCl [(A_facts, .inl (c 2, 10, .inr (.inl f_facts))), (A_self, .inr (5, [.ref A_facts, .ref A_pile, .int y_45])), (A_pile, .inl (c 2, 64, .inr (.inl f_46)))] H := hP
        have hD : va_D A [(A_facts, .inl (c 2, 10, .inr (.inl f_facts))), (A_self, .inr (5, [.ref A_facts, .ref A_pile, .int y_45])), (A_pile, .inl (c 2, 64, .inr (.inl f_46)))] := hD
        refine W.widen (k := 0) (n := 0) (by omega) (by omega) ?_
        have hP9 := hP.sub (ws' := [(A_self, .inr (5, [.ref A_facts, .ref A_pile, .int y_45])), (A_facts, .inl (c 2, 10, .inr (.inl f_facts))), (A_pile, .inl (c 2, 64, .inr (.inl f_46)))]) [1, 0, 2] rfl
        have hD9 := hD.sub (ws' := [(A_self, .inr (5, [.ref A_facts, .ref A_pile, .int y_45])), (A_facts, .inl (c 2, 10, .inr (.inl f_facts))), (A_pile, .inl (c 2, 64, .inr (.inl f_46)))]) [1, 0, 2] (by decide) rfl
        refine W.widen (k := 0) (n := 0) (by omega) (by omega) ?_
        exact W.vret hx hb hr (fun t ht hW => ⟨⟨(y_45, f_46, ()), rfl, (show 0 ≤ y_45.toInt ∧ y_45.toInt ≤ 64 by omega), ⟨by rw [ht]; exact hP9, hD9⟩⟩, hS.F ht⟩) hS.2.2 dX5_doStep_93
      · skip
        refine lv_aload_n hx hb dX5_doStep_28 rfl (lv_at hl 1 rfl) ?_
        refine lv_aload_n hx hb dX5_doStep_29 rfl (lv_at hl 1 rfl) ?_
        refine va_get (D := D) (ci := 5) (v := .ref A_facts) (C := RX5) (T := TX5) (N := 3) hx hb hts (fun _ h => List.mem_cons_of_mem _ (List.mem_append_right _ h)) hown hK hP 0 rfl rfl 0 (by decide) (hts (.fieldLink RX5 9 "CrownTable$Weigher" "facts" "[J") (mem_i 1 rfl)) (fun _ h9 => h9) rfl dX5_doStep_30 ?_
        refine lv_iload_n hx hb dX5_doStep_33 rfl (lv_at hl 0 rfl) ?_
        refine lv_bipush (v := 11) hx hb dX5_doStep_34 (by decide) ?_
        refine lv_isub hx hb dX5_doStep_36 ?_
        refine lv_topi (fun x_47 ex_47 => ?_)
        have tx_47 : x_47.toInt = (x_1.toInt - 11) := by rw [ex_47]; exact sub_ti (a := x_1.toInt) (b := 11) rfl (by decide) (by omega) (by omega)
        refine va_lald hx hb hK hP 1 2 rfl rfl (vin (a := (x_1.toInt - 11)) tx_47 (by omega) (by omega)) dX5_doStep_37 ?_
        refine lv_topl (fun x_48 ex_48 => ?_)
        have hPc := hP.sub (ws' := [(A_self, .inr (5, [.ref A_facts, .ref A_pile, .int self_height])), (A_pile, .inl (c 2, 64, .inr (.inl f_pile)))]) [0, 2] rfl
        have hDc := hD.sub (ws' := [(A_self, .inr (5, [.ref A_facts, .ref A_pile, .int self_height])), (A_pile, .inl (c 2, 64, .inr (.inl f_pile)))]) [0, 2] (by decide) rfl
        have hFc := va_free (wc := [(A_self, .inr (5, [.ref A_facts, .ref A_pile, .int self_height])), (A_pile, .inl (c 2, 64, .inr (.inl f_pile)))]) hD hS hA [0, 2] rfl
        refine va_callv (va_runV (As := [.long x_48]) (rest := []) ⟨hx, hb, hml, hown, hts⟩ (k_X5_push l D c ts s.heap.size A_facts A_pile A_self f_pile self_height i_self_height hi_self_height x_48 (by omega)) (cwV 1 hts gX5_doStep_X5_push rfl rfl rfl ⟨rfl, hdX5_push⟩ ⟨(show 0 + 1 ≤ 1 by decide), (show 8 + (3 + 11) + 0 ≤ 24 by decide)⟩) ⟨Pre0.blind, va_recv hK hPc (ci := 5) (q0 := 0) rfl rfl, Pre0.at hPc hDc hAm hSt hS hFc⟩ rfl rfl hl.1 rfl (lv_room (Nat.le_of_ble_eq_true rfl)) dX5_doStep_38 ⟨(show 0 + 0 ≤ 0 by decide), (show 0 + 0 ≤ 0 by decide)⟩) hS (fun q _ h => hFc q h) hFc (fun u_51 t1 H locs ht hvm hw_49 hB_9 hz1_9 hk1_9 hS => ?_)
        obtain ⟨y_52, f_53, _⟩ := u_51
        have hw_49 : (0 ≤ y_52.toInt ∧ y_52.toInt ≤ 64) := hw_49
        obtain ⟨hP1_9, hD1_9⟩ := hB_9
        rw [ht] at hP1_9
        have hP1_9 : va_P D vwCl [(A_self, .inr (5, [.ref A_facts, .ref A_pile, .int y_52])), (A_pile, .inl (c 2, 64, .inr (.inl f_53)))] H := hP1_9
        obtain ⟨hP, hD⟩ := va_join (wr := [(A_facts, .inl (c 2, 10, .inr (.inl f_facts)))]) (w1 := [(A_self, .inr (5, [.ref A_facts, .ref A_pile, .int y_52])), (A_pile, .inl (c 2, 64, .inr (.inl f_53)))]) hP hD [0, 2] [1] rfl rfl (by decide) (by decide) hk1_9 hFc hP1_9 hD1_9
        have hP : va_P D vwCl [(A_facts, .inl (c 2, 10, .inr (.inl f_facts))), (A_self, .inr (5, [.ref A_facts, .ref A_pile, .int y_52])), (A_pile, .inl (c 2, 64, .inr (.inl f_53)))] H := hP
        have hD : va_D A [(A_facts, .inl (c 2, 10, .inr (.inl f_facts))), (A_self, .inr (5, [.ref A_facts, .ref A_pile, .int y_52])), (A_pile, .inl (c 2, 64, .inr (.inl f_53)))] := hD
        refine W.widen (k := 0) (n := 0) (by omega) (by omega) ?_
        refine lv_goto (tgt := 93) hx hb dX5_doStep_41 (by decide) ?_
        have hP9 := hP.sub (ws' := [(A_self, .inr (5, [.ref A_facts, .ref A_pile, .int y_52])), (A_facts, .inl (c 2, 10, .inr (.inl f_facts))), (A_pile, .inl (c 2, 64, .inr (.inl f_53)))]) [1, 0, 2] rfl
        have hD9 := hD.sub (ws' := [(A_self, .inr (5, [.ref A_facts, .ref A_pile, .int y_52])), (A_facts, .inl (c 2, 10, .inr (.inl f_facts))), (A_pile, .inl (c 2, 64, .inr (.inl f_53)))]) [1, 0, 2] (by decide) rfl
        refine W.widen (k := 0) (n := 0) (by omega) (by omega) ?_
        exact W.vret hx hb hr (fun t ht hW => ⟨⟨(y_52, f_53, ()), rfl, (show 0 ≤ y_52.toInt ∧ y_52.toInt ≤ 64 by omega), ⟨by rw [ht]; exact hP9, hD9⟩⟩, hS.F ht⟩) hS.2.2 dX5_doStep_93
  · skip
    refine lv_aload_n hx hb dX5_doStep_7 rfl (lv_at hl 1 rfl) ?_
    refine lv_iload_n hx hb dX5_doStep_8 rfl (lv_at hl 2 rfl) ?_
    refine lv_i2l hx hb dX5_doStep_9 rfl ?_
    have hPc := hP.sub (ws' := [(A_self, .inr (5, [.ref A_facts, .ref A_pile, .int self_height])), (A_pile, .inl (c 2, 64, .inr (.inl f_pile)))]) [0, 2] rfl
    have hDc := hD.sub (ws' := [(A_self, .inr (5, [.ref A_facts, .ref A_pile, .int self_height])), (A_pile, .inl (c 2, 64, .inr (.inl f_pile)))]) [0, 2] (by decide) rfl
    have hFc := va_free (wc := [(A_self, .inr (5, [.ref A_facts, .ref A_pile, .int self_height])), (A_pile, .inl (c 2, 64, .inr (.inl f_pile)))]) hD hS hA [0, 2] rfl
    refine va_callv (va_runV (As := [.long a1.toInt64]) (rest := []) ⟨hx, hb, hml, hown, hts⟩ (k_X5_push l D c ts s.heap.size A_facts A_pile A_self f_pile self_height i_self_height hi_self_height a1.toInt64 (by omega)) (cwV 1 hts gX5_doStep_X5_push rfl rfl rfl ⟨rfl, hdX5_push⟩ ⟨(show 0 + 1 ≤ 1 by decide), (show 8 + (3 + 11) + 0 ≤ 24 by decide)⟩) ⟨Pre0.blind, va_recv hK hPc (ci := 5) (q0 := 0) rfl rfl, Pre0.at hPc hDc hAm hSt hS hFc⟩ rfl rfl hl.1 rfl (lv_room (Nat.le_of_ble_eq_true rfl)) dX5_doStep_10 ⟨(show 0 + 0 ≤ 0 by decide), (show 0 + 0 ≤ 0 by decide)⟩) hS (fun q _ h => hFc q h) hFc (fun u_56 t1 H locs ht hvm hw_54 hB_9 hz1_9 hk1_9 hS => ?_)
    obtain ⟨y_57, f_58, _⟩ := u_56
    have hw_54 : (0 ≤ y_57.toInt ∧ y_57.toInt ≤ 64) := hw_54
    obtain ⟨hP1_9, hD1_9⟩ := hB_9
    rw [ht] at hP1_9
    have hP1_9 : va_P D vwCl [(A_self, .inr (5, [.ref A_facts, .ref A_pile, .int y_57])), (A_pile, .inl (c 2, 64, .inr (.inl f_58)))] H := hP1_9
    obtain ⟨hP, hD⟩ := va_join (wr := [(A_facts, .inl (c 2, 10, .inr (.inl f_facts)))]) (w1 := [(A_self, .inr (5, [.ref A_facts, .ref A_pile, .int y_57])), (A_pile, .inl (c 2, 64, .inr (.inl f_58)))]) hP hD [0, 2] [1] rfl rfl (by decide) (by decide) hk1_9 hFc hP1_9 hD1_9
    have hP : va_P D vwCl [(A_facts, .inl (c 2, 10, .inr (.inl f_facts))), (A_self, .inr (5, [.ref A_facts, .ref A_pile, .int y_57])), (A_pile, .inl (c 2, 64, .inr (.inl f_58)))] H := hP
    have hD : va_D A [(A_facts, .inl (c 2, 10, .inr (.inl f_facts))), (A_self, .inr (5, [.ref A_facts, .ref A_pile, .int y_57])), (A_pile, .inl (c 2, 64, .inr (.inl f_58)))] := hD
    refine W.widen (k := 0) (n := 0) (by omega) (by omega) ?_
    refine lv_goto (tgt := 93) hx hb dX5_doStep_13 (by decide) ?_
    have hP9 := hP.sub (ws' := [(A_self, .inr (5, [.ref A_facts, .ref A_pile, .int y_57])), (A_facts, .inl (c 2, 10, .inr (.inl f_facts))), (A_pile, .inl (c 2, 64, .inr (.inl f_58)))]) [1, 0, 2] rfl
    have hD9 := hD.sub (ws' := [(A_self, .inr (5, [.ref A_facts, .ref A_pile, .int y_57])), (A_facts, .inl (c 2, 10, .inr (.inl f_facts))), (A_pile, .inl (c 2, 64, .inr (.inl f_58)))]) [1, 0, 2] (by decide) rfl
    refine W.widen (k := 0) (n := 0) (by omega) (by omega) ?_
    exact W.vret hx hb hr (fun t ht hW => ⟨⟨(y_57, f_58, ()), rfl, (show 0 ≤ y_57.toInt ∧ y_57.toInt ≤ 64 by omega), ⟨by rw [ht]; exact hP9, hD9⟩⟩, hS.F ht⟩) hS.2.2 dX5_doStep_93

set_option maxHeartbeats 4000000 in
set_option maxRecDepth 100000 in
theorem k_X5_holds (l : Launch) (D : va_G) (c : Nat → ClassId) (ts : Nat × Nat) (sz : Nat) (A_facts : Nat) (A_pile : Nat) (A_self : Nat) (f_facts : Nat → Int64) (f_pile : Nat → Int64) (Z_self : Nat) (Z_0 : Nat) (Z_1 : Nat) (Z_2 : Nat) (Z_3 : Nat) (m_0 : Nat) (m_1 : Nat) (m_2 : Nat) (m_3 : Nat) (z_0 : Nat → Int32) (z_1 : Nat → Int32) (z_2 : Nat → Int32) (z_3 : Nat → Int32) (self_height : Int32) (i_self_height : Int) (hi_self_height : self_height.toInt = i_self_height) (a2 : Int32) (i_a2 : Int) (hi_a2 : a2.toInt = i_a2) (hv_self_height : 0 ≤ i_self_height ∧ i_self_height ≤ 64) (hm_0 : m_0 ≤ 2000) (hm_1 : m_1 ≤ 2000) (hm_2 : m_2 ≤ 2000) (hm_3 : m_3 ≤ 2000) : Met l yX5_holds wsX5_holds ({ frames := 2, cells := 0, slots := 0, locals := 50 }) (va_Pc [.ref A_self, .ref Z_self, .int a2] (PreF D c ts [(A_self, .inr (5, [.ref A_facts, .ref A_pile, .int self_height])), (A_facts, .inl (c 2, 10, .inr (.inl f_facts))), (A_pile, .inl (c 2, 64, .inr (.inl f_pile)))] [(Z_self, .inr (4, [.ref Z_0, .ref Z_1, .ref Z_2, .ref Z_3])), (Z_0, .inl (c 1, m_0, .inl z_0)), (Z_1, .inl (c 1, m_1, .inl z_1)), (Z_2, .inl (c 1, m_2, .inl z_2)), (Z_3, .inl (c 1, m_3, .inl z_3))] sz)) (va_Qi (fun (r : Int32) (u : Int32 × (Nat → Int64) × Unit) => (((True) ∧ r = 1) ∨ ((True) ∧ r = 0)) ∧ (0 ≤ u.1.toInt ∧ u.1.toInt ≤ 64)) (fun u t => va_P D vwCl [(A_self, .inr (5, [.ref A_facts, .ref A_pile, .int u.1])), (A_facts, .inl (c 2, 10, .inr (.inl f_facts))), (A_pile, .inl (c 2, 64, .inr (.inl u.2.1)))] t.heap ∧ va_D (va_A [(A_self, .inr (5, [.ref A_facts, .ref A_pile, .int self_height])), (A_facts, .inl (c 2, 10, .inr (.inl f_facts))), (A_pile, .inl (c 2, 64, .inr (.inl f_pile)))] sz) [(A_self, .inr (5, [.ref A_facts, .ref A_pile, .int u.1])), (A_facts, .inl (c 2, 10, .inr (.inl f_facts))), (A_pile, .inl (c 2, 64, .inr (.inl u.2.1)))]) (va_A [(A_self, .inr (5, [.ref A_facts, .ref A_pile, .int self_height])), (A_facts, .inl (c 2, 10, .inr (.inl f_facts))), (A_pile, .inl (c 2, 64, .inr (.inl f_pile)))] sz)) 0 0 (va_A [(A_self, .inr (5, [.ref A_facts, .ref A_pile, .int self_height])), (A_facts, .inl (c 2, 10, .inr (.inl f_facts))), (A_pile, .inl (c 2, 64, .inr (.inl f_pile)))] sz) := by
  refine Met.ofW (cc := cX5_holds) (maxL := 6) (ret := (some .boolean)) (by decide) rfl ?_
  intro p e s m args below meth cd s₁ B hml hv
  obtain ⟨rfl, ⟨hsz, hP, hD0, hAm, hSt⟩, hZ, hZA⟩ := hv
  have hx := B.exec
  have hb := B.bytes
  have hr := B.returns
  have hts := atoms_spec (ws := wsX5_holds) B.pre
  have hown : s.vm.findClass RX5 = some m.cls := findClass_of_methodNamed B.named
  have hlocks := B.notSynchronized
  have hK := hAm.1
  subst hsz
  have hD := hD0.self (sz := s.heap.size)
  generalize hAe : va_A [(A_self, .inr (5, [.ref A_facts, .ref A_pile, .int self_height])), (A_facts, .inl (c 2, 10, .inr (.inl f_facts))), (A_pile, .inl (c 2, 64, .inr (.inl f_pile)))] s.heap.size = A at hD hSt hZA ⊢
  have hA : ∀ q : Nat, s.heap.size ≤ q → A q := fun q h => by rw [← hAe]; exact Or.inr h
  have hS : va_S A s.heap s.heap [] := va_S.rf
  clear hD0 hAe
  have hl := lv_entry ([.ref A_self, .ref Z_self, .int a2]) (n := 6) (Nat.le_of_ble_eq_true rfl)
  rw [lg_entry_eq]
  generalize (lg_sl ([.ref A_self, .ref Z_self, .int a2]) ++ List.replicate (6 - (lg_sl ([.ref A_self, .ref Z_self, .int a2])).length) Slot.unset).toArray = ls at hl ⊢
  have hl : lv_has ls 6 [(0, .ref A_self), (1, .ref Z_self), (2, .int a2)] := hl
  have rg_a2 := i32r a2
  refine lv_aload_n hx hb dX5_holds_0 rfl (lv_at hl 1 rfl) ?_
  refine lv_iload_n hx hb dX5_holds_1 rfl (lv_at hl 2 rfl) ?_
  have hPz := fzk hZ hZA hS
  have hPc := hPz.sub (ws' := [(Z_self, .inr (4, [.ref Z_0, .ref Z_1, .ref Z_2, .ref Z_3])), (Z_2, .inl (c 1, m_2, .inl z_2)), (Z_3, .inl (c 1, m_3, .inl z_3))]) [0, 3, 4] rfl
  refine va_csi (va_runVN (As := [.int a2]) (rest := []) ⟨hx, hb, hml, hown, hts⟩ (k_X4_startOf l D c ts 0 Z_0 Z_1 Z_2 Z_3 Z_self m_2 z_2 m_3 z_3 a2 i_a2 hi_a2 (by omega) (by omega)) ⟨va_cnB 1 hts gX5_holds_X4_startOf_n28 rfl rfl rfl (show va_Nw (.methodLinkNest RX5 28 yX4_startOf RX6) _ from hAm.2.1.1 (RX5, 28, yX4_startOf, RX6) (mem_i 17 rfl)) (hts (.initialized RX4) (mem_i 3 rfl)) hdX4_startOf ⟨(show 0 + 1 ≤ 2 by decide), (show 8 + (2 + 11) + 0 ≤ 50 by decide)⟩, (hts (.instanceMethod yX4_startOf) (mem_i 2 rfl)), (hts (.selects RX4 yX4_startOf yX4_startOf) (mem_i 4 rfl))⟩ ⟨Pre1.blind, va_recv hK hPc (ci := 4) (q0 := 0) rfl rfl, Pre1.at hPc hAm⟩ rfl rfl hl.1 rfl (lv_room (Nat.le_of_ble_eq_true rfl)) dX5_holds_2 ⟨(show 0 + 0 ≤ 0 by decide), (show 0 + 0 ≤ 0 by decide)⟩) (fun r_2 hw_1 => ?_)
  have rg_r_2 := i32r r_2
  refine lv_istore_n (lv' := [(3, .int r_2), (0, .ref A_self), (1, .ref Z_self), (2, .int a2)]) hx hb dX5_holds_5 rfl hl (by decide) rfl (fun ls hl => ?_)
  refine lv_aload_n hx hb dX5_holds_6 rfl (lv_at hl 2 rfl) ?_
  refine lv_iload_n hx hb dX5_holds_7 rfl (lv_at hl 3 rfl) ?_
  refine lv_iconst (v := 1) hx hb dX5_holds_8 (by decide) ?_
  refine lv_iadd hx hb dX5_holds_9 ?_
  refine lv_topi (fun x_3 ex_3 => ?_)
  have hPz := fzk hZ hZA hS
  have hPc := hPz.sub (ws' := [(Z_self, .inr (4, [.ref Z_0, .ref Z_1, .ref Z_2, .ref Z_3])), (Z_2, .inl (c 1, m_2, .inl z_2)), (Z_3, .inl (c 1, m_3, .inl z_3))]) [0, 3, 4] rfl
  refine va_csi (va_runVN (As := [.int x_3]) (rest := []) ⟨hx, hb, hml, hown, hts⟩ (k_X4_startOf l D c ts 0 Z_0 Z_1 Z_2 Z_3 Z_self m_2 z_2 m_3 z_3 x_3 x_3.toInt rfl (by omega) (by omega)) ⟨va_cnB 1 hts gX5_holds_X4_startOf_n28 rfl rfl rfl (show va_Nw (.methodLinkNest RX5 28 yX4_startOf RX6) _ from hAm.2.1.1 (RX5, 28, yX4_startOf, RX6) (mem_i 17 rfl)) (hts (.initialized RX4) (mem_i 3 rfl)) hdX4_startOf ⟨(show 0 + 1 ≤ 2 by decide), (show 8 + (2 + 11) + 0 ≤ 50 by decide)⟩, (hts (.instanceMethod yX4_startOf) (mem_i 2 rfl)), (hts (.selects RX4 yX4_startOf yX4_startOf) (mem_i 4 rfl))⟩ ⟨Pre1.blind, va_recv hK hPc (ci := 4) (q0 := 0) rfl rfl, Pre1.at hPc hAm⟩ rfl rfl hl.1 rfl (lv_room (Nat.le_of_ble_eq_true rfl)) dX5_holds_10 ⟨(show 0 + 0 ≤ 0 by decide), (show 0 + 0 ≤ 0 by decide)⟩) (fun r_5 hw_4 => ?_)
  have rg_r_5 := i32r r_5
  refine lv_istore (lv' := [(4, .int r_5), (3, .int r_2), (0, .ref A_self), (1, .ref Z_self), (2, .int a2)]) hx hb dX5_holds_13 hl (by decide) rfl (fun ls hl => ?_)
  refine lv_aload_n hx hb dX5_holds_15 rfl (lv_at hl 2 rfl) ?_
  refine lv_iconst (v := 0) hx hb dX5_holds_16 (by decide) ?_
  refine va_put (D := D) (ci := 5) (v := .int 0) (ty := .int) (C := RX5) (T := TX5) (N := 3) hx hb hts (fun _ h => List.mem_cons_of_mem _ (List.mem_append_left _ (List.mem_append_right _ h))) tyX5 tyX5_ok nmX5 hown hK hP hD hS 0 rfl rfl 2 (by decide) (hts (.fieldLink RX5 32 "CrownTable$Weigher" "height" "I") (mem_i 1 rfl)) (fun _ h9 => h9) rfl (by decide +kernel) rfl rfl (Nat.le_of_ble_eq_true rfl) dX5_holds_17 (fun H locs hP hD hS => ?_)
  have hP : va_P D vwCl [(A_self, .inr (5, [.ref A_facts, .ref A_pile, .int 0])), (A_facts, .inl (c 2, 10, .inr (.inl f_facts))), (A_pile, .inl (c 2, 64, .inr (.inl f_pile)))] H := hP
  have hD : va_D A [(A_self, .inr (5, [.ref A_facts, .ref A_pile, .int 0])), (A_facts, .inl (c 2, 10, .inr (.inl f_facts))), (A_pile, .inl (c 2, 64, .inr (.inl f_pile)))] := hD
  refine lv_iload_n hx hb dX5_holds_20 rfl (lv_at hl 1 rfl) ?_
  refine lv_istore (lv' := [(5, .int r_2), (4, .int r_5), (3, .int r_2), (0, .ref A_self), (1, .ref Z_self), (2, .int a2)]) hx hb dX5_holds_21 hl (by decide) rfl (fun ls hl => ?_)
  have lp_23 : ∀ (N : Nat) (L5 : Int32) (M_self_height : Int32) (M_pile : Nat → Int64) (hf23_0 : 0 ≤ M_self_height.toInt ∧ M_self_height.toInt ≤ 64) (hN23 : (3000000000 - L5.toInt).toNat = N) (H : Heap) (locs : List Loc) (ls : Array Slot), va_P D vwCl [(A_self, .inr (5, [.ref A_facts, .ref A_pile, .int M_self_height])), (A_facts, .inl (c 2, 10, .inr (.inl f_facts))), (A_pile, .inl (c 2, 64, .inr (.inl M_pile)))] H → va_D A [(A_self, .inr (5, [.ref A_facts, .ref A_pile, .int M_self_height])), (A_facts, .inl (c 2, 10, .inr (.inl f_facts))), (A_pile, .inl (c 2, 64, .inr (.inl M_pile)))] → va_S A s.heap H locs → lv_has ls 6 [(4, .int r_5), (3, .int r_2), (0, .ref A_self), (1, .ref Z_self), (2, .int a2), (5, .int L5)] → W p l e (headSpec wsX5_holds ({ frames := 2, cells := 0, slots := 0, locals := 50 })).room s m (([.ref A_self, .ref Z_self, .int a2] : List Value).toArray) below meth cd H locs 0 0 (MQ below (va_Qi (fun (r : Int32) (u : Int32 × (Nat → Int64) × Unit) => (((True) ∧ r = 1) ∨ ((True) ∧ r = 0)) ∧ (0 ≤ u.1.toInt ∧ u.1.toInt ≤ 64)) (fun u t => va_P D vwCl [(A_self, .inr (5, [.ref A_facts, .ref A_pile, .int u.1])), (A_facts, .inl (c 2, 10, .inr (.inl f_facts))), (A_pile, .inl (c 2, 64, .inr (.inl u.2.1)))] t.heap ∧ va_D A [(A_self, .inr (5, [.ref A_facts, .ref A_pile, .int u.1])), (A_facts, .inl (c 2, 10, .inr (.inl f_facts))), (A_pile, .inl (c 2, 64, .inr (.inl u.2.1)))]) A) ([.ref A_self, .ref Z_self, .int a2] : List Value).toArray s 0 0 A) (F0 m 23 ls []) := by
    refine st_ind (fun N ih23 => ?_)
    intro L5 M_self_height M_pile hf23_0 hN23 H locs ls hP hD hS hl
    have rg_L5 := i32r L5
    have rg_M_self_height := i32r M_self_height
    refine lv_iload hx hb dX5_holds_23 (lv_at hl 5 rfl) ?_
    refine lv_iload hx hb dX5_holds_25 (lv_at hl 0 rfl) ?_
    refine iicmp_ge (a := L5.toInt) (b := r_5.toInt) (tgt := 46) hx hb rfl rfl dX5_holds_27 (by decide) (fun k_6 => ?_) (fun k_6 => ?_)
    · skip
      refine lv_iload_n hx hb dX5_holds_46 rfl (lv_at hl 1 rfl) ?_
      refine lv_iload hx hb dX5_holds_47 (lv_at hl 0 rfl) ?_
      refine iicmp_ge (a := r_2.toInt) (b := r_5.toInt) (tgt := 61) hx hb rfl rfl dX5_holds_49 (by decide) (fun k_7 => ?_) (fun k_7 => ?_)
      · skip
        refine lv_iconst (v := 1) hx hb dX5_holds_61 (by decide) ?_
        refine lv_goto (tgt := 66) hx hb dX5_holds_62 (by decide) ?_
        have kzz_8 : (1 : Int32).toInt = 1 := by decide
        have hP9 := hP.sub (ws' := [(A_self, .inr (5, [.ref A_facts, .ref A_pile, .int M_self_height])), (A_facts, .inl (c 2, 10, .inr (.inl f_facts))), (A_pile, .inl (c 2, 64, .inr (.inl M_pile)))]) [0, 1, 2] rfl
        have hD9 := hD.sub (ws' := [(A_self, .inr (5, [.ref A_facts, .ref A_pile, .int M_self_height])), (A_facts, .inl (c 2, 10, .inr (.inl f_facts))), (A_pile, .inl (c 2, 64, .inr (.inl M_pile)))]) [0, 1, 2] (by decide) rfl
        refine W.widen (k := 0) (n := 0) (by omega) (by omega) ?_
        exact W.zret (v := 1) hx hb hr (by decide) (fun t ht hW => ⟨⟨_, (M_self_height, M_pile, ()), rfl, ⟨Or.inl ⟨trivial, rfl⟩, (show 0 ≤ M_self_height.toInt ∧ M_self_height.toInt ≤ 64 by omega)⟩, ⟨by rw [ht]; exact hP9, hD9⟩⟩, hS.F ht⟩) hS.2.2 dX5_holds_66
      · skip
        refine lv_aload_n hx hb dX5_holds_52 rfl (lv_at hl 2 rfl) ?_
        have hPc := hP.sub (ws' := [(A_self, .inr (5, [.ref A_facts, .ref A_pile, .int M_self_height])), (A_pile, .inl (c 2, 64, .inr (.inl M_pile)))]) [0, 2] rfl
        have hDc := hD.sub (ws' := [(A_self, .inr (5, [.ref A_facts, .ref A_pile, .int M_self_height])), (A_pile, .inl (c 2, 64, .inr (.inl M_pile)))]) [0, 2] (by decide) rfl
        have hFc := va_free (wc := [(A_self, .inr (5, [.ref A_facts, .ref A_pile, .int M_self_height])), (A_pile, .inl (c 2, 64, .inr (.inl M_pile)))]) hD hS hA [0, 2] rfl
        refine va_calll (va_runV (As := []) (rest := []) ⟨hx, hb, hml, hown, hts⟩ (k_X5_pop l D c ts H.size A_facts A_pile A_self M_pile M_self_height M_self_height.toInt rfl (by omega)) (cwV 0 hts gX5_holds_X5_pop rfl rfl rfl ⟨rfl, hdX5_pop⟩ ⟨(show 0 + 1 ≤ 2 by decide), (show 8 + (1 + 11) + 0 ≤ 50 by decide)⟩) ⟨Pre0.blind, va_recv hK hPc (ci := 5) (q0 := 0) rfl rfl, Pre0.at hPc hDc hAm hSt hS hFc⟩ rfl rfl hl.1 rfl (lv_room (Nat.le_of_ble_eq_true rfl)) dX5_holds_53 ⟨(show 0 + 0 ≤ 0 by decide), (show 0 + 0 ≤ 0 by decide)⟩) hS (fun q _ h => hFc q h) hFc (fun r_10 u_11 t1 H locs ht hvm hw_9 hB_9 hz1_9 hk1_9 hS => ?_)
        obtain ⟨y_12, _⟩ := u_11
        have hw_9 : (0 ≤ y_12.toInt ∧ y_12.toInt ≤ 64) := hw_9
        obtain ⟨hP1_9, hD1_9⟩ := hB_9
        rw [ht] at hP1_9
        have hP1_9 : va_P D vwCl [(A_self, .inr (5, [.ref A_facts, .ref A_pile, .int y_12])), (A_pile, .inl (c 2, 64, .inr (.inl M_pile)))] H := hP1_9
        obtain ⟨hP, hD⟩ := va_join (wr := [(A_facts, .inl (c 2, 10, .inr (.inl f_facts)))]) (w1 := [(A_self, .inr (5, [.ref A_facts, .ref A_pile, .int y_12])), (A_pile, .inl (c 2, 64, .inr (.inl M_pile)))]) hP hD [0, 2] [1] rfl rfl (by decide) (by decide) hk1_9 hFc hP1_9 hD1_9
        have hP : va_P D vwCl [(A_facts, .inl (c 2, 10, .inr (.inl f_facts))), (A_self, .inr (5, [.ref A_facts, .ref A_pile, .int y_12])), (A_pile, .inl (c 2, 64, .inr (.inl M_pile)))] H := hP
        have hD : va_D A [(A_facts, .inl (c 2, 10, .inr (.inl f_facts))), (A_self, .inr (5, [.ref A_facts, .ref A_pile, .int y_12])), (A_pile, .inl (c 2, 64, .inr (.inl M_pile)))] := hD
        refine W.widen (k := 0) (n := 0) (by omega) (by omega) ?_
        refine lv_lconst (v := 0) hx hb dX5_holds_56 (by decide) ?_
        refine W.lcmp hx hb dX5_holds_57 ?_
        refine lv_topi (fun x_13 ex_13 => ?_)
        have tx_13 := lcg_fact (n := x_13) ex_13 (show (r_10 : Int64).toInt = r_10.toInt from rfl) (show (0 : Int64).toInt = 0 from (by decide))
        refine iif_eq (a := x_13.toInt) (tgt := 65) hx hb rfl dX5_holds_58 (by decide) (fun k_14 => ?_) (fun k_14 => ?_)
        · skip
          refine lv_iconst (v := 0) hx hb dX5_holds_65 (by decide) ?_
          have kzz_15 : (0 : Int32).toInt = 0 := by decide
          have hP9 := hP.sub (ws' := [(A_self, .inr (5, [.ref A_facts, .ref A_pile, .int y_12])), (A_facts, .inl (c 2, 10, .inr (.inl f_facts))), (A_pile, .inl (c 2, 64, .inr (.inl M_pile)))]) [1, 0, 2] rfl
          have hD9 := hD.sub (ws' := [(A_self, .inr (5, [.ref A_facts, .ref A_pile, .int y_12])), (A_facts, .inl (c 2, 10, .inr (.inl f_facts))), (A_pile, .inl (c 2, 64, .inr (.inl M_pile)))]) [1, 0, 2] (by decide) rfl
          refine W.widen (k := 0) (n := 0) (by omega) (by omega) ?_
          exact W.zret (v := 0) hx hb hr (by decide) (fun t ht hW => ⟨⟨_, (y_12, M_pile, ()), rfl, ⟨Or.inr (⟨trivial, rfl⟩), (show 0 ≤ y_12.toInt ∧ y_12.toInt ≤ 64 by omega)⟩, ⟨by rw [ht]; exact hP9, hD9⟩⟩, hS.F ht⟩) hS.2.2 dX5_holds_66
        · skip
          refine lv_iconst (v := 1) hx hb dX5_holds_61 (by decide) ?_
          refine lv_goto (tgt := 66) hx hb dX5_holds_62 (by decide) ?_
          have kzz_16 : (1 : Int32).toInt = 1 := by decide
          have hP9 := hP.sub (ws' := [(A_self, .inr (5, [.ref A_facts, .ref A_pile, .int y_12])), (A_facts, .inl (c 2, 10, .inr (.inl f_facts))), (A_pile, .inl (c 2, 64, .inr (.inl M_pile)))]) [1, 0, 2] rfl
          have hD9 := hD.sub (ws' := [(A_self, .inr (5, [.ref A_facts, .ref A_pile, .int y_12])), (A_facts, .inl (c 2, 10, .inr (.inl f_facts))), (A_pile, .inl (c 2, 64, .inr (.inl M_pile)))]) [1, 0, 2] (by decide) rfl
          refine W.widen (k := 0) (n := 0) (by omega) (by omega) ?_
          exact W.zret (v := 1) hx hb hr (by decide) (fun t ht hW => ⟨⟨_, (y_12, M_pile, ()), rfl, ⟨Or.inl ⟨trivial, rfl⟩, (show 0 ≤ y_12.toInt ∧ y_12.toInt ≤ 64 by omega)⟩, ⟨by rw [ht]; exact hP9, hD9⟩⟩, hS.F ht⟩) hS.2.2 dX5_holds_66
    · skip
      refine lv_aload_n hx hb dX5_holds_30 rfl (lv_at hl 2 rfl) ?_
      refine lv_aload_n hx hb dX5_holds_31 rfl (lv_at hl 3 rfl) ?_
      refine lv_iload hx hb dX5_holds_32 (lv_at hl 5 rfl) ?_
      have hPz := fzk hZ hZA hS
      have hPc := hPz.sub (ws' := [(Z_self, .inr (4, [.ref Z_0, .ref Z_1, .ref Z_2, .ref Z_3])), (Z_3, .inl (c 1, m_3, .inl z_3))]) [0, 4] rfl
      refine va_csi (va_runVN (As := [.int L5]) (rest := [.ref A_self]) ⟨hx, hb, hml, hown, hts⟩ (k_X4_codeAt l D c ts 0 Z_0 Z_1 Z_2 Z_3 Z_self m_3 z_3 L5 L5.toInt rfl (by omega)) ⟨va_cnB 1 hts gX5_holds_X4_codeAt_n36 rfl rfl rfl (show va_Nw (.methodLinkNest RX5 36 yX4_codeAt RX6) _ from hAm.2.1.1 (RX5, 36, yX4_codeAt, RX6) (mem_i 18 rfl)) (hts (.initialized RX4) (mem_i 3 rfl)) hdX4_codeAt ⟨(show 0 + 1 ≤ 2 by decide), (show 8 + (2 + 11) + 0 ≤ 50 by decide)⟩, (hts (.instanceMethod yX4_codeAt) (mem_i 8 rfl)), (hts (.selects RX4 yX4_codeAt yX4_codeAt) (mem_i 9 rfl))⟩ ⟨Pre1.blind, va_recv hK hPc (ci := 4) (q0 := 0) rfl rfl, Pre1.at hPc hAm⟩ rfl rfl hl.1 rfl (lv_room (Nat.le_of_ble_eq_true rfl)) dX5_holds_34 ⟨(show 0 + 0 ≤ 0 by decide), (show 0 + 0 ≤ 0 by decide)⟩) (fun r_18 hw_17 => ?_)
      have rg_r_18 := i32r r_18
      have hPc := hP.sub (ws' := [(A_self, .inr (5, [.ref A_facts, .ref A_pile, .int M_self_height])), (A_facts, .inl (c 2, 10, .inr (.inl f_facts))), (A_pile, .inl (c 2, 64, .inr (.inl M_pile)))]) [0, 1, 2] rfl
      have hDc := hD.sub (ws' := [(A_self, .inr (5, [.ref A_facts, .ref A_pile, .int M_self_height])), (A_facts, .inl (c 2, 10, .inr (.inl f_facts))), (A_pile, .inl (c 2, 64, .inr (.inl M_pile)))]) [0, 1, 2] (by decide) rfl
      have hFc := va_free (wc := [(A_self, .inr (5, [.ref A_facts, .ref A_pile, .int M_self_height])), (A_facts, .inl (c 2, 10, .inr (.inl f_facts))), (A_pile, .inl (c 2, 64, .inr (.inl M_pile)))]) hD hS hA [0, 1, 2] rfl
      refine va_callv (va_runV (As := [.int r_18]) (rest := []) ⟨hx, hb, hml, hown, hts⟩ (k_X5_doStep l D c ts H.size A_facts A_pile A_self f_facts M_pile M_self_height M_self_height.toInt rfl r_18 r_18.toInt rfl (by omega)) (cwV 1 hts gX5_holds_X5_doStep rfl rfl rfl ⟨rfl, hdX5_doStep⟩ ⟨(show 1 + 1 ≤ 2 by decide), (show 8 + (7 + 11) + 24 ≤ 50 by decide)⟩) ⟨Pre0.blind, va_recv hK hPc (ci := 5) (q0 := 0) rfl rfl, Pre0.at hPc hDc hAm hSt hS hFc⟩ rfl rfl hl.1 rfl (lv_room (Nat.le_of_ble_eq_true rfl)) dX5_holds_37 ⟨(show 0 + 0 ≤ 0 by decide), (show 0 + 0 ≤ 0 by decide)⟩) hS (fun q _ h => hFc q h) hFc (fun u_21 t1 H locs ht hvm hw_19 hB_9 hz1_9 hk1_9 hS => ?_)
      obtain ⟨y_22, f_23, _⟩ := u_21
      have hw_19 : (0 ≤ y_22.toInt ∧ y_22.toInt ≤ 64) := hw_19
      obtain ⟨hP1_9, hD1_9⟩ := hB_9
      rw [ht] at hP1_9
      have hP1_9 : va_P D vwCl [(A_self, .inr (5, [.ref A_facts, .ref A_pile, .int y_22])), (A_facts, .inl (c 2, 10, .inr (.inl f_facts))), (A_pile, .inl (c 2, 64, .inr (.inl f_23)))] H := hP1_9
      obtain ⟨hP, hD⟩ := va_join (wr := []) (w1 := [(A_self, .inr (5, [.ref A_facts, .ref A_pile, .int y_22])), (A_facts, .inl (c 2, 10, .inr (.inl f_facts))), (A_pile, .inl (c 2, 64, .inr (.inl f_23)))]) hP hD [0, 1, 2] [] rfl rfl (by decide) (by decide) hk1_9 hFc hP1_9 hD1_9
      have hP : va_P D vwCl [(A_self, .inr (5, [.ref A_facts, .ref A_pile, .int y_22])), (A_facts, .inl (c 2, 10, .inr (.inl f_facts))), (A_pile, .inl (c 2, 64, .inr (.inl f_23)))] H := hP
      have hD : va_D A [(A_self, .inr (5, [.ref A_facts, .ref A_pile, .int y_22])), (A_facts, .inl (c 2, 10, .inr (.inl f_facts))), (A_pile, .inl (c 2, 64, .inr (.inl f_23)))] := hD
      refine W.widen (k := 0) (n := 0) (by omega) (by omega) ?_
      obtain ⟨x_24, ex_24⟩ : ∃ y : Int32, y = L5 + 1 := ⟨_, rfl⟩
      have tx_24 : x_24.toInt = L5.toInt + 1 := by rw [ex_24]; exact add_ti (a := L5.toInt) (b := 1) rfl (by decide) (by omega) (by omega)
      refine lv_iinc (v := x_24) (lv' := [(5, .int x_24), (4, .int r_5), (3, .int r_2), (0, .ref A_self), (1, .ref Z_self), (2, .int a2)]) hx hb dX5_holds_40 hl (k := 5) rfl (by rw [ex_24]; rfl) (by decide) rfl (fun ls hl => ?_)
      refine lv_goto (tgt := 23) hx hb dX5_holds_43 (by decide) ?_
      have hl := lv_sub hl [1, 2, 3, 4, 5, 0] rfl
      exact (ih23 ((3000000000 - x_24.toInt).toNat) (by omega) x_24 y_22 f_23 (by omega) rfl _ _ _ hP hD hS hl)
  have kzz_25 : (0 : Int32).toInt = 0 := by decide
  have hl := lv_sub hl [1, 2, 3, 4, 5, 0] rfl
  exact (lp_23 _ r_2 0 f_pile (by omega) rfl _ _ _ hP hD hS hl)

set_option maxHeartbeats 4000000 in
set_option maxRecDepth 100000 in
theorem k_X5_firstHeld (l : Launch) (D : va_G) (c : Nat → ClassId) (ts : Nat × Nat) (sz : Nat) (A_facts : Nat) (A_pile : Nat) (A_self : Nat) (f_facts : Nat → Int64) (f_pile : Nat → Int64) (Z_self : Nat) (Z_0 : Nat) (Z_1 : Nat) (Z_2 : Nat) (Z_3 : Nat) (m_0 : Nat) (m_1 : Nat) (m_2 : Nat) (m_3 : Nat) (z_0 : Nat → Int32) (z_1 : Nat → Int32) (z_2 : Nat → Int32) (z_3 : Nat → Int32) (self_height : Int32) (i_self_height : Int) (hi_self_height : self_height.toInt = i_self_height) (hv_self_height : 0 ≤ i_self_height ∧ i_self_height ≤ 64) (hm_0 : m_0 ≤ 2000) (hm_1 : m_1 ≤ 2000) (hm_2 : m_2 ≤ 2000) (hm_3 : m_3 ≤ 2000) : Met l yX5_firstHeld wsX5_firstHeld ({ frames := 3, cells := 0, slots := 0, locals := 75 }) (va_Pc [.ref A_self, .ref Z_self] (PreF D c ts [(A_self, .inr (5, [.ref A_facts, .ref A_pile, .int self_height])), (A_facts, .inl (c 2, 10, .inr (.inl f_facts))), (A_pile, .inl (c 2, 64, .inr (.inl f_pile)))] [(Z_self, .inr (4, [.ref Z_0, .ref Z_1, .ref Z_2, .ref Z_3])), (Z_0, .inl (c 1, m_0, .inl z_0)), (Z_1, .inl (c 1, m_1, .inl z_1)), (Z_2, .inl (c 1, m_2, .inl z_2)), (Z_3, .inl (c 1, m_3, .inl z_3))] sz)) (va_Qi (fun (r : Int32) (u : Int32 × (Nat → Int64) × Unit) => (0 ≤ u.1.toInt ∧ u.1.toInt ≤ 64)) (fun u t => va_P D vwCl [(A_self, .inr (5, [.ref A_facts, .ref A_pile, .int u.1])), (A_facts, .inl (c 2, 10, .inr (.inl f_facts))), (A_pile, .inl (c 2, 64, .inr (.inl u.2.1)))] t.heap ∧ va_D (va_A [(A_self, .inr (5, [.ref A_facts, .ref A_pile, .int self_height])), (A_facts, .inl (c 2, 10, .inr (.inl f_facts))), (A_pile, .inl (c 2, 64, .inr (.inl f_pile)))] sz) [(A_self, .inr (5, [.ref A_facts, .ref A_pile, .int u.1])), (A_facts, .inl (c 2, 10, .inr (.inl f_facts))), (A_pile, .inl (c 2, 64, .inr (.inl u.2.1)))]) (va_A [(A_self, .inr (5, [.ref A_facts, .ref A_pile, .int self_height])), (A_facts, .inl (c 2, 10, .inr (.inl f_facts))), (A_pile, .inl (c 2, 64, .inr (.inl f_pile)))] sz)) 0 0 (va_A [(A_self, .inr (5, [.ref A_facts, .ref A_pile, .int self_height])), (A_facts, .inl (c 2, 10, .inr (.inl f_facts))), (A_pile, .inl (c 2, 64, .inr (.inl f_pile)))] sz) := by
  refine Met.ofW (cc := cX5_firstHeld) (maxL := 3) (ret := (some .int)) (by decide) rfl ?_
  intro p e s m args below meth cd s₁ B hml hv
  obtain ⟨rfl, ⟨hsz, hP, hD0, hAm, hSt⟩, hZ, hZA⟩ := hv
  have hx := B.exec
  have hb := B.bytes
  have hr := B.returns
  have hts := atoms_spec (ws := wsX5_firstHeld) B.pre
  have hown : s.vm.findClass RX5 = some m.cls := findClass_of_methodNamed B.named
  have hlocks := B.notSynchronized
  have hK := hAm.1
  subst hsz
  have hD := hD0.self (sz := s.heap.size)
  generalize hAe : va_A [(A_self, .inr (5, [.ref A_facts, .ref A_pile, .int self_height])), (A_facts, .inl (c 2, 10, .inr (.inl f_facts))), (A_pile, .inl (c 2, 64, .inr (.inl f_pile)))] s.heap.size = A at hD hSt hZA ⊢
  have hA : ∀ q : Nat, s.heap.size ≤ q → A q := fun q h => by rw [← hAe]; exact Or.inr h
  have hS : va_S A s.heap s.heap [] := va_S.rf
  clear hD0 hAe
  have hl := lv_entry ([.ref A_self, .ref Z_self]) (n := 3) (Nat.le_of_ble_eq_true rfl)
  rw [lg_entry_eq]
  generalize (lg_sl ([.ref A_self, .ref Z_self]) ++ List.replicate (3 - (lg_sl ([.ref A_self, .ref Z_self])).length) Slot.unset).toArray = ls at hl ⊢
  have hl : lv_has ls 3 [(0, .ref A_self), (1, .ref Z_self)] := hl
  refine lv_iconst (v := 0) hx hb dX5_firstHeld_0 (by decide) ?_
  refine lv_istore_n (lv' := [(2, .int 0), (0, .ref A_self), (1, .ref Z_self)]) hx hb dX5_firstHeld_1 rfl hl (by decide) rfl (fun ls hl => ?_)
  have lp_2 : ∀ (N : Nat) (L2 : Int32) (M_self_height : Int32) (M_pile : Nat → Int64) (hf2_0 : 0 ≤ L2.toInt) (hf2_1 : L2.toInt ≤ 2000) (hf2_2 : 0 ≤ M_self_height.toInt ∧ M_self_height.toInt ≤ 64) (hN2 : (3000 - L2.toInt).toNat = N) (H : Heap) (locs : List Loc) (ls : Array Slot), va_P D vwCl [(A_self, .inr (5, [.ref A_facts, .ref A_pile, .int M_self_height])), (A_facts, .inl (c 2, 10, .inr (.inl f_facts))), (A_pile, .inl (c 2, 64, .inr (.inl M_pile)))] H → va_D A [(A_self, .inr (5, [.ref A_facts, .ref A_pile, .int M_self_height])), (A_facts, .inl (c 2, 10, .inr (.inl f_facts))), (A_pile, .inl (c 2, 64, .inr (.inl M_pile)))] → va_S A s.heap H locs → lv_has ls 3 [(0, .ref A_self), (1, .ref Z_self), (2, .int L2)] → W p l e (headSpec wsX5_firstHeld ({ frames := 3, cells := 0, slots := 0, locals := 75 })).room s m (([.ref A_self, .ref Z_self] : List Value).toArray) below meth cd H locs 0 0 (MQ below (va_Qi (fun (r : Int32) (u : Int32 × (Nat → Int64) × Unit) => (0 ≤ u.1.toInt ∧ u.1.toInt ≤ 64)) (fun u t => va_P D vwCl [(A_self, .inr (5, [.ref A_facts, .ref A_pile, .int u.1])), (A_facts, .inl (c 2, 10, .inr (.inl f_facts))), (A_pile, .inl (c 2, 64, .inr (.inl u.2.1)))] t.heap ∧ va_D A [(A_self, .inr (5, [.ref A_facts, .ref A_pile, .int u.1])), (A_facts, .inl (c 2, 10, .inr (.inl f_facts))), (A_pile, .inl (c 2, 64, .inr (.inl u.2.1)))]) A) ([.ref A_self, .ref Z_self] : List Value).toArray s 0 0 A) (F0 m 2 ls []) := by
    refine st_ind (fun N ih2 => ?_)
    intro L2 M_self_height M_pile hf2_0 hf2_1 hf2_2 hN2 H locs ls hP hD hS hl
    have rg_M_self_height := i32r M_self_height
    refine lv_iload_n hx hb dX5_firstHeld_2 rfl (lv_at hl 2 rfl) ?_
    refine lv_aload_n hx hb dX5_firstHeld_3 rfl (lv_at hl 1 rfl) ?_
    have hPz := fzk hZ hZA hS
    refine va_getN (D := D) (ci := 4) (v := .ref Z_0) (own := RX5) (ref := "CrownTable$Text") (host := RX6) (index := 18) (C := RX4) (T := TX4) (N := 4) hx hb hts (fun _ h => List.mem_cons_of_mem _ (List.mem_append_left _ (List.mem_append_right _ h))) hown hK hPz 0 rfl rfl 0 (by decide) (show (Cond.fieldLinkNest RX5 18 "CrownTable$Text" "acts" "[I" RX6).before _ _ = true from va_Nw.use rfl (hAm.2.1.2 (RX5, 18, "CrownTable$Text", "acts", "[I", RX6) (mem_i 5 rfl))) (fun _ h9 => h9) rfl dX5_firstHeld_4 ?_
    have hPz := fzk hZ hZA hS
    refine va_alen hx hb hK hPz 1 1 rfl rfl rfl dX5_firstHeld_7 ?_
    obtain ⟨x_1, ex_1⟩ : ∃ x_1 : Int32, x_1 = Int32.ofNat m_0 := ⟨_, rfl⟩
    refine lk_i (y := x_1) ex_1.symm ?_
    have tx_1 : x_1.toInt = (m_0 : Int) := by rw [ex_1]; exact nI_toInt (by omega)
    refine iicmp_ge (a := L2.toInt) (b := (m_0 : Int)) (tgt := 28) hx hb rfl tx_1 dX5_firstHeld_8 (by decide) (fun k_2 => ?_) (fun k_2 => ?_)
    · skip
      refine lv_iconst (v := (-1)) hx hb dX5_firstHeld_28 (by decide) ?_
      have kzz_3 : ((-1) : Int32).toInt = (-1) := by decide
      have hP9 := hP.sub (ws' := [(A_self, .inr (5, [.ref A_facts, .ref A_pile, .int M_self_height])), (A_facts, .inl (c 2, 10, .inr (.inl f_facts))), (A_pile, .inl (c 2, 64, .inr (.inl M_pile)))]) [0, 1, 2] rfl
      have hD9 := hD.sub (ws' := [(A_self, .inr (5, [.ref A_facts, .ref A_pile, .int M_self_height])), (A_facts, .inl (c 2, 10, .inr (.inl f_facts))), (A_pile, .inl (c 2, 64, .inr (.inl M_pile)))]) [0, 1, 2] (by decide) rfl
      refine W.widen (k := 0) (n := 0) (by omega) (by omega) ?_
      exact W.iret (v := (-1)) hx hb hr (fun t ht hW => ⟨⟨_, (M_self_height, M_pile, ()), rfl, (show 0 ≤ M_self_height.toInt ∧ M_self_height.toInt ≤ 64 by omega), ⟨by rw [ht]; exact hP9, hD9⟩⟩, hS.F ht⟩) hS.2.2 dX5_firstHeld_29
    · skip
      refine lv_aload_n hx hb dX5_firstHeld_11 rfl (lv_at hl 0 rfl) ?_
      refine lv_aload_n hx hb dX5_firstHeld_12 rfl (lv_at hl 1 rfl) ?_
      refine lv_iload_n hx hb dX5_firstHeld_13 rfl (lv_at hl 2 rfl) ?_
      have hPc := hP.sub (ws' := [(A_self, .inr (5, [.ref A_facts, .ref A_pile, .int M_self_height])), (A_facts, .inl (c 2, 10, .inr (.inl f_facts))), (A_pile, .inl (c 2, 64, .inr (.inl M_pile)))]) [0, 1, 2] rfl
      have hDc := hD.sub (ws' := [(A_self, .inr (5, [.ref A_facts, .ref A_pile, .int M_self_height])), (A_facts, .inl (c 2, 10, .inr (.inl f_facts))), (A_pile, .inl (c 2, 64, .inr (.inl M_pile)))]) [0, 1, 2] (by decide) rfl
      have hFc := va_free (wc := [(A_self, .inr (5, [.ref A_facts, .ref A_pile, .int M_self_height])), (A_facts, .inl (c 2, 10, .inr (.inl f_facts))), (A_pile, .inl (c 2, 64, .inr (.inl M_pile)))]) hD hS hA [0, 1, 2] rfl
      have hPz := fzk hZ hZA hS
      refine va_calli (va_runV (As := [.ref Z_self, .int L2]) (rest := []) ⟨hx, hb, hml, hown, hts⟩ (k_X5_holds l D c ts H.size A_facts A_pile A_self f_facts M_pile Z_self Z_0 Z_1 Z_2 Z_3 m_0 m_1 m_2 m_3 z_0 z_1 z_2 z_3 M_self_height M_self_height.toInt rfl L2 L2.toInt rfl (by omega) (by omega) (by omega) (by omega) (by omega)) (cwV 2 hts gX5_firstHeld_X5_holds rfl rfl rfl ⟨rfl, hdX5_holds⟩ ⟨(show 2 + 1 ≤ 3 by decide), (show 8 + (6 + 11) + 50 ≤ 75 by decide)⟩) ⟨PreF.blind, va_recv hK hPc (ci := 5) (q0 := 0) rfl rfl, PreF.at hPc hDc hAm hSt hS hFc hPz (fun k q h z => hZA k q h (hFc _ z))⟩ rfl rfl hl.1 rfl (lv_room (Nat.le_of_ble_eq_true rfl)) dX5_firstHeld_14 ⟨(show 0 + 0 ≤ 0 by decide), (show 0 + 0 ≤ 0 by decide)⟩) hS (fun q _ h => hFc q h) hFc (fun r_5 u_6 t1 H locs ht hvm hw_4 hB_9 hz1_9 hk1_9 hS => ?_)
      obtain ⟨y_7, f_8, _⟩ := u_6
      have hw_4 : (((True) ∧ r_5 = 1) ∨ ((True) ∧ r_5 = 0)) ∧ (0 ≤ y_7.toInt ∧ y_7.toInt ≤ 64) := hw_4
      obtain ⟨hw_9, hw_10⟩ := hw_4
      obtain ⟨hP1_9, hD1_9⟩ := hB_9
      rw [ht] at hP1_9
      have hP1_9 : va_P D vwCl [(A_self, .inr (5, [.ref A_facts, .ref A_pile, .int y_7])), (A_facts, .inl (c 2, 10, .inr (.inl f_facts))), (A_pile, .inl (c 2, 64, .inr (.inl f_8)))] H := hP1_9
      obtain ⟨hP, hD⟩ := va_join (wr := []) (w1 := [(A_self, .inr (5, [.ref A_facts, .ref A_pile, .int y_7])), (A_facts, .inl (c 2, 10, .inr (.inl f_facts))), (A_pile, .inl (c 2, 64, .inr (.inl f_8)))]) hP hD [0, 1, 2] [] rfl rfl (by decide) (by decide) hk1_9 hFc hP1_9 hD1_9
      have hP : va_P D vwCl [(A_self, .inr (5, [.ref A_facts, .ref A_pile, .int y_7])), (A_facts, .inl (c 2, 10, .inr (.inl f_facts))), (A_pile, .inl (c 2, 64, .inr (.inl f_8)))] H := hP
      have hD : va_D A [(A_self, .inr (5, [.ref A_facts, .ref A_pile, .int y_7])), (A_facts, .inl (c 2, 10, .inr (.inl f_facts))), (A_pile, .inl (c 2, 64, .inr (.inl f_8)))] := hD
      refine W.widen (k := 0) (n := 0) (by omega) (by omega) ?_
      rcases hw_9 with ⟨hw_9, rfl⟩ | ⟨hw_9, rfl⟩
      · skip
        refine iif_eqF (a := 1) (tgt := 22) hx hb (by decide) dX5_firstHeld_17 (by decide) (by decide) ?_
        refine lv_iload_n hx hb dX5_firstHeld_20 rfl (lv_at hl 2 rfl) ?_
        have hP9 := hP.sub (ws' := [(A_self, .inr (5, [.ref A_facts, .ref A_pile, .int y_7])), (A_facts, .inl (c 2, 10, .inr (.inl f_facts))), (A_pile, .inl (c 2, 64, .inr (.inl f_8)))]) [0, 1, 2] rfl
        have hD9 := hD.sub (ws' := [(A_self, .inr (5, [.ref A_facts, .ref A_pile, .int y_7])), (A_facts, .inl (c 2, 10, .inr (.inl f_facts))), (A_pile, .inl (c 2, 64, .inr (.inl f_8)))]) [0, 1, 2] (by decide) rfl
        refine W.widen (k := 0) (n := 0) (by omega) (by omega) ?_
        exact W.iret (v := L2) hx hb hr (fun t ht hW => ⟨⟨_, (y_7, f_8, ()), rfl, (show 0 ≤ y_7.toInt ∧ y_7.toInt ≤ 64 by omega), ⟨by rw [ht]; exact hP9, hD9⟩⟩, hS.F ht⟩) hS.2.2 dX5_firstHeld_21
      · skip
        refine iif_eqT (a := 0) (tgt := 22) hx hb (by decide) dX5_firstHeld_17 (by decide) (by decide) ?_
        obtain ⟨x_11, ex_11⟩ : ∃ y : Int32, y = L2 + 1 := ⟨_, rfl⟩
        have tx_11 : x_11.toInt = L2.toInt + 1 := by rw [ex_11]; exact add_ti (a := L2.toInt) (b := 1) rfl (by decide) (by omega) (by omega)
        refine lv_iinc (v := x_11) (lv' := [(2, .int x_11), (0, .ref A_self), (1, .ref Z_self)]) hx hb dX5_firstHeld_22 hl (k := 2) rfl (by rw [ex_11]; rfl) (by decide) rfl (fun ls hl => ?_)
        refine lv_goto (tgt := 2) hx hb dX5_firstHeld_25 (by decide) ?_
        have hl := lv_sub hl [1, 2, 0] rfl
        exact (ih2 ((3000 - x_11.toInt).toNat) (by omega) x_11 y_7 f_8 (by omega) (by omega) (by omega) rfl _ _ _ hP hD hS hl)
  have kzz_12 : (0 : Int32).toInt = 0 := by decide
  have hl := lv_sub hl [1, 2, 0] rfl
  exact (lp_2 _ 0 self_height f_pile (by omega) (by omega) (by omega) rfl _ _ _ hP hD hS hl)
