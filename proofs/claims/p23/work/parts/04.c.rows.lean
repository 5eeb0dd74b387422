set_option maxHeartbeats 4000000 in
set_option maxRecDepth 100000 in
theorem k_J0_isLatin1_aae02 (l : Launch) (D : va_G) (c : Nat → ClassId) (ts : Nat × Nat) (sz : Nat) (sa : Nat) (sb : Nat) : Met l yJ0_isLatin1_aae02 wsJ0_isLatin1_aae02 ({ frames := 0, cells := 0, slots := 0, locals := 0 }) (va_Pc [.ref sa] (PrS9 sa sb)) (vp_Si (fun r : Int32 => (((True) ∧ r = 1)))) 0 0 (fun _ => False) := by
  refine Met.ofW (cc := cJ0_isLatin1_aae02) (maxL := 1) (ret := (some .boolean)) (by decide) rfl ?_
  intro p e s m args below meth cd s₁ B hml hv
  obtain ⟨rfl, hSF⟩ := hv
  have hx := B.exec
  have hb := B.bytes
  have hr := B.returns
  have hts := atoms_spec (ws := wsJ0_isLatin1_aae02) B.pre
  have hown : s.vm.findClass RJ0 = some m.cls := findClass_of_methodNamed B.named
  have hlocks := B.notSynchronized
  have hS : va_S (fun _ => False) s.heap s.heap [] := va_S.rf
  have hl := lv_entry ([.ref sa]) (n := 1) (Nat.le_of_ble_eq_true rfl)
  rw [lg_entry_eq]
  generalize (lg_sl ([.ref sa]) ++ List.replicate (1 - (lg_sl ([.ref sa])).length) Slot.unset).toArray = ls at hl ⊢
  have hl : lv_has ls 1 [(0, .ref sa)] := hl
  refine va_gets hx hb hSF.2.2.2.2.2.1 hS hown (hts (.fieldLink RJ0 38 "java/lang/String" "COMPACT_STRINGS" "Z") (mem_i 1 rfl)) (fun _ h9 => h9) dJ0_isLatin1_aae02_0 ?_
  refine iif_eqF (a := 1) (tgt := 17) hx hb (by decide) dJ0_isLatin1_aae02_3 (by decide) (by decide) ?_
  refine lv_aload_n hx hb dJ0_isLatin1_aae02_6 rfl (lv_at hl 0 rfl) ?_
  refine vk_getf hx hb hSF.2.1 hS hown (hts (.fieldLink RJ0 15 "java/lang/String" "coder" "B") (mem_i 2 rfl)) (fun _ h9 => h9) dJ0_isLatin1_aae02_7 ?_
  refine iif_neF (a := 0) (tgt := 17) hx hb (by decide) dJ0_isLatin1_aae02_10 (by decide) (by decide) ?_
  refine lv_iconst (v := 1) hx hb dJ0_isLatin1_aae02_13 (by decide) ?_
  refine lv_goto (tgt := 18) hx hb dJ0_isLatin1_aae02_14 (by decide) ?_
  have kzz_1 : (1 : Int32).toInt = 1 := by decide
  exact W.zret (v := 1) hx hb hr (by decide) (fun t ht hW => ⟨_, rfl, ⟨trivial, rfl⟩, ht⟩) (fun _ h => by cases h) dJ0_isLatin1_aae02_18

set_option maxHeartbeats 4000000 in
set_option maxRecDepth 100000 in
theorem k_J3_checkIndex_8e157_N (l : Launch) (D : va_G) (c : Nat → ClassId) (ts : Nat × Nat) (sz : Nat) (sa : Nat) (sb : Nat) (a1 : Int32) (i_a1 : Int) (hi_a1 : a1.toInt = i_a1) (a2 : Int32) (i_a2 : Int) (hi_a2 : a2.toInt = i_a2) (hv_a1 : 0 ≤ i_a1 ∧ i_a1 ≤ 167) (hv_a2 : 168 ≤ i_a2 ∧ i_a2 ≤ 168) : Met l yJ3_checkIndex_8e157 wsJ3_checkIndex_8e157 ({ frames := 0, cells := 0, slots := 0, locals := 0 }) (va_Pc [.int a1, .int a2, .null] (PrS9 sa sb)) (vp_Si (fun r : Int32 => True)) 0 0 (fun _ => False) := by
  refine Met.ofW (cc := cJ3_checkIndex_8e157) (maxL := 3) (ret := (some .int)) (by decide) rfl ?_
  intro p e s m args below meth cd s₁ B hml hv
  obtain ⟨rfl, hSF⟩ := hv
  have hx := B.exec
  have hb := B.bytes
  have hr := B.returns
  have hts := atoms_spec (ws := wsJ3_checkIndex_8e157) B.pre
  have hown : s.vm.findClass RJ3 = some m.cls := findClass_of_methodNamed B.named
  have hlocks := B.notSynchronized
  have hS : va_S (fun _ => False) s.heap s.heap [] := va_S.rf
  have hl := lv_entry ([.int a1, .int a2, .null]) (n := 3) (Nat.le_of_ble_eq_true rfl)
  rw [lg_entry_eq]
  generalize (lg_sl ([.int a1, .int a2, .null]) ++ List.replicate (3 - (lg_sl ([.int a1, .int a2, .null])).length) Slot.unset).toArray = ls at hl ⊢
  have hl : lv_has ls 3 [(0, .int a1), (1, .int a2), (2, .null)] := hl
  refine lv_iload_n hx hb dJ3_checkIndex_8e157_0 rfl (lv_at hl 0 rfl) ?_
  refine iif_ltF (a := i_a1) (tgt := 9) hx hb hi_a1 dJ3_checkIndex_8e157_1 (by decide) (by omega) ?_
  refine lv_iload_n hx hb dJ3_checkIndex_8e157_4 rfl (lv_at hl 0 rfl) ?_
  refine lv_iload_n hx hb dJ3_checkIndex_8e157_5 rfl (lv_at hl 1 rfl) ?_
  refine iicmp_ltT (a := i_a1) (b := i_a2) (tgt := 16) hx hb hi_a1 hi_a2 dJ3_checkIndex_8e157_6 (by decide) (by omega) ?_
  refine lv_iload_n hx hb dJ3_checkIndex_8e157_16 rfl (lv_at hl 0 rfl) ?_
  exact W.iret (v := a1) hx hb hr (fun t ht hW => ⟨_, rfl, trivial, ht⟩) (fun _ h => by cases h) dJ3_checkIndex_8e157_17

set_option maxHeartbeats 4000000 in
set_option maxRecDepth 100000 in
theorem k_J3_checkIndex_8e157 (l : Launch) (D : va_G) (c : Nat → ClassId) (ts : Nat × Nat) (sz : Nat) (sa : Nat) (sb : Nat) (R_3 : Nat) (a1 : Int32) (i_a1 : Int) (hi_a1 : a1.toInt = i_a1) (a2 : Int32) (i_a2 : Int) (hi_a2 : a2.toInt = i_a2) (hv_a1 : 0 ≤ i_a1 ∧ i_a1 ≤ 167) (hv_a2 : 168 ≤ i_a2 ∧ i_a2 ≤ 168) : Met l yJ3_checkIndex_8e157 wsJ3_checkIndex_8e157 ({ frames := 0, cells := 0, slots := 0, locals := 0 }) (va_Pc [.int a1, .int a2, .ref R_3] (PrS9 sa sb)) (vp_Si (fun r : Int32 => True)) 0 0 (fun _ => False) := by
  refine Met.ofW (cc := cJ3_checkIndex_8e157) (maxL := 3) (ret := (some .int)) (by decide) rfl ?_
  intro p e s m args below meth cd s₁ B hml hv
  obtain ⟨rfl, hSF⟩ := hv
  have hx := B.exec
  have hb := B.bytes
  have hr := B.returns
  have hts := atoms_spec (ws := wsJ3_checkIndex_8e157) B.pre
  have hown : s.vm.findClass RJ3 = some m.cls := findClass_of_methodNamed B.named
  have hlocks := B.notSynchronized
  have hS : va_S (fun _ => False) s.heap s.heap [] := va_S.rf
  have hl := lv_entry ([.int a1, .int a2, .ref R_3]) (n := 3) (Nat.le_of_ble_eq_true rfl)
  rw [lg_entry_eq]
  generalize (lg_sl ([.int a1, .int a2, .ref R_3]) ++ List.replicate (3 - (lg_sl ([.int a1, .int a2, .ref R_3])).length) Slot.unset).toArray = ls at hl ⊢
  have hl : lv_has ls 3 [(0, .int a1), (1, .int a2), (2, .ref R_3)] := hl
  refine lv_iload_n hx hb dJ3_checkIndex_8e157_0 rfl (lv_at hl 0 rfl) ?_
  refine iif_ltF (a := i_a1) (tgt := 9) hx hb hi_a1 dJ3_checkIndex_8e157_1 (by decide) (by omega) ?_
  refine lv_iload_n hx hb dJ3_checkIndex_8e157_4 rfl (lv_at hl 0 rfl) ?_
  refine lv_iload_n hx hb dJ3_checkIndex_8e157_5 rfl (lv_at hl 1 rfl) ?_
  refine iicmp_ltT (a := i_a1) (b := i_a2) (tgt := 16) hx hb hi_a1 hi_a2 dJ3_checkIndex_8e157_6 (by decide) (by omega) ?_
  refine lv_iload_n hx hb dJ3_checkIndex_8e157_16 rfl (lv_at hl 0 rfl) ?_
  exact W.iret (v := a1) hx hb hr (fun t ht hW => ⟨_, rfl, trivial, ht⟩) (fun _ h => by cases h) dJ3_checkIndex_8e157_17

set_option maxHeartbeats 4000000 in
set_option maxRecDepth 100000 in
theorem k_J0_checkIndex_df160 (l : Launch) (D : va_G) (c : Nat → ClassId) (ts : Nat × Nat) (sz : Nat) (sa : Nat) (sb : Nat) (a1 : Int32) (i_a1 : Int) (hi_a1 : a1.toInt = i_a1) (a2 : Int32) (i_a2 : Int) (hi_a2 : a2.toInt = i_a2) (hv_a1 : 0 ≤ i_a1 ∧ i_a1 ≤ 167) (hv_a2 : 168 ≤ i_a2 ∧ i_a2 ≤ 168) : Met l yJ0_checkIndex_df160 wsJ0_checkIndex_df160 ({ frames := 1, cells := 0, slots := 0, locals := 22 }) (va_Pc [.int a1, .int a2] (PrS9 sa sb)) Sv9 0 0 (fun _ => False) := by
  refine Met.ofW (cc := cJ0_checkIndex_df160) (maxL := 2) (ret := none) (by decide) rfl ?_
  intro p e s m args below meth cd s₁ B hml hv
  obtain ⟨rfl, hSF⟩ := hv
  have hx := B.exec
  have hb := B.bytes
  have hr := B.returns
  have hts := atoms_spec (ws := wsJ0_checkIndex_df160) B.pre
  have hown : s.vm.findClass RJ0 = some m.cls := findClass_of_methodNamed B.named
  have hlocks := B.notSynchronized
  have hS : va_S (fun _ => False) s.heap s.heap [] := va_S.rf
  have hl := lv_entry ([.int a1, .int a2]) (n := 2) (Nat.le_of_ble_eq_true rfl)
  rw [lg_entry_eq]
  generalize (lg_sl ([.int a1, .int a2]) ++ List.replicate (2 - (lg_sl ([.int a1, .int a2])).length) Slot.unset).toArray = ls at hl ⊢
  have hl : lv_has ls 2 [(0, .int a1), (1, .int a2)] := hl
  refine lv_iload_n hx hb dJ0_checkIndex_df160_0 rfl (lv_at hl 0 rfl) ?_
  refine lv_iload_n hx hb dJ0_checkIndex_df160_1 rfl (lv_at hl 1 rfl) ?_
  obtain ⟨o_1, hZ9⟩ := Zq_val hSF.2.2.2.2.2.2
  rcases o_1 with _ | q_2
  · skip
    refine va_gets (v := .null) hx hb hZ9 hS hown (hts (.fieldLink RJ0 1053 "jdk/internal/util/Preconditions" "SIOOBE_FORMATTER" "Ljava/util/function/BiFunction;") (mem_i 1 rfl)) (fun _ h9 => h9) dJ0_checkIndex_df160_2 ?_
    refine va_csi (va_runS (As := [.int a1, .int a2, .null]) (rest := []) ⟨hx, hb, hml, hown, hts⟩ (k_J3_checkIndex_8e157_N l D c ts 0 sa sb a1 i_a1 hi_a1 a2 i_a2 hi_a2 (by omega) (by omega)) (va_cwS 3 hts gJ0_checkIndex_df160_J3_checkIndex_8e157 rfl rfl rfl hdJ3_checkIndex_8e157 ⟨(show 0 + 1 ≤ 1 by decide), (show 8 + (3 + 11) + 0 ≤ 22 by decide)⟩) ⟨PrS9.blind, PrS9.at hSF hS⟩ rfl rfl hl.1 rfl (lv_room (Nat.le_of_ble_eq_true rfl)) dJ0_checkIndex_df160_5 ⟨(show 0 + 0 ≤ 0 by decide), (show 0 + 0 ≤ 0 by decide)⟩) (fun r_4 hw_3 => ?_)
    have rg_r_4 := i32r r_4
    refine lv_pop hx hb dJ0_checkIndex_df160_8 rfl ?_
    exact W.vret hx hb hr (fun t ht hW => ⟨rfl, ht⟩) (fun _ h => by cases h) dJ0_checkIndex_df160_9
  · skip
    refine va_gets (v := .ref q_2) hx hb hZ9 hS hown (hts (.fieldLink RJ0 1053 "jdk/internal/util/Preconditions" "SIOOBE_FORMATTER" "Ljava/util/function/BiFunction;") (mem_i 1 rfl)) (fun _ h9 => h9) dJ0_checkIndex_df160_2 ?_
    refine va_csi (va_runS (As := [.int a1, .int a2, .ref q_2]) (rest := []) ⟨hx, hb, hml, hown, hts⟩ (k_J3_checkIndex_8e157 l D c ts 0 sa sb q_2 a1 i_a1 hi_a1 a2 i_a2 hi_a2 (by omega) (by omega)) (va_cwS 3 hts gJ0_checkIndex_df160_J3_checkIndex_8e157 rfl rfl rfl hdJ3_checkIndex_8e157 ⟨(show 0 + 1 ≤ 1 by decide), (show 8 + (3 + 11) + 0 ≤ 22 by decide)⟩) ⟨PrS9.blind, PrS9.at hSF hS⟩ rfl rfl hl.1 rfl (lv_room (Nat.le_of_ble_eq_true rfl)) dJ0_checkIndex_df160_5 ⟨(show 0 + 0 ≤ 0 by decide), (show 0 + 0 ≤ 0 by decide)⟩) (fun r_6 hw_5 => ?_)
    have rg_r_6 := i32r r_6
    refine lv_pop hx hb dJ0_checkIndex_df160_8 rfl ?_
    exact W.vret hx hb hr (fun t ht hW => ⟨rfl, ht⟩) (fun _ h => by cases h) dJ0_checkIndex_df160_9

set_option maxHeartbeats 4000000 in
set_option maxRecDepth 100000 in
theorem k_J1_charAt_3b067 (l : Launch) (D : va_G) (c : Nat → ClassId) (ts : Nat × Nat) (sz : Nat) (sa : Nat) (sb : Nat) (a2 : Int32) (i_a2 : Int) (hi_a2 : a2.toInt = i_a2) (hv_a2 : 0 ≤ i_a2 ∧ i_a2 ≤ 167) : Met l yJ1_charAt_3b067 wsJ1_charAt_3b067 ({ frames := 2, cells := 0, slots := 0, locals := 43 }) (va_Pc [.ref sb, .int a2] (PrS9 sa sb)) (vp_Si (fun r : Int32 => (narrow .char (.int r) = .int r))) 0 0 (fun _ => False) := by
  refine Met.ofW (cc := cJ1_charAt_3b067) (maxL := 2) (ret := (some .char)) (by decide) rfl ?_
  intro p e s m args below meth cd s₁ B hml hv
  obtain ⟨rfl, hSF⟩ := hv
  have hx := B.exec
  have hb := B.bytes
  have hr := B.returns
  have hts := atoms_spec (ws := wsJ1_charAt_3b067) B.pre
  have hown : s.vm.findClass RJ1 = some m.cls := findClass_of_methodNamed B.named
  have hlocks := B.notSynchronized
  have hS : va_S (fun _ => False) s.heap s.heap [] := va_S.rf
  have hl := lv_entry ([.ref sb, .int a2]) (n := 2) (Nat.le_of_ble_eq_true rfl)
  rw [lg_entry_eq]
  generalize (lg_sl ([.ref sb, .int a2]) ++ List.replicate (2 - (lg_sl ([.ref sb, .int a2])).length) Slot.unset).toArray = ls at hl ⊢
  have hl : lv_has ls 2 [(0, .ref sb), (1, .int a2)] := hl
  refine lv_iload_n hx hb dJ1_charAt_3b067_0 rfl (lv_at hl 1 rfl) ?_
  refine lv_aload_n hx hb dJ1_charAt_3b067_1 rfl (lv_at hl 0 rfl) ?_
  refine va_tlen (v := 168) hx hb hSF.2.2.2.1 hS (by decide) dJ1_charAt_3b067_2 ?_
  have kzz_1 : (168 : Int32).toInt = 168 := by decide
  refine va_csv9 (va_runS (As := [.int a2, .int 168]) (rest := []) ⟨hx, hb, hml, hown, hts⟩ (k_J0_checkIndex_df160 l D c ts 0 sa sb a2 i_a2 hi_a2 168 168 (by decide) (by omega) (by omega)) (va_cwS 2 hts gJ1_charAt_3b067_J0_checkIndex_df160 rfl rfl rfl hdJ0_checkIndex_df160 ⟨(show 1 + 1 ≤ 2 by decide), (show 8 + (2 + 11) + 22 ≤ 43 by decide)⟩) ⟨PrS9.blind, PrS9.at hSF hS⟩ rfl rfl hl.1 rfl (lv_room (Nat.le_of_ble_eq_true rfl)) dJ1_charAt_3b067_3 ⟨(show 0 + 0 ≤ 0 by decide), (show 0 + 0 ≤ 0 by decide)⟩) ?_
  refine lv_aload_n hx hb dJ1_charAt_3b067_6 rfl (lv_at hl 0 rfl) ?_
  refine lv_iload_n hx hb dJ1_charAt_3b067_7 rfl (lv_at hl 1 rfl) ?_
  refine va_tb hx hb hSF.2.2.2.1 hS (vin (a := i_a2) hi_a2 (by omega) (by omega)) rfl dJ1_charAt_3b067_8 ?_
  refine lv_topi (fun x_4 ex_4 => ?_)
  refine lv_sipush (v := 255) hx hb dJ1_charAt_3b067_9 (by decide) ?_
  refine lv_iand hx hb dJ1_charAt_3b067_12 ?_
  refine lv_topi (fun x_5 ex_5 => ?_)
  refine lv_i2c hx hb dJ1_charAt_3b067_13 rfl ?_
  refine lv_topi (fun x_6 ex_6 => ?_)
  exact W.zret (v := x_6) hx hb hr (by rw [ex_6]; exact nar_c _) (fun t ht hW => ⟨_, rfl, (by rw [ex_6]; exact nar_c _), ht⟩) (fun _ h => by cases h) dJ1_charAt_3b067_14

set_option maxHeartbeats 4000000 in
set_option maxRecDepth 100000 in
theorem k_J0_charAt_5068e (l : Launch) (D : va_G) (c : Nat → ClassId) (ts : Nat × Nat) (sz : Nat) (sa : Nat) (sb : Nat) (a1 : Int32) (i_a1 : Int) (hi_a1 : a1.toInt = i_a1) (hv_a1 : 0 ≤ i_a1 ∧ i_a1 ≤ 167) : Met l yJ0_charAt_5068e wsJ0_charAt_5068e ({ frames := 3, cells := 0, slots := 0, locals := 64 }) (va_Pc [.ref sa, .int a1] (PrS9 sa sb)) (vp_Si (fun r : Int32 => (narrow .char (.int r) = .int r))) 0 0 (fun _ => False) := by
  refine Met.ofW (cc := cJ0_charAt_5068e) (maxL := 2) (ret := (some .char)) (by decide) rfl ?_
  intro p e s m args below meth cd s₁ B hml hv
  obtain ⟨rfl, hSF⟩ := hv
  have hx := B.exec
  have hb := B.bytes
  have hr := B.returns
  have hts := atoms_spec (ws := wsJ0_charAt_5068e) B.pre
  have hown : s.vm.findClass RJ0 = some m.cls := findClass_of_methodNamed B.named
  have hlocks := B.notSynchronized
  have hS : va_S (fun _ => False) s.heap s.heap [] := va_S.rf
  have hl := lv_entry ([.ref sa, .int a1]) (n := 2) (Nat.le_of_ble_eq_true rfl)
  rw [lg_entry_eq]
  generalize (lg_sl ([.ref sa, .int a1]) ++ List.replicate (2 - (lg_sl ([.ref sa, .int a1])).length) Slot.unset).toArray = ls at hl ⊢
  have hl : lv_has ls 2 [(0, .ref sa), (1, .int a1)] := hl
  refine lv_aload_n hx hb dJ0_charAt_5068e_0 rfl (lv_at hl 0 rfl) ?_
  refine va_csi (va_runV (As := []) (rest := []) ⟨hx, hb, hml, hown, hts⟩ (k_J0_isLatin1_aae02 l D c ts 0 sa sb) (cwV 0 hts gJ0_charAt_5068e_J0_isLatin1_aae02 rfl rfl rfl ⟨rfl, hdJ0_isLatin1_aae02⟩ ⟨(show 0 + 1 ≤ 3 by decide), (show 8 + (1 + 11) + 0 ≤ 64 by decide)⟩) ⟨PrS9.blind, str_recv hSF hS, PrS9.at hSF hS⟩ rfl rfl hl.1 rfl (lv_room (Nat.le_of_ble_eq_true rfl)) dJ0_charAt_5068e_1 ⟨(show 0 + 0 ≤ 0 by decide), (show 0 + 0 ≤ 0 by decide)⟩) (fun r_2 hw_1 => ?_)
  rcases hw_1 with ⟨hw_1, rfl⟩
  · skip
    refine iif_eqF (a := 1) (tgt := 16) hx hb (by decide) dJ0_charAt_5068e_4 (by decide) (by decide) ?_
    refine lv_aload_n hx hb dJ0_charAt_5068e_7 rfl (lv_at hl 0 rfl) ?_
    refine vk_getf hx hb hSF.2.2.1 hS hown (hts (.fieldLink RJ0 9 "java/lang/String" "value" "[B") (mem_i 1 rfl)) (fun _ h9 => h9) dJ0_charAt_5068e_8 ?_
    refine lv_iload_n hx hb dJ0_charAt_5068e_11 rfl (lv_at hl 1 rfl) ?_
    refine va_csi (va_runS (As := [.ref sb, .int a1]) (rest := []) ⟨hx, hb, hml, hown, hts⟩ (k_J1_charAt_3b067 l D c ts 0 sa sb a1 i_a1 hi_a1 (by omega)) (va_cwS 2 hts gJ0_charAt_5068e_J1_charAt_3b067 rfl rfl rfl hdJ1_charAt_3b067 ⟨(show 2 + 1 ≤ 3 by decide), (show 8 + (2 + 11) + 43 ≤ 64 by decide)⟩) ⟨PrS9.blind, PrS9.at hSF hS⟩ rfl rfl hl.1 rfl (lv_room (Nat.le_of_ble_eq_true rfl)) dJ0_charAt_5068e_12 ⟨(show 0 + 0 ≤ 0 by decide), (show 0 + 0 ≤ 0 by decide)⟩) (fun r_4 hw_3 => ?_)
    have rg_r_4 := i32r r_4
    exact W.zret (v := r_4) hx hb hr hw_3 (fun t ht hW => ⟨_, rfl, hw_3, ht⟩) (fun _ h => by cases h) dJ0_charAt_5068e_15

set_option maxHeartbeats 4000000 in
set_option maxRecDepth 100000 in
theorem k_X1_isLetter (l : Launch) (D : va_G) (c : Nat → ClassId) (ts : Nat × Nat) (sz : Nat)  (a1 : Int32) (i_a1 : Int) (hi_a1 : a1.toInt = i_a1) : Met l yX1_isLetter wsX1_isLetter ({ frames := 0, cells := 0, slots := 0, locals := 0 }) (va_Pc [.int a1] (Pre0 D c ts [] sz)) (vp_Si (fun r : Int32 => (((True) ∧ r = 1) ∨ ((True) ∧ r = 0)))) 0 0 (fun _ => False) := by
  refine Met.ofW (cc := cX1_isLetter) (maxL := 1) (ret := (some .boolean)) (by decide) rfl ?_
  intro p e s m args below meth cd s₁ B hml hv
  obtain ⟨rfl, hsz, hP, hD0, hAm, hSt⟩ := hv
  have hx := B.exec
  have hb := B.bytes
  have hr := B.returns
  have hts := atoms_spec (ws := wsX1_isLetter) B.pre
  have hown : s.vm.findClass RX1 = some m.cls := findClass_of_methodNamed B.named
  have hlocks := B.notSynchronized
  have hK := hAm.1
  subst hsz
  have hD := hD0.self (sz := s.heap.size)
  generalize hAe : va_A [] s.heap.size = A at hD hSt
  have hA : ∀ q : Nat, s.heap.size ≤ q → A q := fun q h => by rw [← hAe]; exact Or.inr h
  have hS : va_S A s.heap s.heap [] := va_S.rf
  clear hD0 hAe
  have hl := lv_entry ([.int a1]) (n := 1) (Nat.le_of_ble_eq_true rfl)
  rw [lg_entry_eq]
  generalize (lg_sl ([.int a1]) ++ List.replicate (1 - (lg_sl ([.int a1])).length) Slot.unset).toArray = ls at hl ⊢
  have hl : lv_has ls 1 [(0, .int a1)] := hl
  have rg_a1 := i32r a1
  refine lv_iload_n hx hb dX1_isLetter_0 rfl (lv_at hl 0 rfl) ?_
  refine lv_bipush (v := 97) hx hb dX1_isLetter_1 (by decide) ?_
  refine iicmp_lt (a := i_a1) (b := 97) (tgt := 16) hx hb hi_a1 (by decide) dX1_isLetter_3 (by decide) (fun k_1 => ?_) (fun k_1 => ?_)
  · skip
    refine lv_iconst (v := 0) hx hb dX1_isLetter_16 (by decide) ?_
    have kzz_2 : (0 : Int32).toInt = 0 := by decide
    exact W.zret (v := 0) hx hb hr (by decide) (fun t ht hW => ⟨_, rfl, Or.inr (⟨trivial, rfl⟩), ht⟩) (fun _ h => by cases h) dX1_isLetter_17
  · skip
    refine lv_iload_n hx hb dX1_isLetter_6 rfl (lv_at hl 0 rfl) ?_
    refine lv_bipush (v := 122) hx hb dX1_isLetter_7 (by decide) ?_
    refine iicmp_gt (a := i_a1) (b := 122) (tgt := 16) hx hb hi_a1 (by decide) dX1_isLetter_9 (by decide) (fun k_3 => ?_) (fun k_3 => ?_)
    · skip
      refine lv_iconst (v := 0) hx hb dX1_isLetter_16 (by decide) ?_
      have kzz_4 : (0 : Int32).toInt = 0 := by decide
      exact W.zret (v := 0) hx hb hr (by decide) (fun t ht hW => ⟨_, rfl, Or.inr (⟨trivial, rfl⟩), ht⟩) (fun _ h => by cases h) dX1_isLetter_17
    · skip
      refine lv_iconst (v := 1) hx hb dX1_isLetter_12 (by decide) ?_
      refine lv_goto (tgt := 17) hx hb dX1_isLetter_13 (by decide) ?_
      have kzz_5 : (1 : Int32).toInt = 1 := by decide
      exact W.zret (v := 1) hx hb hr (by decide) (fun t ht hW => ⟨_, rfl, Or.inl ⟨trivial, rfl⟩, ht⟩) (fun _ h => by cases h) dX1_isLetter_17

set_option maxHeartbeats 4000000 in
set_option maxRecDepth 100000 in
theorem k_J0_coder_7d493 (l : Launch) (D : va_G) (c : Nat → ClassId) (ts : Nat × Nat) (sz : Nat) (sa : Nat) (sb : Nat) : Met l yJ0_coder_7d493 wsJ0_coder_7d493 ({ frames := 0, cells := 0, slots := 0, locals := 0 }) (va_Pc [.ref sa] (PrS9 sa sb)) (vp_Si (fun r : Int32 => (((True) ∧ r = 0)))) 0 0 (fun _ => False) := by
  refine Met.ofW (cc := cJ0_coder_7d493) (maxL := 1) (ret := (some .byte)) (by decide) rfl ?_
  intro p e s m args below meth cd s₁ B hml hv
  obtain ⟨rfl, hSF⟩ := hv
  have hx := B.exec
  have hb := B.bytes
  have hr := B.returns
  have hts := atoms_spec (ws := wsJ0_coder_7d493) B.pre
  have hown : s.vm.findClass RJ0 = some m.cls := findClass_of_methodNamed B.named
  have hlocks := B.notSynchronized
  have hS : va_S (fun _ => False) s.heap s.heap [] := va_S.rf
  have hl := lv_entry ([.ref sa]) (n := 1) (Nat.le_of_ble_eq_true rfl)
  rw [lg_entry_eq]
  generalize (lg_sl ([.ref sa]) ++ List.replicate (1 - (lg_sl ([.ref sa])).length) Slot.unset).toArray = ls at hl ⊢
  have hl : lv_has ls 1 [(0, .ref sa)] := hl
  refine va_gets hx hb hSF.2.2.2.2.2.1 hS hown (hts (.fieldLink RJ0 38 "java/lang/String" "COMPACT_STRINGS" "Z") (mem_i 1 rfl)) (fun _ h9 => h9) dJ0_coder_7d493_0 ?_
  refine iif_eqF (a := 1) (tgt := 13) hx hb (by decide) dJ0_coder_7d493_3 (by decide) (by decide) ?_
  refine lv_aload_n hx hb dJ0_coder_7d493_6 rfl (lv_at hl 0 rfl) ?_
  refine vk_getf hx hb hSF.2.1 hS hown (hts (.fieldLink RJ0 15 "java/lang/String" "coder" "B") (mem_i 2 rfl)) (fun _ h9 => h9) dJ0_coder_7d493_7 ?_
  refine lv_goto (tgt := 14) hx hb dJ0_coder_7d493_10 (by decide) ?_
  have kzz_1 : (0 : Int32).toInt = 0 := by decide
  exact W.zret (v := 0) hx hb hr (by decide) (fun t ht hW => ⟨_, rfl, ⟨trivial, rfl⟩, ht⟩) (fun _ h => by cases h) dJ0_coder_7d493_14

set_option maxHeartbeats 4000000 in
set_option maxRecDepth 100000 in
theorem k_J0_length_8abf5 (l : Launch) (D : va_G) (c : Nat → ClassId) (ts : Nat × Nat) (sz : Nat) (sa : Nat) (sb : Nat) : Met l yJ0_length_8abf5 wsJ0_length_8abf5 ({ frames := 1, cells := 0, slots := 0, locals := 20 }) (va_Pc [.ref sa] (PrS9 sa sb)) (vp_Si (fun r : Int32 => (((True) ∧ r = 168)))) 0 0 (fun _ => False) := by
  refine Met.ofW (cc := cJ0_length_8abf5) (maxL := 1) (ret := (some .int)) (by decide) rfl ?_
  intro p e s m args below meth cd s₁ B hml hv
  obtain ⟨rfl, hSF⟩ := hv
  have hx := B.exec
  have hb := B.bytes
  have hr := B.returns
  have hts := atoms_spec (ws := wsJ0_length_8abf5) B.pre
  have hown : s.vm.findClass RJ0 = some m.cls := findClass_of_methodNamed B.named
  have hlocks := B.notSynchronized
  have hS : va_S (fun _ => False) s.heap s.heap [] := va_S.rf
  have hl := lv_entry ([.ref sa]) (n := 1) (Nat.le_of_ble_eq_true rfl)
  rw [lg_entry_eq]
  generalize (lg_sl ([.ref sa]) ++ List.replicate (1 - (lg_sl ([.ref sa])).length) Slot.unset).toArray = ls at hl ⊢
  have hl : lv_has ls 1 [(0, .ref sa)] := hl
  refine lv_aload_n hx hb dJ0_length_8abf5_0 rfl (lv_at hl 0 rfl) ?_
  refine vk_getf hx hb hSF.2.2.1 hS hown (hts (.fieldLink RJ0 9 "java/lang/String" "value" "[B") (mem_i 1 rfl)) (fun _ h9 => h9) dJ0_length_8abf5_1 ?_
  refine va_tlen (v := 168) hx hb hSF.2.2.2.1 hS (by decide) dJ0_length_8abf5_4 ?_
  refine lv_aload_n hx hb dJ0_length_8abf5_5 rfl (lv_at hl 0 rfl) ?_
  refine va_csi (va_runV (As := []) (rest := [.int 168]) ⟨hx, hb, hml, hown, hts⟩ (k_J0_coder_7d493 l D c ts 0 sa sb) (cwV 0 hts gJ0_length_8abf5_J0_coder_7d493 rfl rfl rfl ⟨rfl, hdJ0_coder_7d493⟩ ⟨(show 0 + 1 ≤ 1 by decide), (show 8 + (1 + 11) + 0 ≤ 20 by decide)⟩) ⟨PrS9.blind, str_recv hSF hS, PrS9.at hSF hS⟩ rfl rfl hl.1 rfl (lv_room (Nat.le_of_ble_eq_true rfl)) dJ0_length_8abf5_6 ⟨(show 0 + 0 ≤ 0 by decide), (show 0 + 0 ≤ 0 by decide)⟩) (fun r_2 hw_1 => ?_)
  rcases hw_1 with ⟨hw_1, rfl⟩
  · skip
    refine lv_ishr hx hb dJ0_length_8abf5_9 ?_
    refine lk_i (y := 168) (by decide) ?_
    have kzz_3 : (168 : Int32).toInt = 168 := by decide
    exact W.iret (v := 168) hx hb hr (fun t ht hW => ⟨_, rfl, ⟨trivial, rfl⟩, ht⟩) (fun _ h => by cases h) dJ0_length_8abf5_10

set_option maxHeartbeats 4000000 in
set_option maxRecDepth 100000 in
theorem k_X1_isWord (l : Launch) (D : va_G) (c : Nat → ClassId) (ts : Nat × Nat) (sz : Nat) (A_tape : Nat) (A_pile : Nat) (A_acts : Nat) (A_shares : Nat) (A_starts : Nat) (A_code : Nat) (A_self : Nat) (A_tape_bytes : Nat) (f_tape_bytes : Nat → Int32) (self_place : Int32) (i_self_place : Int) (hi_self_place : self_place.toInt = i_self_place) (self_start : Int32) (i_self_start : Int) (hi_self_start : self_start.toInt = i_self_start) (self_token : Int32) (i_self_token : Int) (hi_self_token : self_token.toInt = i_self_token) (self_value : Int32) (i_self_value : Int) (hi_self_value : self_value.toInt = i_self_value) (self_wanted : Int32) (i_self_wanted : Int) (hi_self_wanted : self_wanted.toInt = i_self_wanted) (self_compared : Int32) (i_self_compared : Int) (hi_self_compared : self_compared.toInt = i_self_compared) (self_opened : Int32) (i_self_opened : Int) (hi_self_opened : self_opened.toInt = i_self_opened) (self_nested : Int32) (i_self_nested : Int) (hi_self_nested : self_nested.toInt = i_self_nested) (self_height : Int32) (i_self_height : Int) (hi_self_height : self_height.toInt = i_self_height) (self_made : Int32) (i_self_made : Int) (hi_self_made : self_made.toInt = i_self_made) (self_codeLength : Int32) (i_self_codeLength : Int) (hi_self_codeLength : self_codeLength.toInt = i_self_codeLength) (tape_length : Int32) (i_tape_length : Int) (hi_tape_length : tape_length.toInt = i_tape_length) (a1 : Int32) (i_a1 : Int) (hi_a1 : a1.toInt = i_a1) (a2 : Int32) (i_a2 : Int) (hi_a2 : a2.toInt = i_a2) (a3 : Int32) (i_a3 : Int) (hi_a3 : a3.toInt = i_a3) (hv_self_compared : 0 ≤ i_self_compared ∧ i_self_compared ≤ 1) (hv_self_height : 0 ≤ i_self_height ∧ i_self_height ≤ 64) (hv_self_made : 0 ≤ i_self_made ∧ i_self_made ≤ 1000) (hv_self_codeLength : 0 ≤ i_self_codeLength ∧ i_self_codeLength ≤ 800) (hv_tape_length : 0 ≤ i_tape_length ∧ i_tape_length ≤ 800) (hv_a1 : 0 ≤ i_a1 ∧ i_a1 ≤ 168) : Met l yX1_isWord wsX1_isWord ({ frames := 4, cells := 0, slots := 0, locals := 85 }) (va_Pc [.ref A_self, .int a1, .int a2, .int a3] (Pre0 D c ts [(A_self, .inr (1, [.ref A_tape, .int self_place, .int self_start, .int self_token, .int self_value, .int self_wanted, .int self_compared, .int self_opened, .int self_nested, .ref A_pile, .int self_height, .ref A_acts, .ref A_shares, .ref A_starts, .int self_made, .ref A_code, .int self_codeLength])), (A_tape, .inr (3, [.ref A_tape_bytes, .int tape_length])), (A_tape_bytes, .inl (c 0, 800, .inl f_tape_bytes))] sz)) (vp_Si (fun r : Int32 => (((True) ∧ r = 1) ∨ ((True) ∧ r = 0)))) 0 0 (fun _ => False) := by
  refine Met.ofW (cc := cX1_isWord) (maxL := 6) (ret := (some .boolean)) (by decide) rfl ?_
  intro p e s m args below meth cd s₁ B hml hv
  obtain ⟨rfl, hsz, hP, hD0, hAm, hSt⟩ := hv
  have hx := B.exec
  have hb := B.bytes
  have hr := B.returns
  have hts := atoms_spec (ws := wsX1_isWord) B.pre
  have hown : s.vm.findClass RX1 = some m.cls := findClass_of_methodNamed B.named
  have hlocks := B.notSynchronized
  have hK := hAm.1
  subst hsz
  have hD := hD0.self (sz := s.heap.size)
  generalize hAe : va_A [(A_self, .inr (1, [.ref A_tape, .int self_place, .int self_start, .int self_token, .int self_value, .int self_wanted, .int self_compared, .int self_opened, .int self_nested, .ref A_pile, .int self_height, .ref A_acts, .ref A_shares, .ref A_starts, .int self_made, .ref A_code, .int self_codeLength])), (A_tape, .inr (3, [.ref A_tape_bytes, .int tape_length])), (A_tape_bytes, .inl (c 0, 800, .inl f_tape_bytes))] s.heap.size = A at hD hSt
  have hA : ∀ q : Nat, s.heap.size ≤ q → A q := fun q h => by rw [← hAe]; exact Or.inr h
  have hS : va_S A s.heap s.heap [] := va_S.rf
  clear hD0 hAe
  have hl := lv_entry ([.ref A_self, .int a1, .int a2, .int a3]) (n := 6) (Nat.le_of_ble_eq_true rfl)
  rw [lg_entry_eq]
  generalize (lg_sl ([.ref A_self, .int a1, .int a2, .int a3]) ++ List.replicate (6 - (lg_sl ([.ref A_self, .int a1, .int a2, .int a3])).length) Slot.unset).toArray = ls at hl ⊢
  have hl : lv_has ls 6 [(0, .ref A_self), (1, .int a1), (2, .int a2), (3, .int a3)] := hl
  have rg_self_place := i32r self_place
  have rg_self_start := i32r self_start
  have rg_self_token := i32r self_token
  have rg_self_value := i32r self_value
  have rg_self_wanted := i32r self_wanted
  have rg_self_opened := i32r self_opened
  have rg_self_nested := i32r self_nested
  have rg_a2 := i32r a2
  have rg_a3 := i32r a3
  refine lv_iload_n hx hb dX1_isWord_0 rfl (lv_at hl 1 rfl) ?_
  refine iif_ltF (a := i_a1) (tgt := 24) hx hb hi_a1 dX1_isWord_1 (by decide) (by omega) ?_
  refine lv_iload_n hx hb dX1_isWord_4 rfl (lv_at hl 1 rfl) ?_
  refine lv_bipush (v := 8) hx hb dX1_isWord_5 (by decide) ?_
  refine lv_iadd hx hb dX1_isWord_7 ?_
  refine lv_topi (fun x_1 ex_1 => ?_)
  have tx_1 : x_1.toInt = (i_a1 + 8) := by rw [ex_1]; exact add_ti (a := i_a1) (b := 8) hi_a1 (by decide) (by omega) (by omega)
  obtain ⟨sa, sb, hSF⟩ := hSt.2.2.2.2
  refine va_ldcS hx hb hown hSF.2.2.2.2.1 dX1_isWord_8 ?_
  refine va_csi (va_runV (As := []) (rest := [.int x_1]) ⟨hx, hb, hml, hown, hts⟩ (k_J0_length_8abf5 l D c ts 0 sa sb) (cwV 0 hts gX1_isWord_J0_length_8abf5 rfl rfl rfl ⟨rfl, hdJ0_length_8abf5⟩ ⟨(show 1 + 1 ≤ 4 by decide), (show 8 + (1 + 11) + 20 ≤ 85 by decide)⟩) ⟨PrS9.blind, str_recv hSF hS, PrS9.at hSF hS⟩ rfl rfl hl.1 rfl (lv_room (Nat.le_of_ble_eq_true rfl)) dX1_isWord_10 ⟨(show 0 + 0 ≤ 0 by decide), (show 0 + 0 ≤ 0 by decide)⟩) (fun r_3 hw_2 => ?_)
  rcases hw_2 with ⟨hw_2, rfl⟩
  · skip
    refine iicmp_gt (a := (i_a1 + 8)) (b := 168) (tgt := 24) hx hb tx_1 (by decide) dX1_isWord_13 (by decide) (fun k_4 => ?_) (fun k_4 => ?_)
    · skip
      refine lv_iconst (v := 0) hx hb dX1_isWord_24 (by decide) ?_
      have kzz_5 : (0 : Int32).toInt = 0 := by decide
      exact W.zret (v := 0) hx hb hr (by decide) (fun t ht hW => ⟨_, rfl, Or.inr (⟨trivial, rfl⟩), ht⟩) (fun _ h => by cases h) dX1_isWord_25
    · skip
      refine lv_iload_n hx hb dX1_isWord_16 rfl (lv_at hl 3 rfl) ?_
      refine lv_iload_n hx hb dX1_isWord_17 rfl (lv_at hl 2 rfl) ?_
      refine lv_isub hx hb dX1_isWord_18 ?_
      refine lv_topi (fun x_6 ex_6 => ?_)
      refine lv_bipush (v := 8) hx hb dX1_isWord_19 (by decide) ?_
      refine iicmp_le (a := x_6.toInt) (b := 8) (tgt := 26) hx hb rfl (by decide) dX1_isWord_21 (by decide) (fun k_7 => ?_) (fun k_7 => ?_)
      · skip
        refine lv_iconst (v := 0) hx hb dX1_isWord_26 (by decide) ?_
        refine lv_istore (lv' := [(4, .int 0), (0, .ref A_self), (1, .int a1), (2, .int a2), (3, .int a3)]) hx hb dX1_isWord_27 hl (by decide) rfl (fun ls hl => ?_)
        have lp_29 : ∀ (N : Nat) (L4 : Int32) (hf29_0 : 0 ≤ L4.toInt) (hf29_1 : L4.toInt ≤ 8) (hN29 : (8 - L4.toInt).toNat = N) (ls : Array Slot), lv_has ls 6 [(0, .ref A_self), (1, .int a1), (2, .int a2), (3, .int a3), (4, .int L4)] → W p l e (headSpec wsX1_isWord ({ frames := 4, cells := 0, slots := 0, locals := 85 })).room s m (([.ref A_self, .int a1, .int a2, .int a3] : List Value).toArray) below meth cd s.heap [] 0 0 (MQ below (vp_Si (fun r : Int32 => (((True) ∧ r = 1) ∨ ((True) ∧ r = 0)))) ([.ref A_self, .int a1, .int a2, .int a3] : List Value).toArray s 0 0 (fun _ => False)) (F0 m 29 ls []) := by
          refine st_ind (fun N ih29 => ?_)
          intro L4 hf29_0 hf29_1 hN29 ls hl
          refine lv_iload hx hb dX1_isWord_29 (lv_at hl 4 rfl) ?_
          refine lv_bipush (v := 8) hx hb dX1_isWord_31 (by decide) ?_
          refine iicmp_ge (a := L4.toInt) (b := 8) (tgt := 84) hx hb rfl (by decide) dX1_isWord_33 (by decide) (fun k_8 => ?_) (fun k_8 => ?_)
          · skip
            refine lv_iconst (v := 1) hx hb dX1_isWord_84 (by decide) ?_
            have kzz_9 : (1 : Int32).toInt = 1 := by decide
            exact W.zret (v := 1) hx hb hr (by decide) (fun t ht hW => ⟨_, rfl, Or.inl ⟨trivial, rfl⟩, ht⟩) (fun _ h => by cases h) dX1_isWord_85
          · skip
            have lp_60 : ∀ (K0 : Int32) (ls : Array Slot), lv_has ls 6 [(0, .ref A_self), (1, .int a1), (2, .int a2), (3, .int a3), (4, .int L4)] → W p l e (headSpec wsX1_isWord ({ frames := 4, cells := 0, slots := 0, locals := 85 })).room s m (([.ref A_self, .int a1, .int a2, .int a3] : List Value).toArray) below meth cd s.heap [] 0 0 (MQ below (vp_Si (fun r : Int32 => (((True) ∧ r = 1) ∨ ((True) ∧ r = 0)))) ([.ref A_self, .int a1, .int a2, .int a3] : List Value).toArray s 0 0 (fun _ => False)) (F0 m 60 ls [.int K0]) := by
              intro K0 ls hl
              have rg_K0 := i32r K0
              refine lv_istore (lv' := [(5, .int K0), (0, .ref A_self), (1, .int a1), (2, .int a2), (3, .int a3), (4, .int L4)]) hx hb dX1_isWord_60 hl (by decide) rfl (fun ls hl => ?_)
              refine lv_iload hx hb dX1_isWord_62 (lv_at hl 0 rfl) ?_
              skip
              refine va_ldcS hx hb hown hSF.2.2.2.2.1 dX1_isWord_64 ?_
              refine lv_iload_n hx hb dX1_isWord_66 rfl (lv_at hl 2 rfl) ?_
              refine lv_iload hx hb dX1_isWord_67 (lv_at hl 5 rfl) ?_
              refine lv_iadd hx hb dX1_isWord_69 ?_
              refine lv_topi (fun x_10 ex_10 => ?_)
              have tx_10 : x_10.toInt = (i_a1 + L4.toInt) := by rw [ex_10]; exact add_ti (a := i_a1) (b := L4.toInt) hi_a1 rfl (by omega) (by omega)
              refine va_csi (va_runV (As := [.int x_10]) (rest := [.int K0]) ⟨hx, hb, hml, hown, hts⟩ (k_J0_charAt_5068e l D c ts 0 sa sb x_10 (i_a1 + L4.toInt) tx_10 (by omega)) (cwV 1 hts gX1_isWord_J0_charAt_5068e rfl rfl rfl ⟨rfl, hdJ0_charAt_5068e⟩ ⟨(show 3 + 1 ≤ 4 by decide), (show 8 + (2 + 11) + 64 ≤ 85 by decide)⟩) ⟨PrS9.blind, str_recv hSF hS, PrS9.at hSF hS⟩ rfl rfl hl.1 rfl (lv_room (Nat.le_of_ble_eq_true rfl)) dX1_isWord_70 ⟨(show 0 + 0 ≤ 0 by decide), (show 0 + 0 ≤ 0 by decide)⟩) (fun r_12 hw_11 => ?_)
              have rg_r_12 := i32r r_12
              refine iicmp_eq (a := K0.toInt) (b := r_12.toInt) (tgt := 78) hx hb rfl rfl dX1_isWord_73 (by decide) (fun k_13 => ?_) (fun k_13 => ?_)
              · skip
                obtain ⟨x_14, ex_14⟩ : ∃ y : Int32, y = L4 + 1 := ⟨_, rfl⟩
                have tx_14 : x_14.toInt = L4.toInt + 1 := by rw [ex_14]; exact add_ti (a := L4.toInt) (b := 1) rfl (by decide) (by omega) (by omega)
                refine lv_iinc (v := x_14) (lv' := [(4, .int x_14), (5, .int K0), (0, .ref A_self), (1, .int a1), (2, .int a2), (3, .int a3)]) hx hb dX1_isWord_78 hl (k := 5) rfl (by rw [ex_14]; rfl) (by decide) rfl (fun ls hl => ?_)
                refine lv_goto (tgt := 29) hx hb dX1_isWord_81 (by decide) ?_
                have hl := lv_sub hl [2, 3, 4, 5, 0] rfl
                exact (ih29 ((8 - x_14.toInt).toNat) (by omega) x_14 (by omega) (by omega) rfl _ hl)
              · skip
                refine lv_iconst (v := 0) hx hb dX1_isWord_76 (by decide) ?_
                have kzz_15 : (0 : Int32).toInt = 0 := by decide
                exact W.zret (v := 0) hx hb hr (by decide) (fun t ht hW => ⟨_, rfl, Or.inr (⟨trivial, rfl⟩), ht⟩) (fun _ h => by cases h) dX1_isWord_77
            refine lv_iload_n hx hb dX1_isWord_36 rfl (lv_at hl 2 rfl) ?_
            refine lv_iload hx hb dX1_isWord_37 (lv_at hl 4 rfl) ?_
            refine lv_iadd hx hb dX1_isWord_39 ?_
            refine lv_topi (fun x_16 ex_16 => ?_)
            refine lv_iload_n hx hb dX1_isWord_40 rfl (lv_at hl 3 rfl) ?_
            refine iicmp_ge (a := x_16.toInt) (b := i_a3) (tgt := 58) hx hb rfl hi_a3 dX1_isWord_41 (by decide) (fun k_17 => ?_) (fun k_17 => ?_)
            · skip
              refine lv_bipush (v := 32) hx hb dX1_isWord_58 (by decide) ?_
              have kzz_18 : (32 : Int32).toInt = 32 := by decide
              exact lp_60 32 _ hl
            · skip
              refine lv_aload_n hx hb dX1_isWord_44 rfl (lv_at hl 0 rfl) ?_
              refine va_get (D := D) (ci := 1) (v := .ref A_tape) (C := RX1) (T := TX1) (N := 17) hx hb hts (fun _ h => List.mem_cons_of_mem _ (List.mem_append_left _ (List.mem_append_right _ h))) hown hK hP 0 rfl rfl 0 (by decide) (hts (.fieldLink RX1 27 "CrownTable$Reader" "tape" "LCrownTable$Tape;") (mem_i 1 rfl)) (fun _ h9 => h9) rfl dX1_isWord_45 ?_
              refine lv_iload_n hx hb dX1_isWord_48 rfl (lv_at hl 2 rfl) ?_
              refine lv_iload hx hb dX1_isWord_49 (lv_at hl 4 rfl) ?_
              refine lv_iadd hx hb dX1_isWord_51 ?_
              refine lv_topi (fun x_19 ex_19 => ?_)
              have hPc := hP.sub (ws' := [(A_tape, .inr (3, [.ref A_tape_bytes, .int tape_length])), (A_tape_bytes, .inl (c 0, 800, .inl f_tape_bytes))]) [1, 2] rfl
              have hDc := hD.sub (ws' := [(A_tape, .inr (3, [.ref A_tape_bytes, .int tape_length])), (A_tape_bytes, .inl (c 0, 800, .inl f_tape_bytes))]) [1, 2] (by decide) rfl
              have hFc := va_free (wc := [(A_tape, .inr (3, [.ref A_tape_bytes, .int tape_length])), (A_tape_bytes, .inl (c 0, 800, .inl f_tape_bytes))]) hD hS hA [1, 2] rfl
              refine va_csi (va_runVN (As := [.int x_19]) (rest := []) ⟨hx, hb, hml, hown, hts⟩ (k_X3_byteAt l D c ts s.heap.size A_tape_bytes A_tape f_tape_bytes tape_length i_tape_length hi_tape_length x_19 x_19.toInt rfl (by omega)) ⟨va_cnB 1 hts gX1_isWord_X3_byteAt_n86 rfl rfl rfl (show va_Nw (.methodLinkNest RX1 86 yX3_byteAt RX6) _ from hAm.2.1.1 (RX1, 86, yX3_byteAt, RX6) (mem_i 8 rfl)) (hts (.initialized RX3) (mem_i 15 rfl)) hdX3_byteAt ⟨(show 0 + 1 ≤ 4 by decide), (show 8 + (2 + 11) + 0 ≤ 85 by decide)⟩, (hts (.instanceMethod yX3_byteAt) (mem_i 14 rfl)), (hts (.selects RX3 yX3_byteAt yX3_byteAt) (mem_i 16 rfl))⟩ ⟨Pre0.blind, va_recv hK hPc (ci := 3) (q0 := 0) rfl rfl, Pre0.at hPc hDc hAm hSt hS hFc⟩ rfl rfl hl.1 rfl (lv_room (Nat.le_of_ble_eq_true rfl)) dX1_isWord_52 ⟨(show 0 + 0 ≤ 0 by decide), (show 0 + 0 ≤ 0 by decide)⟩) (fun r_21 hw_20 => ?_)
              have rg_r_21 := i32r r_21
              refine lv_goto (tgt := 60) hx hb dX1_isWord_55 (by decide) ?_
              exact lp_60 r_21 _ hl
        have kzz_22 : (0 : Int32).toInt = 0 := by decide
        have hl := lv_sub hl [1, 2, 3, 4, 0] rfl
        exact (lp_29 _ 0 (by omega) (by omega) rfl _ hl)
      · skip
        refine lv_iconst (v := 0) hx hb dX1_isWord_24 (by decide) ?_
        have kzz_23 : (0 : Int32).toInt = 0 := by decide
        exact W.zret (v := 0) hx hb hr (by decide) (fun t ht hW => ⟨_, rfl, Or.inr (⟨trivial, rfl⟩), ht⟩) (fun _ h => by cases h) dX1_isWord_25

set_option maxHeartbeats 4000000 in
set_option maxRecDepth 100000 in
theorem k_X1_wordAt (l : Launch) (D : va_G) (c : Nat → ClassId) (ts : Nat × Nat) (sz : Nat) (A_tape : Nat) (A_pile : Nat) (A_acts : Nat) (A_shares : Nat) (A_starts : Nat) (A_code : Nat) (A_self : Nat) (A_tape_bytes : Nat) (f_tape_bytes : Nat → Int32) (self_place : Int32) (i_self_place : Int) (hi_self_place : self_place.toInt = i_self_place) (self_start : Int32) (i_self_start : Int) (hi_self_start : self_start.toInt = i_self_start) (self_token : Int32) (i_self_token : Int) (hi_self_token : self_token.toInt = i_self_token) (self_value : Int32) (i_self_value : Int) (hi_self_value : self_value.toInt = i_self_value) (self_wanted : Int32) (i_self_wanted : Int) (hi_self_wanted : self_wanted.toInt = i_self_wanted) (self_compared : Int32) (i_self_compared : Int) (hi_self_compared : self_compared.toInt = i_self_compared) (self_opened : Int32) (i_self_opened : Int) (hi_self_opened : self_opened.toInt = i_self_opened) (self_nested : Int32) (i_self_nested : Int) (hi_self_nested : self_nested.toInt = i_self_nested) (self_height : Int32) (i_self_height : Int) (hi_self_height : self_height.toInt = i_self_height) (self_made : Int32) (i_self_made : Int) (hi_self_made : self_made.toInt = i_self_made) (self_codeLength : Int32) (i_self_codeLength : Int) (hi_self_codeLength : self_codeLength.toInt = i_self_codeLength) (tape_length : Int32) (i_tape_length : Int) (hi_tape_length : tape_length.toInt = i_tape_length) (a1 : Int32) (i_a1 : Int) (hi_a1 : a1.toInt = i_a1) (a2 : Int32) (i_a2 : Int) (hi_a2 : a2.toInt = i_a2) (hv_self_compared : 0 ≤ i_self_compared ∧ i_self_compared ≤ 1) (hv_self_height : 0 ≤ i_self_height ∧ i_self_height ≤ 64) (hv_self_made : 0 ≤ i_self_made ∧ i_self_made ≤ 1000) (hv_self_codeLength : 0 ≤ i_self_codeLength ∧ i_self_codeLength ≤ 800) (hv_tape_length : 0 ≤ i_tape_length ∧ i_tape_length ≤ 800) : Met l yX1_wordAt wsX1_wordAt ({ frames := 5, cells := 0, slots := 0, locals := 110 }) (va_Pc [.ref A_self, .int a1, .int a2] (Pre0 D c ts [(A_self, .inr (1, [.ref A_tape, .int self_place, .int self_start, .int self_token, .int self_value, .int self_wanted, .int self_compared, .int self_opened, .int self_nested, .ref A_pile, .int self_height, .ref A_acts, .ref A_shares, .ref A_starts, .int self_made, .ref A_code, .int self_codeLength])), (A_tape, .inr (3, [.ref A_tape_bytes, .int tape_length])), (A_tape_bytes, .inl (c 0, 800, .inl f_tape_bytes))] sz)) (vp_Si (fun r : Int32 => True)) 0 0 (fun _ => False) := by
  refine Met.ofW (cc := cX1_wordAt) (maxL := 4) (ret := (some .int)) (by decide) rfl ?_
  intro p e s m args below meth cd s₁ B hml hv
  obtain ⟨rfl, hsz, hP, hD0, hAm, hSt⟩ := hv
  have hx := B.exec
  have hb := B.bytes
  have hr := B.returns
  have hts := atoms_spec (ws := wsX1_wordAt) B.pre
  have hown : s.vm.findClass RX1 = some m.cls := findClass_of_methodNamed B.named
  have hlocks := B.notSynchronized
  have hK := hAm.1
  subst hsz
  have hD := hD0.self (sz := s.heap.size)
  generalize hAe : va_A [(A_self, .inr (1, [.ref A_tape, .int self_place, .int self_start, .int self_token, .int self_value, .int self_wanted, .int self_compared, .int self_opened, .int self_nested, .ref A_pile, .int self_height, .ref A_acts, .ref A_shares, .ref A_starts, .int self_made, .ref A_code, .int self_codeLength])), (A_tape, .inr (3, [.ref A_tape_bytes, .int tape_length])), (A_tape_bytes, .inl (c 0, 800, .inl f_tape_bytes))] s.heap.size = A at hD hSt
  have hA : ∀ q : Nat, s.heap.size ≤ q → A q := fun q h => by rw [← hAe]; exact Or.inr h
  have hS : va_S A s.heap s.heap [] := va_S.rf
  clear hD0 hAe
  have hl := lv_entry ([.ref A_self, .int a1, .int a2]) (n := 4) (Nat.le_of_ble_eq_true rfl)
  rw [lg_entry_eq]
  generalize (lg_sl ([.ref A_self, .int a1, .int a2]) ++ List.replicate (4 - (lg_sl ([.ref A_self, .int a1, .int a2])).length) Slot.unset).toArray = ls at hl ⊢
  have hl : lv_has ls 4 [(0, .ref A_self), (1, .int a1), (2, .int a2)] := hl
  have rg_self_place := i32r self_place
  have rg_self_start := i32r self_start
  have rg_self_token := i32r self_token
  have rg_self_value := i32r self_value
  have rg_self_wanted := i32r self_wanted
  have rg_self_opened := i32r self_opened
  have rg_self_nested := i32r self_nested
  have rg_a1 := i32r a1
  have rg_a2 := i32r a2
  refine lv_iconst (v := 0) hx hb dX1_wordAt_0 (by decide) ?_
  refine lv_istore_n (lv' := [(3, .int 0), (0, .ref A_self), (1, .int a1), (2, .int a2)]) hx hb dX1_wordAt_1 rfl hl (by decide) rfl (fun ls hl => ?_)
  have lp_2 : ∀ (N : Nat) (L3 : Int32) (hf2_0 : 0 ≤ L3.toInt) (hf2_1 : L3.toInt ≤ 21) (hN2 : (21 - L3.toInt).toNat = N) (ls : Array Slot), lv_has ls 4 [(0, .ref A_self), (1, .int a1), (2, .int a2), (3, .int L3)] → W p l e (headSpec wsX1_wordAt ({ frames := 5, cells := 0, slots := 0, locals := 110 })).room s m (([.ref A_self, .int a1, .int a2] : List Value).toArray) below meth cd s.heap [] 0 0 (MQ below (vp_Si (fun r : Int32 => True)) ([.ref A_self, .int a1, .int a2] : List Value).toArray s 0 0 (fun _ => False)) (F0 m 2 ls []) := by
    refine st_ind (fun N ih2 => ?_)
    intro L3 hf2_0 hf2_1 hN2 ls hl
    refine lv_iload_n hx hb dX1_wordAt_2 rfl (lv_at hl 3 rfl) ?_
    refine lv_iconst (v := 1) hx hb dX1_wordAt_3 (by decide) ?_
    refine lv_iadd hx hb dX1_wordAt_4 ?_
    refine lv_topi (fun x_1 ex_1 => ?_)
    have tx_1 : x_1.toInt = (L3.toInt + 1) := by rw [ex_1]; exact add_ti (a := L3.toInt) (b := 1) rfl (by decide) (by omega) (by omega)
    refine lv_bipush (v := 8) hx hb dX1_wordAt_5 (by decide) ?_
    refine lv_imul hx hb dX1_wordAt_7 ?_
    refine lv_topi (fun x_2 ex_2 => ?_)
    have tx_2 : x_2.toInt = ((L3.toInt + 1) * 8) := by rw [ex_2]; exact mul_ti (a := (L3.toInt + 1)) (b := 8) tx_1 (by decide) (by omega) (by omega)
    obtain ⟨sa, sb, hSF⟩ := hSt.2.2.2.2
    refine va_ldcS hx hb hown hSF.2.2.2.2.1 dX1_wordAt_8 ?_
    refine va_csi (va_runV (As := []) (rest := [.int x_2]) ⟨hx, hb, hml, hown, hts⟩ (k_J0_length_8abf5 l D c ts 0 sa sb) (cwV 0 hts gX1_wordAt_J0_length_8abf5 rfl rfl rfl ⟨rfl, hdJ0_length_8abf5⟩ ⟨(show 1 + 1 ≤ 5 by decide), (show 8 + (1 + 11) + 20 ≤ 110 by decide)⟩) ⟨PrS9.blind, str_recv hSF hS, PrS9.at hSF hS⟩ rfl rfl hl.1 rfl (lv_room (Nat.le_of_ble_eq_true rfl)) dX1_wordAt_10 ⟨(show 0 + 0 ≤ 0 by decide), (show 0 + 0 ≤ 0 by decide)⟩) (fun r_4 hw_3 => ?_)
    rcases hw_3 with ⟨hw_3, rfl⟩
    · skip
      refine iicmp_gt (a := ((L3.toInt + 1) * 8)) (b := 168) (tgt := 37) hx hb tx_2 (by decide) dX1_wordAt_13 (by decide) (fun k_5 => ?_) (fun k_5 => ?_)
      · skip
        refine lv_bipush (v := (-2)) hx hb dX1_wordAt_37 (by decide) ?_
        have kzz_6 : ((-2) : Int32).toInt = (-2) := by decide
        exact W.iret (v := (-2)) hx hb hr (fun t ht hW => ⟨_, rfl, trivial, ht⟩) (fun _ h => by cases h) dX1_wordAt_39
      · skip
        refine lv_aload_n hx hb dX1_wordAt_16 rfl (lv_at hl 0 rfl) ?_
        refine lv_iload_n hx hb dX1_wordAt_17 rfl (lv_at hl 3 rfl) ?_
        refine lv_bipush (v := 8) hx hb dX1_wordAt_18 (by decide) ?_
        refine lv_imul hx hb dX1_wordAt_20 ?_
        refine lv_topi (fun x_7 ex_7 => ?_)
        have tx_7 : x_7.toInt = (L3.toInt * 8) := by rw [ex_7]; exact mul_ti (a := L3.toInt) (b := 8) rfl (by decide) (by omega) (by omega)
        refine lv_iload_n hx hb dX1_wordAt_21 rfl (lv_at hl 1 rfl) ?_
        refine lv_iload_n hx hb dX1_wordAt_22 rfl (lv_at hl 2 rfl) ?_
        have hPc := hP.sub (ws' := [(A_self, .inr (1, [.ref A_tape, .int self_place, .int self_start, .int self_token, .int self_value, .int self_wanted, .int self_compared, .int self_opened, .int self_nested, .ref A_pile, .int self_height, .ref A_acts, .ref A_shares, .ref A_starts, .int self_made, .ref A_code, .int self_codeLength])), (A_tape, .inr (3, [.ref A_tape_bytes, .int tape_length])), (A_tape_bytes, .inl (c 0, 800, .inl f_tape_bytes))]) [0, 1, 2] rfl
        have hDc := hD.sub (ws' := [(A_self, .inr (1, [.ref A_tape, .int self_place, .int self_start, .int self_token, .int self_value, .int self_wanted, .int self_compared, .int self_opened, .int self_nested, .ref A_pile, .int self_height, .ref A_acts, .ref A_shares, .ref A_starts, .int self_made, .ref A_code, .int self_codeLength])), (A_tape, .inr (3, [.ref A_tape_bytes, .int tape_length])), (A_tape_bytes, .inl (c 0, 800, .inl f_tape_bytes))]) [0, 1, 2] (by decide) rfl
        have hFc := va_free (wc := [(A_self, .inr (1, [.ref A_tape, .int self_place, .int self_start, .int self_token, .int self_value, .int self_wanted, .int self_compared, .int self_opened, .int self_nested, .ref A_pile, .int self_height, .ref A_acts, .ref A_shares, .ref A_starts, .int self_made, .ref A_code, .int self_codeLength])), (A_tape, .inr (3, [.ref A_tape_bytes, .int tape_length])), (A_tape_bytes, .inl (c 0, 800, .inl f_tape_bytes))]) hD hS hA [0, 1, 2] rfl
        refine va_csi (va_runV (As := [.int x_7, .int a1, .int a2]) (rest := []) ⟨hx, hb, hml, hown, hts⟩ (k_X1_isWord l D c ts s.heap.size A_tape A_pile A_acts A_shares A_starts A_code A_self A_tape_bytes f_tape_bytes self_place i_self_place hi_self_place self_start i_self_start hi_self_start self_token i_self_token hi_self_token self_value i_self_value hi_self_value self_wanted i_self_wanted hi_self_wanted self_compared i_self_compared hi_self_compared self_opened i_self_opened hi_self_opened self_nested i_self_nested hi_self_nested self_height i_self_height hi_self_height self_made i_self_made hi_self_made self_codeLength i_self_codeLength hi_self_codeLength tape_length i_tape_length hi_tape_length x_7 (L3.toInt * 8) tx_7 a1 i_a1 hi_a1 a2 i_a2 hi_a2 (by omega) (by omega) (by omega) (by omega) (by omega) (by omega)) (cwV 3 hts gX1_wordAt_X1_isWord rfl rfl rfl ⟨rfl, hdX1_isWord⟩ ⟨(show 4 + 1 ≤ 5 by decide), (show 8 + (6 + 11) + 85 ≤ 110 by decide)⟩) ⟨Pre0.blind, va_recv hK hPc (ci := 1) (q0 := 0) rfl rfl, Pre0.at hPc hDc hAm hSt hS hFc⟩ rfl rfl hl.1 rfl (lv_room (Nat.le_of_ble_eq_true rfl)) dX1_wordAt_23 ⟨(show 0 + 0 ≤ 0 by decide), (show 0 + 0 ≤ 0 by decide)⟩) (fun r_9 hw_8 => ?_)
        rcases hw_8 with ⟨hw_8, rfl⟩ | ⟨hw_8, rfl⟩
        · skip
          refine iif_eqF (a := 1) (tgt := 31) hx hb (by decide) dX1_wordAt_26 (by decide) (by decide) ?_
          refine lv_iload_n hx hb dX1_wordAt_29 rfl (lv_at hl 3 rfl) ?_
          exact W.iret (v := L3) hx hb hr (fun t ht hW => ⟨_, rfl, trivial, ht⟩) (fun _ h => by cases h) dX1_wordAt_30
        · skip
          refine iif_eqT (a := 0) (tgt := 31) hx hb (by decide) dX1_wordAt_26 (by decide) (by decide) ?_
          obtain ⟨x_10, ex_10⟩ : ∃ y : Int32, y = L3 + 1 := ⟨_, rfl⟩
          have tx_10 : x_10.toInt = L3.toInt + 1 := by rw [ex_10]; exact add_ti (a := L3.toInt) (b := 1) rfl (by decide) (by omega) (by omega)
          refine lv_iinc (v := x_10) (lv' := [(3, .int x_10), (0, .ref A_self), (1, .int a1), (2, .int a2)]) hx hb dX1_wordAt_31 hl (k := 3) rfl (by rw [ex_10]; rfl) (by decide) rfl (fun ls hl => ?_)
          refine lv_goto (tgt := 2) hx hb dX1_wordAt_34 (by decide) ?_
          have hl := lv_sub hl [1, 2, 3, 0] rfl
          exact (ih2 ((21 - x_10.toInt).toNat) (by omega) x_10 (by omega) (by omega) rfl _ hl)
  have kzz_11 : (0 : Int32).toInt = 0 := by decide
  have hl := lv_sub hl [1, 2, 3, 0] rfl
  exact (lp_2 _ 0 (by omega) (by omega) rfl _ hl)

set_option maxHeartbeats 4000000 in
set_option maxRecDepth 100000 in
theorem k_X1_isDigit (l : Launch) (D : va_G) (c : Nat → ClassId) (ts : Nat × Nat) (sz : Nat)  (a1 : Int32) (i_a1 : Int) (hi_a1 : a1.toInt = i_a1) : Met l yX1_isDigit wsX1_isDigit ({ frames := 0, cells := 0, slots := 0, locals := 0 }) (va_Pc [.int a1] (Pre0 D c ts [] sz)) (vp_Si (fun r : Int32 => (((True) ∧ r = 1) ∨ ((True) ∧ r = 0)))) 0 0 (fun _ => False) := by
  refine Met.ofW (cc := cX1_isDigit) (maxL := 1) (ret := (some .boolean)) (by decide) rfl ?_
  intro p e s m args below meth cd s₁ B hml hv
  obtain ⟨rfl, hsz, hP, hD0, hAm, hSt⟩ := hv
  have hx := B.exec
  have hb := B.bytes
  have hr := B.returns
  have hts := atoms_spec (ws := wsX1_isDigit) B.pre
  have hown : s.vm.findClass RX1 = some m.cls := findClass_of_methodNamed B.named
  have hlocks := B.notSynchronized
  have hK := hAm.1
  subst hsz
  have hD := hD0.self (sz := s.heap.size)
  generalize hAe : va_A [] s.heap.size = A at hD hSt
  have hA : ∀ q : Nat, s.heap.size ≤ q → A q := fun q h => by rw [← hAe]; exact Or.inr h
  have hS : va_S A s.heap s.heap [] := va_S.rf
  clear hD0 hAe
  have hl := lv_entry ([.int a1]) (n := 1) (Nat.le_of_ble_eq_true rfl)
  rw [lg_entry_eq]
  generalize (lg_sl ([.int a1]) ++ List.replicate (1 - (lg_sl ([.int a1])).length) Slot.unset).toArray = ls at hl ⊢
  have hl : lv_has ls 1 [(0, .int a1)] := hl
  have rg_a1 := i32r a1
  refine lv_iload_n hx hb dX1_isDigit_0 rfl (lv_at hl 0 rfl) ?_
  refine lv_bipush (v := 48) hx hb dX1_isDigit_1 (by decide) ?_
  refine iicmp_lt (a := i_a1) (b := 48) (tgt := 16) hx hb hi_a1 (by decide) dX1_isDigit_3 (by decide) (fun k_1 => ?_) (fun k_1 => ?_)
  · skip
    refine lv_iconst (v := 0) hx hb dX1_isDigit_16 (by decide) ?_
    have kzz_2 : (0 : Int32).toInt = 0 := by decide
    exact W.zret (v := 0) hx hb hr (by decide) (fun t ht hW => ⟨_, rfl, Or.inr (⟨trivial, rfl⟩), ht⟩) (fun _ h => by cases h) dX1_isDigit_17
  · skip
    refine lv_iload_n hx hb dX1_isDigit_6 rfl (lv_at hl 0 rfl) ?_
    refine lv_bipush (v := 57) hx hb dX1_isDigit_7 (by decide) ?_
    refine iicmp_gt (a := i_a1) (b := 57) (tgt := 16) hx hb hi_a1 (by decide) dX1_isDigit_9 (by decide) (fun k_3 => ?_) (fun k_3 => ?_)
    · skip
      refine lv_iconst (v := 0) hx hb dX1_isDigit_16 (by decide) ?_
      have kzz_4 : (0 : Int32).toInt = 0 := by decide
      exact W.zret (v := 0) hx hb hr (by decide) (fun t ht hW => ⟨_, rfl, Or.inr (⟨trivial, rfl⟩), ht⟩) (fun _ h => by cases h) dX1_isDigit_17
    · skip
      refine lv_iconst (v := 1) hx hb dX1_isDigit_12 (by decide) ?_
      refine lv_goto (tgt := 17) hx hb dX1_isDigit_13 (by decide) ?_
      have kzz_5 : (1 : Int32).toInt = 1 := by decide
      exact W.zret (v := 1) hx hb hr (by decide) (fun t ht hW => ⟨_, rfl, Or.inl ⟨trivial, rfl⟩, ht⟩) (fun _ h => by cases h) dX1_isDigit_17

set_option maxHeartbeats 4000000 in
set_option maxRecDepth 100000 in
theorem k_X1_numberAt (l : Launch) (D : va_G) (c : Nat → ClassId) (ts : Nat × Nat) (sz : Nat) (A_tape : Nat) (A_pile : Nat) (A_acts : Nat) (A_shares : Nat) (A_starts : Nat) (A_code : Nat) (A_self : Nat) (A_tape_bytes : Nat) (f_tape_bytes : Nat → Int32) (self_place : Int32) (i_self_place : Int) (hi_self_place : self_place.toInt = i_self_place) (self_start : Int32) (i_self_start : Int) (hi_self_start : self_start.toInt = i_self_start) (self_token : Int32) (i_self_token : Int) (hi_self_token : self_token.toInt = i_self_token) (self_value : Int32) (i_self_value : Int) (hi_self_value : self_value.toInt = i_self_value) (self_wanted : Int32) (i_self_wanted : Int) (hi_self_wanted : self_wanted.toInt = i_self_wanted) (self_compared : Int32) (i_self_compared : Int) (hi_self_compared : self_compared.toInt = i_self_compared) (self_opened : Int32) (i_self_opened : Int) (hi_self_opened : self_opened.toInt = i_self_opened) (self_nested : Int32) (i_self_nested : Int) (hi_self_nested : self_nested.toInt = i_self_nested) (self_height : Int32) (i_self_height : Int) (hi_self_height : self_height.toInt = i_self_height) (self_made : Int32) (i_self_made : Int) (hi_self_made : self_made.toInt = i_self_made) (self_codeLength : Int32) (i_self_codeLength : Int) (hi_self_codeLength : self_codeLength.toInt = i_self_codeLength) (tape_length : Int32) (i_tape_length : Int) (hi_tape_length : tape_length.toInt = i_tape_length) (a1 : Int32) (i_a1 : Int) (hi_a1 : a1.toInt = i_a1) (a2 : Int32) (i_a2 : Int) (hi_a2 : a2.toInt = i_a2) (hv_self_compared : 0 ≤ i_self_compared ∧ i_self_compared ≤ 1) (hv_self_height : 0 ≤ i_self_height ∧ i_self_height ≤ 64) (hv_self_made : 0 ≤ i_self_made ∧ i_self_made ≤ 1000) (hv_self_codeLength : 0 ≤ i_self_codeLength ∧ i_self_codeLength ≤ 800) (hv_tape_length : 0 ≤ i_tape_length ∧ i_tape_length ≤ 800) : Met l yX1_numberAt wsX1_numberAt ({ frames := 1, cells := 0, slots := 0, locals := 21 }) (va_Pc [.ref A_self, .int a1, .int a2] (Pre0 D c ts [(A_self, .inr (1, [.ref A_tape, .int self_place, .int self_start, .int self_token, .int self_value, .int self_wanted, .int self_compared, .int self_opened, .int self_nested, .ref A_pile, .int self_height, .ref A_acts, .ref A_shares, .ref A_starts, .int self_made, .ref A_code, .int self_codeLength])), (A_tape, .inr (3, [.ref A_tape_bytes, .int tape_length])), (A_tape_bytes, .inl (c 0, 800, .inl f_tape_bytes))] sz)) (vp_Si (fun r : Int32 => True)) 0 0 (fun _ => False) := by
  refine Met.ofW (cc := cX1_numberAt) (maxL := 5) (ret := (some .int)) (by decide) rfl ?_
  intro p e s m args below meth cd s₁ B hml hv
  obtain ⟨rfl, hsz, hP, hD0, hAm, hSt⟩ := hv
  have hx := B.exec
  have hb := B.bytes
  have hr := B.returns
  have hts := atoms_spec (ws := wsX1_numberAt) B.pre
  have hown : s.vm.findClass RX1 = some m.cls := findClass_of_methodNamed B.named
  have hlocks := B.notSynchronized
  have hK := hAm.1
  subst hsz
  have hD := hD0.self (sz := s.heap.size)
  generalize hAe : va_A [(A_self, .inr (1, [.ref A_tape, .int self_place, .int self_start, .int self_token, .int self_value, .int self_wanted, .int self_compared, .int self_opened, .int self_nested, .ref A_pile, .int self_height, .ref A_acts, .ref A_shares, .ref A_starts, .int self_made, .ref A_code, .int self_codeLength])), (A_tape, .inr (3, [.ref A_tape_bytes, .int tape_length])), (A_tape_bytes, .inl (c 0, 800, .inl f_tape_bytes))] s.heap.size = A at hD hSt
  have hA : ∀ q : Nat, s.heap.size ≤ q → A q := fun q h => by rw [← hAe]; exact Or.inr h
  have hS : va_S A s.heap s.heap [] := va_S.rf
  clear hD0 hAe
  have hl := lv_entry ([.ref A_self, .int a1, .int a2]) (n := 5) (Nat.le_of_ble_eq_true rfl)
  rw [lg_entry_eq]
  generalize (lg_sl ([.ref A_self, .int a1, .int a2]) ++ List.replicate (5 - (lg_sl ([.ref A_self, .int a1, .int a2])).length) Slot.unset).toArray = ls at hl ⊢
  have hl : lv_has ls 5 [(0, .ref A_self), (1, .int a1), (2, .int a2)] := hl
  have rg_self_place := i32r self_place
  have rg_self_start := i32r self_start
  have rg_self_token := i32r self_token
  have rg_self_value := i32r self_value
  have rg_self_wanted := i32r self_wanted
  have rg_self_opened := i32r self_opened
  have rg_self_nested := i32r self_nested
  have rg_a1 := i32r a1
  have rg_a2 := i32r a2
  refine lv_iconst (v := 0) hx hb dX1_numberAt_0 (by decide) ?_
  refine lv_istore_n (lv' := [(3, .int 0), (0, .ref A_self), (1, .int a1), (2, .int a2)]) hx hb dX1_numberAt_1 rfl hl (by decide) rfl (fun ls hl => ?_)
  refine lv_iload_n hx hb dX1_numberAt_2 rfl (lv_at hl 2 rfl) ?_
  refine lv_istore (lv' := [(4, .int a1), (3, .int 0), (0, .ref A_self), (1, .int a1), (2, .int a2)]) hx hb dX1_numberAt_3 hl (by decide) rfl (fun ls hl => ?_)
  have lp_5 : ∀ (N : Nat) (L3 : Int32) (L4 : Int32) (hN5 : (3000000000 - L4.toInt).toNat = N) (ls : Array Slot), lv_has ls 5 [(0, .ref A_self), (1, .int a1), (2, .int a2), (3, .int L3), (4, .int L4)] → W p l e (headSpec wsX1_numberAt ({ frames := 1, cells := 0, slots := 0, locals := 21 })).room s m (([.ref A_self, .int a1, .int a2] : List Value).toArray) below meth cd s.heap [] 0 0 (MQ below (vp_Si (fun r : Int32 => True)) ([.ref A_self, .int a1, .int a2] : List Value).toArray s 0 0 (fun _ => False)) (F0 m 5 ls []) := by
    refine st_ind (fun N ih5 => ?_)
    intro L3 L4 hN5 ls hl
    have rg_L3 := i32r L3
    have rg_L4 := i32r L4
    refine lv_iload hx hb dX1_numberAt_5 (lv_at hl 4 rfl) ?_
    refine lv_iload_n hx hb dX1_numberAt_7 rfl (lv_at hl 2 rfl) ?_
    refine iicmp_ge (a := L4.toInt) (b := i_a2) (tgt := 40) hx hb rfl hi_a2 dX1_numberAt_8 (by decide) (fun k_1 => ?_) (fun k_1 => ?_)
    · skip
      refine lv_iload_n hx hb dX1_numberAt_40 rfl (lv_at hl 3 rfl) ?_
      exact W.iret (v := L3) hx hb hr (fun t ht hW => ⟨_, rfl, trivial, ht⟩) (fun _ h => by cases h) dX1_numberAt_41
    · skip
      refine lv_iload_n hx hb dX1_numberAt_11 rfl (lv_at hl 3 rfl) ?_
      refine lv_bipush (v := 10) hx hb dX1_numberAt_12 (by decide) ?_
      refine lv_imul hx hb dX1_numberAt_14 ?_
      refine lv_topi (fun x_2 ex_2 => ?_)
      refine lv_aload_n hx hb dX1_numberAt_15 rfl (lv_at hl 0 rfl) ?_
      refine va_get (D := D) (ci := 1) (v := .ref A_tape) (C := RX1) (T := TX1) (N := 17) hx hb hts (fun _ h => List.mem_cons_of_mem _ (List.mem_append_left _ (List.mem_append_right _ h))) hown hK hP 0 rfl rfl 0 (by decide) (hts (.fieldLink RX1 27 "CrownTable$Reader" "tape" "LCrownTable$Tape;") (mem_i 1 rfl)) (fun _ h9 => h9) rfl dX1_numberAt_16 ?_
      refine lv_iload hx hb dX1_numberAt_19 (lv_at hl 4 rfl) ?_
      have hPc := hP.sub (ws' := [(A_tape, .inr (3, [.ref A_tape_bytes, .int tape_length])), (A_tape_bytes, .inl (c 0, 800, .inl f_tape_bytes))]) [1, 2] rfl
      have hDc := hD.sub (ws' := [(A_tape, .inr (3, [.ref A_tape_bytes, .int tape_length])), (A_tape_bytes, .inl (c 0, 800, .inl f_tape_bytes))]) [1, 2] (by decide) rfl
      have hFc := va_free (wc := [(A_tape, .inr (3, [.ref A_tape_bytes, .int tape_length])), (A_tape_bytes, .inl (c 0, 800, .inl f_tape_bytes))]) hD hS hA [1, 2] rfl
      refine va_csi (va_runVN (As := [.int L4]) (rest := [.int x_2]) ⟨hx, hb, hml, hown, hts⟩ (k_X3_byteAt l D c ts s.heap.size A_tape_bytes A_tape f_tape_bytes tape_length i_tape_length hi_tape_length L4 L4.toInt rfl (by omega)) ⟨va_cnB 1 hts gX1_numberAt_X3_byteAt_n86 rfl rfl rfl (show va_Nw (.methodLinkNest RX1 86 yX3_byteAt RX6) _ from hAm.2.1.1 (RX1, 86, yX3_byteAt, RX6) (mem_i 8 rfl)) (hts (.initialized RX3) (mem_i 8 rfl)) hdX3_byteAt ⟨(show 0 + 1 ≤ 1 by decide), (show 8 + (2 + 11) + 0 ≤ 21 by decide)⟩, (hts (.instanceMethod yX3_byteAt) (mem_i 7 rfl)), (hts (.selects RX3 yX3_byteAt yX3_byteAt) (mem_i 9 rfl))⟩ ⟨Pre0.blind, va_recv hK hPc (ci := 3) (q0 := 0) rfl rfl, Pre0.at hPc hDc hAm hSt hS hFc⟩ rfl rfl hl.1 rfl (lv_room (Nat.le_of_ble_eq_true rfl)) dX1_numberAt_21 ⟨(show 0 + 0 ≤ 0 by decide), (show 0 + 0 ≤ 0 by decide)⟩) (fun r_4 hw_3 => ?_)
      have rg_r_4 := i32r r_4
      refine lv_iadd hx hb dX1_numberAt_24 ?_
      refine lv_topi (fun x_5 ex_5 => ?_)
      refine lv_bipush (v := 48) hx hb dX1_numberAt_25 (by decide) ?_
      refine lv_isub hx hb dX1_numberAt_27 ?_
      refine lv_topi (fun x_6 ex_6 => ?_)
      refine lv_ldc (v := 1000000) hx hb hown (hts (.constant RX1 134 (1000000)) (mem_i 2 rfl)) dX1_numberAt_28 ?_
      refine va_mmin hx hb (by rw [hml]; exact hl.1.symm) hown (hts (.methodLink RX1 135 Lib.Math.min.name) (mem_i 3 rfl)) (hts (.static Lib.Math.min.name) (mem_i 4 rfl)) (hts (.initialized "java/lang/Math") (mem_i 5 rfl)) (hts (.code Lib.Math.min.name Lib.Math.min.code 2 (some .int)) (mem_i 6 rfl)) (Nat.le_of_ble_eq_true rfl) (Nat.le_of_ble_eq_true rfl) (show 0 + 0 ≤ 0 by decide) (show 0 + 0 ≤ 0 by decide) dX1_numberAt_30 ?_
      refine lv_topi (fun x_7 ex_7 => ?_)
      have tx_7 := min_fact ex_7 (show (x_6 : Int32).toInt = x_6.toInt from rfl) (show (1000000 : Int32).toInt = 1000000 from (by decide))
      refine lv_istore_n (lv' := [(3, .int x_7), (0, .ref A_self), (1, .int a1), (2, .int a2), (4, .int L4)]) hx hb dX1_numberAt_33 rfl hl (by decide) rfl (fun ls hl => ?_)
      obtain ⟨x_8, ex_8⟩ : ∃ y : Int32, y = L4 + 1 := ⟨_, rfl⟩
      have tx_8 : x_8.toInt = L4.toInt + 1 := by rw [ex_8]; exact add_ti (a := L4.toInt) (b := 1) rfl (by decide) (by omega) (by omega)
      refine lv_iinc (v := x_8) (lv' := [(4, .int x_8), (3, .int x_7), (0, .ref A_self), (1, .int a1), (2, .int a2)]) hx hb dX1_numberAt_34 hl (k := 4) rfl (by rw [ex_8]; rfl) (by decide) rfl (fun ls hl => ?_)
      refine lv_goto (tgt := 5) hx hb dX1_numberAt_37 (by decide) ?_
      have hl := lv_sub hl [2, 3, 4, 1, 0] rfl
      exact (ih5 ((3000000000 - x_8.toInt).toNat) (by omega) x_7 x_8 rfl _ hl)
  have kzz_9 : (0 : Int32).toInt = 0 := by decide
  have hl := lv_sub hl [2, 3, 4, 1, 0] rfl
  exact (lp_5 _ 0 a1 rfl _ hl)

set_option maxHeartbeats 4000000 in
set_option maxRecDepth 100000 in
theorem k_X1_isRelation (l : Launch) (D : va_G) (c : Nat → ClassId) (ts : Nat × Nat) (sz : Nat)  (a1 : Int32) (i_a1 : Int) (hi_a1 : a1.toInt = i_a1) : Met l yX1_isRelation wsX1_isRelation ({ frames := 0, cells := 0, slots := 0, locals := 0 }) (va_Pc [.int a1] (Pre0 D c ts [] sz)) (vp_Si (fun r : Int32 => (((True) ∧ r = 1) ∨ ((True) ∧ r = 0)))) 0 0 (fun _ => False) := by
  refine Met.ofW (cc := cX1_isRelation) (maxL := 1) (ret := (some .boolean)) (by decide) rfl ?_
  intro p e s m args below meth cd s₁ B hml hv
  obtain ⟨rfl, hsz, hP, hD0, hAm, hSt⟩ := hv
  have hx := B.exec
  have hb := B.bytes
  have hr := B.returns
  have hts := atoms_spec (ws := wsX1_isRelation) B.pre
  have hown : s.vm.findClass RX1 = some m.cls := findClass_of_methodNamed B.named
  have hlocks := B.notSynchronized
  have hK := hAm.1
  subst hsz
  have hD := hD0.self (sz := s.heap.size)
  generalize hAe : va_A [] s.heap.size = A at hD hSt
  have hA : ∀ q : Nat, s.heap.size ≤ q → A q := fun q h => by rw [← hAe]; exact Or.inr h
  have hS : va_S A s.heap s.heap [] := va_S.rf
  clear hD0 hAe
  have hl := lv_entry ([.int a1]) (n := 1) (Nat.le_of_ble_eq_true rfl)
  rw [lg_entry_eq]
  generalize (lg_sl ([.int a1]) ++ List.replicate (1 - (lg_sl ([.int a1])).length) Slot.unset).toArray = ls at hl ⊢
  have hl : lv_has ls 1 [(0, .int a1)] := hl
  have rg_a1 := i32r a1
  refine lv_iload_n hx hb dX1_isRelation_0 rfl (lv_at hl 0 rfl) ?_
  refine lv_bipush (v := 60) hx hb dX1_isRelation_1 (by decide) ?_
  refine iicmp_eq (a := i_a1) (b := 60) (tgt := 18) hx hb hi_a1 (by decide) dX1_isRelation_3 (by decide) (fun k_1 => ?_) (fun k_1 => ?_)
  · skip
    refine lv_iconst (v := 1) hx hb dX1_isRelation_18 (by decide) ?_
    refine lv_goto (tgt := 23) hx hb dX1_isRelation_19 (by decide) ?_
    have kzz_2 : (1 : Int32).toInt = 1 := by decide
    exact W.zret (v := 1) hx hb hr (by decide) (fun t ht hW => ⟨_, rfl, Or.inl ⟨trivial, rfl⟩, ht⟩) (fun _ h => by cases h) dX1_isRelation_23
  · skip
    refine lv_iload_n hx hb dX1_isRelation_6 rfl (lv_at hl 0 rfl) ?_
    refine lv_bipush (v := 61) hx hb dX1_isRelation_7 (by decide) ?_
    refine iicmp_eq (a := i_a1) (b := 61) (tgt := 18) hx hb hi_a1 (by decide) dX1_isRelation_9 (by decide) (fun k_3 => ?_) (fun k_3 => ?_)
    · skip
      refine lv_iconst (v := 1) hx hb dX1_isRelation_18 (by decide) ?_
      refine lv_goto (tgt := 23) hx hb dX1_isRelation_19 (by decide) ?_
      have kzz_4 : (1 : Int32).toInt = 1 := by decide
      exact W.zret (v := 1) hx hb hr (by decide) (fun t ht hW => ⟨_, rfl, Or.inl ⟨trivial, rfl⟩, ht⟩) (fun _ h => by cases h) dX1_isRelation_23
    · skip
      refine lv_iload_n hx hb dX1_isRelation_12 rfl (lv_at hl 0 rfl) ?_
      refine lv_bipush (v := 62) hx hb dX1_isRelation_13 (by decide) ?_
      refine iicmp_ne (a := i_a1) (b := 62) (tgt := 22) hx hb hi_a1 (by decide) dX1_isRelation_15 (by decide) (fun k_5 => ?_) (fun k_5 => ?_)
      · skip
        refine lv_iconst (v := 0) hx hb dX1_isRelation_22 (by decide) ?_
        have kzz_6 : (0 : Int32).toInt = 0 := by decide
        exact W.zret (v := 0) hx hb hr (by decide) (fun t ht hW => ⟨_, rfl, Or.inr (⟨trivial, rfl⟩), ht⟩) (fun _ h => by cases h) dX1_isRelation_23
      · skip
        refine lv_iconst (v := 1) hx hb dX1_isRelation_18 (by decide) ?_
        refine lv_goto (tgt := 23) hx hb dX1_isRelation_19 (by decide) ?_
        have kzz_7 : (1 : Int32).toInt = 1 := by decide
        exact W.zret (v := 1) hx hb hr (by decide) (fun t ht hW => ⟨_, rfl, Or.inl ⟨trivial, rfl⟩, ht⟩) (fun _ h => by cases h) dX1_isRelation_23

set_option maxHeartbeats 4000000 in
set_option maxRecDepth 100000 in
theorem k_X1_isReckoning (l : Launch) (D : va_G) (c : Nat → ClassId) (ts : Nat × Nat) (sz : Nat)  (a1 : Int32) (i_a1 : Int) (hi_a1 : a1.toInt = i_a1) : Met l yX1_isReckoning wsX1_isReckoning ({ frames := 0, cells := 0, slots := 0, locals := 0 }) (va_Pc [.int a1] (Pre0 D c ts [] sz)) (vp_Si (fun r : Int32 => (((True) ∧ r = 1) ∨ ((True) ∧ r = 0)))) 0 0 (fun _ => False) := by
  refine Met.ofW (cc := cX1_isReckoning) (maxL := 1) (ret := (some .boolean)) (by decide) rfl ?_
  intro p e s m args below meth cd s₁ B hml hv
  obtain ⟨rfl, hsz, hP, hD0, hAm, hSt⟩ := hv
  have hx := B.exec
  have hb := B.bytes
  have hr := B.returns
  have hts := atoms_spec (ws := wsX1_isReckoning) B.pre
  have hown : s.vm.findClass RX1 = some m.cls := findClass_of_methodNamed B.named
  have hlocks := B.notSynchronized
  have hK := hAm.1
  subst hsz
  have hD := hD0.self (sz := s.heap.size)
  generalize hAe : va_A [] s.heap.size = A at hD hSt
  have hA : ∀ q : Nat, s.heap.size ≤ q → A q := fun q h => by rw [← hAe]; exact Or.inr h
  have hS : va_S A s.heap s.heap [] := va_S.rf
  clear hD0 hAe
  have hl := lv_entry ([.int a1]) (n := 1) (Nat.le_of_ble_eq_true rfl)
  rw [lg_entry_eq]
  generalize (lg_sl ([.int a1]) ++ List.replicate (1 - (lg_sl ([.int a1])).length) Slot.unset).toArray = ls at hl ⊢
  have hl : lv_has ls 1 [(0, .int a1)] := hl
  have rg_a1 := i32r a1
  refine lv_iload_n hx hb dX1_isReckoning_0 rfl (lv_at hl 0 rfl) ?_
  refine lv_bipush (v := 43) hx hb dX1_isReckoning_1 (by decide) ?_
  refine iicmp_eq (a := i_a1) (b := 43) (tgt := 18) hx hb hi_a1 (by decide) dX1_isReckoning_3 (by decide) (fun k_1 => ?_) (fun k_1 => ?_)
  · skip
    refine lv_iconst (v := 1) hx hb dX1_isReckoning_18 (by decide) ?_
    refine lv_goto (tgt := 23) hx hb dX1_isReckoning_19 (by decide) ?_
    have kzz_2 : (1 : Int32).toInt = 1 := by decide
    exact W.zret (v := 1) hx hb hr (by decide) (fun t ht hW => ⟨_, rfl, Or.inl ⟨trivial, rfl⟩, ht⟩) (fun _ h => by cases h) dX1_isReckoning_23
  · skip
    refine lv_iload_n hx hb dX1_isReckoning_6 rfl (lv_at hl 0 rfl) ?_
    refine lv_bipush (v := 45) hx hb dX1_isReckoning_7 (by decide) ?_
    refine iicmp_eq (a := i_a1) (b := 45) (tgt := 18) hx hb hi_a1 (by decide) dX1_isReckoning_9 (by decide) (fun k_3 => ?_) (fun k_3 => ?_)
    · skip
      refine lv_iconst (v := 1) hx hb dX1_isReckoning_18 (by decide) ?_
      refine lv_goto (tgt := 23) hx hb dX1_isReckoning_19 (by decide) ?_
      have kzz_4 : (1 : Int32).toInt = 1 := by decide
      exact W.zret (v := 1) hx hb hr (by decide) (fun t ht hW => ⟨_, rfl, Or.inl ⟨trivial, rfl⟩, ht⟩) (fun _ h => by cases h) dX1_isReckoning_23
    · skip
      refine lv_iload_n hx hb dX1_isReckoning_12 rfl (lv_at hl 0 rfl) ?_
      refine lv_bipush (v := 42) hx hb dX1_isReckoning_13 (by decide) ?_
      refine iicmp_ne (a := i_a1) (b := 42) (tgt := 22) hx hb hi_a1 (by decide) dX1_isReckoning_15 (by decide) (fun k_5 => ?_) (fun k_5 => ?_)
      · skip
        refine lv_iconst (v := 0) hx hb dX1_isReckoning_22 (by decide) ?_
        have kzz_6 : (0 : Int32).toInt = 0 := by decide
        exact W.zret (v := 0) hx hb hr (by decide) (fun t ht hW => ⟨_, rfl, Or.inr (⟨trivial, rfl⟩), ht⟩) (fun _ h => by cases h) dX1_isReckoning_23
      · skip
        refine lv_iconst (v := 1) hx hb dX1_isReckoning_18 (by decide) ?_
        refine lv_goto (tgt := 23) hx hb dX1_isReckoning_19 (by decide) ?_
        have kzz_7 : (1 : Int32).toInt = 1 := by decide
        exact W.zret (v := 1) hx hb hr (by decide) (fun t ht hW => ⟨_, rfl, Or.inl ⟨trivial, rfl⟩, ht⟩) (fun _ h => by cases h) dX1_isReckoning_23

set_option maxHeartbeats 4000000 in
set_option maxRecDepth 100000 in
theorem k_X1_isSign (l : Launch) (D : va_G) (c : Nat → ClassId) (ts : Nat × Nat) (sz : Nat)  (a1 : Int32) (i_a1 : Int) (hi_a1 : a1.toInt = i_a1) : Met l yX1_isSign wsX1_isSign ({ frames := 1, cells := 0, slots := 0, locals := 20 }) (va_Pc [.int a1] (Pre0 D c ts [] sz)) (vp_Si (fun r : Int32 => (((True) ∧ r = 1) ∨ ((True) ∧ r = 0)))) 0 0 (fun _ => False) := by
  refine Met.ofW (cc := cX1_isSign) (maxL := 1) (ret := (some .boolean)) (by decide) rfl ?_
  intro p e s m args below meth cd s₁ B hml hv
  obtain ⟨rfl, hsz, hP, hD0, hAm, hSt⟩ := hv
  have hx := B.exec
  have hb := B.bytes
  have hr := B.returns
  have hts := atoms_spec (ws := wsX1_isSign) B.pre
  have hown : s.vm.findClass RX1 = some m.cls := findClass_of_methodNamed B.named
  have hlocks := B.notSynchronized
  have hK := hAm.1
  subst hsz
  have hD := hD0.self (sz := s.heap.size)
  generalize hAe : va_A [] s.heap.size = A at hD hSt
  have hA : ∀ q : Nat, s.heap.size ≤ q → A q := fun q h => by rw [← hAe]; exact Or.inr h
  have hS : va_S A s.heap s.heap [] := va_S.rf
  clear hD0 hAe
  have hl := lv_entry ([.int a1]) (n := 1) (Nat.le_of_ble_eq_true rfl)
  rw [lg_entry_eq]
  generalize (lg_sl ([.int a1]) ++ List.replicate (1 - (lg_sl ([.int a1])).length) Slot.unset).toArray = ls at hl ⊢
  have hl : lv_has ls 1 [(0, .int a1)] := hl
  have rg_a1 := i32r a1
  refine lv_iload_n hx hb dX1_isSign_0 rfl (lv_at hl 0 rfl) ?_
  refine lv_bipush (v := 59) hx hb dX1_isSign_1 (by decide) ?_
  refine iicmp_eq (a := i_a1) (b := 59) (tgt := 32) hx hb hi_a1 (by decide) dX1_isSign_3 (by decide) (fun k_1 => ?_) (fun k_1 => ?_)
  · skip
    refine lv_iconst (v := 1) hx hb dX1_isSign_32 (by decide) ?_
    refine lv_goto (tgt := 37) hx hb dX1_isSign_33 (by decide) ?_
    have kzz_2 : (1 : Int32).toInt = 1 := by decide
    exact W.zret (v := 1) hx hb hr (by decide) (fun t ht hW => ⟨_, rfl, Or.inl ⟨trivial, rfl⟩, ht⟩) (fun _ h => by cases h) dX1_isSign_37
  · skip
    refine lv_iload_n hx hb dX1_isSign_6 rfl (lv_at hl 0 rfl) ?_
    refine lv_bipush (v := 40) hx hb dX1_isSign_7 (by decide) ?_
    refine iicmp_eq (a := i_a1) (b := 40) (tgt := 32) hx hb hi_a1 (by decide) dX1_isSign_9 (by decide) (fun k_3 => ?_) (fun k_3 => ?_)
    · skip
      refine lv_iconst (v := 1) hx hb dX1_isSign_32 (by decide) ?_
      refine lv_goto (tgt := 37) hx hb dX1_isSign_33 (by decide) ?_
      have kzz_4 : (1 : Int32).toInt = 1 := by decide
      exact W.zret (v := 1) hx hb hr (by decide) (fun t ht hW => ⟨_, rfl, Or.inl ⟨trivial, rfl⟩, ht⟩) (fun _ h => by cases h) dX1_isSign_37
    · skip
      refine lv_iload_n hx hb dX1_isSign_12 rfl (lv_at hl 0 rfl) ?_
      refine lv_bipush (v := 41) hx hb dX1_isSign_13 (by decide) ?_
      refine iicmp_eq (a := i_a1) (b := 41) (tgt := 32) hx hb hi_a1 (by decide) dX1_isSign_15 (by decide) (fun k_5 => ?_) (fun k_5 => ?_)
      · skip
        refine lv_iconst (v := 1) hx hb dX1_isSign_32 (by decide) ?_
        refine lv_goto (tgt := 37) hx hb dX1_isSign_33 (by decide) ?_
        have kzz_6 : (1 : Int32).toInt = 1 := by decide
        exact W.zret (v := 1) hx hb hr (by decide) (fun t ht hW => ⟨_, rfl, Or.inl ⟨trivial, rfl⟩, ht⟩) (fun _ h => by cases h) dX1_isSign_37
      · skip
        refine lv_iload_n hx hb dX1_isSign_18 rfl (lv_at hl 0 rfl) ?_
        have hPc := hP.sub (ws' := []) [] rfl
        have hDc := hD.sub (ws' := []) [] (by decide) rfl
        have hFc := va_free (wc := []) hD hS hA [] rfl
        refine va_csi (va_runS (As := [.int a1]) (rest := []) ⟨hx, hb, hml, hown, hts⟩ (k_X1_isRelation l D c ts s.heap.size a1 i_a1 hi_a1) (cwS 1 hts gX1_isSign_X1_isRelation rfl rfl rfl ⟨rfl, hdX1_isRelation⟩ ⟨(show 0 + 1 ≤ 1 by decide), (show 8 + (1 + 11) + 0 ≤ 20 by decide)⟩) ⟨Pre0.blind, Pre0.at hPc hDc hAm hSt hS hFc⟩ rfl rfl hl.1 rfl (lv_room (Nat.le_of_ble_eq_true rfl)) dX1_isSign_19 ⟨(show 0 + 0 ≤ 0 by decide), (show 0 + 0 ≤ 0 by decide)⟩) (fun r_8 hw_7 => ?_)
        rcases hw_7 with ⟨hw_7, rfl⟩ | ⟨hw_7, rfl⟩
        · skip
          refine iif_neT (a := 1) (tgt := 32) hx hb (by decide) dX1_isSign_22 (by decide) (by decide) ?_
          refine lv_iconst (v := 1) hx hb dX1_isSign_32 (by decide) ?_
          refine lv_goto (tgt := 37) hx hb dX1_isSign_33 (by decide) ?_
          have kzz_9 : (1 : Int32).toInt = 1 := by decide
          exact W.zret (v := 1) hx hb hr (by decide) (fun t ht hW => ⟨_, rfl, Or.inl ⟨trivial, rfl⟩, ht⟩) (fun _ h => by cases h) dX1_isSign_37
        · skip
          refine iif_neF (a := 0) (tgt := 32) hx hb (by decide) dX1_isSign_22 (by decide) (by decide) ?_
          refine lv_iload_n hx hb dX1_isSign_25 rfl (lv_at hl 0 rfl) ?_
          have hPc := hP.sub (ws' := []) [] rfl
          have hDc := hD.sub (ws' := []) [] (by decide) rfl
          have hFc := va_free (wc := []) hD hS hA [] rfl
          refine va_csi (va_runS (As := [.int a1]) (rest := []) ⟨hx, hb, hml, hown, hts⟩ (k_X1_isReckoning l D c ts s.heap.size a1 i_a1 hi_a1) (cwS 1 hts gX1_isSign_X1_isReckoning rfl rfl rfl ⟨rfl, hdX1_isReckoning⟩ ⟨(show 0 + 1 ≤ 1 by decide), (show 8 + (1 + 11) + 0 ≤ 20 by decide)⟩) ⟨Pre0.blind, Pre0.at hPc hDc hAm hSt hS hFc⟩ rfl rfl hl.1 rfl (lv_room (Nat.le_of_ble_eq_true rfl)) dX1_isSign_26 ⟨(show 0 + 0 ≤ 0 by decide), (show 0 + 0 ≤ 0 by decide)⟩) (fun r_11 hw_10 => ?_)
          rcases hw_10 with ⟨hw_10, rfl⟩ | ⟨hw_10, rfl⟩
          · skip
            refine iif_eqF (a := 1) (tgt := 36) hx hb (by decide) dX1_isSign_29 (by decide) (by decide) ?_
            refine lv_iconst (v := 1) hx hb dX1_isSign_32 (by decide) ?_
            refine lv_goto (tgt := 37) hx hb dX1_isSign_33 (by decide) ?_
            have kzz_12 : (1 : Int32).toInt = 1 := by decide
            exact W.zret (v := 1) hx hb hr (by decide) (fun t ht hW => ⟨_, rfl, Or.inl ⟨trivial, rfl⟩, ht⟩) (fun _ h => by cases h) dX1_isSign_37
          · skip
            refine iif_eqT (a := 0) (tgt := 36) hx hb (by decide) dX1_isSign_29 (by decide) (by decide) ?_
            refine lv_iconst (v := 0) hx hb dX1_isSign_36 (by decide) ?_
            have kzz_13 : (0 : Int32).toInt = 0 := by decide
            exact W.zret (v := 0) hx hb hr (by decide) (fun t ht hW => ⟨_, rfl, Or.inr (⟨trivial, rfl⟩), ht⟩) (fun _ h => by cases h) dX1_isSign_37

set_option maxHeartbeats 4000000 in
set_option maxRecDepth 100000 in
theorem k_X1_isBlank (l : Launch) (D : va_G) (c : Nat → ClassId) (ts : Nat × Nat) (sz : Nat)  (a1 : Int32) (i_a1 : Int) (hi_a1 : a1.toInt = i_a1) : Met l yX1_isBlank wsX1_isBlank ({ frames := 0, cells := 0, slots := 0, locals := 0 }) (va_Pc [.int a1] (Pre0 D c ts [] sz)) (vp_Si (fun r : Int32 => (((True) ∧ r = 1) ∨ ((True) ∧ r = 0)))) 0 0 (fun _ => False) := by
  refine Met.ofW (cc := cX1_isBlank) (maxL := 1) (ret := (some .boolean)) (by decide) rfl ?_
  intro p e s m args below meth cd s₁ B hml hv
  obtain ⟨rfl, hsz, hP, hD0, hAm, hSt⟩ := hv
  have hx := B.exec
  have hb := B.bytes
  have hr := B.returns
  have hts := atoms_spec (ws := wsX1_isBlank) B.pre
  have hown : s.vm.findClass RX1 = some m.cls := findClass_of_methodNamed B.named
  have hlocks := B.notSynchronized
  have hK := hAm.1
  subst hsz
  have hD := hD0.self (sz := s.heap.size)
  generalize hAe : va_A [] s.heap.size = A at hD hSt
  have hA : ∀ q : Nat, s.heap.size ≤ q → A q := fun q h => by rw [← hAe]; exact Or.inr h
  have hS : va_S A s.heap s.heap [] := va_S.rf
  clear hD0 hAe
  have hl := lv_entry ([.int a1]) (n := 1) (Nat.le_of_ble_eq_true rfl)
  rw [lg_entry_eq]
  generalize (lg_sl ([.int a1]) ++ List.replicate (1 - (lg_sl ([.int a1])).length) Slot.unset).toArray = ls at hl ⊢
  have hl : lv_has ls 1 [(0, .int a1)] := hl
  have rg_a1 := i32r a1
  refine lv_iload_n hx hb dX1_isBlank_0 rfl (lv_at hl 0 rfl) ?_
  refine lv_bipush (v := 32) hx hb dX1_isBlank_1 (by decide) ?_
  refine iicmp_eq (a := i_a1) (b := 32) (tgt := 12) hx hb hi_a1 (by decide) dX1_isBlank_3 (by decide) (fun k_1 => ?_) (fun k_1 => ?_)
  · skip
    refine lv_iconst (v := 1) hx hb dX1_isBlank_12 (by decide) ?_
    refine lv_goto (tgt := 17) hx hb dX1_isBlank_13 (by decide) ?_
    have kzz_2 : (1 : Int32).toInt = 1 := by decide
    exact W.zret (v := 1) hx hb hr (by decide) (fun t ht hW => ⟨_, rfl, Or.inl ⟨trivial, rfl⟩, ht⟩) (fun _ h => by cases h) dX1_isBlank_17
  · skip
    refine lv_iload_n hx hb dX1_isBlank_6 rfl (lv_at hl 0 rfl) ?_
    refine lv_bipush (v := 10) hx hb dX1_isBlank_7 (by decide) ?_
    refine iicmp_ne (a := i_a1) (b := 10) (tgt := 16) hx hb hi_a1 (by decide) dX1_isBlank_9 (by decide) (fun k_3 => ?_) (fun k_3 => ?_)
    · skip
      refine lv_iconst (v := 0) hx hb dX1_isBlank_16 (by decide) ?_
      have kzz_4 : (0 : Int32).toInt = 0 := by decide
      exact W.zret (v := 0) hx hb hr (by decide) (fun t ht hW => ⟨_, rfl, Or.inr (⟨trivial, rfl⟩), ht⟩) (fun _ h => by cases h) dX1_isBlank_17
    · skip
      refine lv_iconst (v := 1) hx hb dX1_isBlank_12 (by decide) ?_
      refine lv_goto (tgt := 17) hx hb dX1_isBlank_13 (by decide) ?_
      have kzz_5 : (1 : Int32).toInt = 1 := by decide
      exact W.zret (v := 1) hx hb hr (by decide) (fun t ht hW => ⟨_, rfl, Or.inl ⟨trivial, rfl⟩, ht⟩) (fun _ h => by cases h) dX1_isBlank_17

set_option maxHeartbeats 4000000 in
set_option maxRecDepth 100000 in
theorem k_X1_nextToken (l : Launch) (D : va_G) (c : Nat → ClassId) (ts : Nat × Nat) (sz : Nat) (A_tape : Nat) (A_pile : Nat) (A_acts : Nat) (A_shares : Nat) (A_starts : Nat) (A_code : Nat) (A_self : Nat) (A_tape_bytes : Nat) (f_tape_bytes : Nat → Int32) (self_place : Int32) (i_self_place : Int) (hi_self_place : self_place.toInt = i_self_place) (self_start : Int32) (i_self_start : Int) (hi_self_start : self_start.toInt = i_self_start) (self_token : Int32) (i_self_token : Int) (hi_self_token : self_token.toInt = i_self_token) (self_value : Int32) (i_self_value : Int) (hi_self_value : self_value.toInt = i_self_value) (self_wanted : Int32) (i_self_wanted : Int) (hi_self_wanted : self_wanted.toInt = i_self_wanted) (self_compared : Int32) (i_self_compared : Int) (hi_self_compared : self_compared.toInt = i_self_compared) (self_opened : Int32) (i_self_opened : Int) (hi_self_opened : self_opened.toInt = i_self_opened) (self_nested : Int32) (i_self_nested : Int) (hi_self_nested : self_nested.toInt = i_self_nested) (self_height : Int32) (i_self_height : Int) (hi_self_height : self_height.toInt = i_self_height) (self_made : Int32) (i_self_made : Int) (hi_self_made : self_made.toInt = i_self_made) (self_codeLength : Int32) (i_self_codeLength : Int) (hi_self_codeLength : self_codeLength.toInt = i_self_codeLength) (tape_length : Int32) (i_tape_length : Int) (hi_tape_length : tape_length.toInt = i_tape_length) (hv_self_compared : 0 ≤ i_self_compared ∧ i_self_compared ≤ 1) (hv_self_height : 0 ≤ i_self_height ∧ i_self_height ≤ 64) (hv_self_made : 0 ≤ i_self_made ∧ i_self_made ≤ 1000) (hv_self_codeLength : 0 ≤ i_self_codeLength ∧ i_self_codeLength ≤ 800) (hv_tape_length : 0 ≤ i_tape_length ∧ i_tape_length ≤ 800) : Met l yX1_nextToken wsX1_nextToken ({ frames := 6, cells := 0, slots := 0, locals := 133 }) (va_Pc [.ref A_self] (Pre0 D c ts [(A_self, .inr (1, [.ref A_tape, .int self_place, .int self_start, .int self_token, .int self_value, .int self_wanted, .int self_compared, .int self_opened, .int self_nested, .ref A_pile, .int self_height, .ref A_acts, .ref A_shares, .ref A_starts, .int self_made, .ref A_code, .int self_codeLength])), (A_tape, .inr (3, [.ref A_tape_bytes, .int tape_length])), (A_tape_bytes, .inl (c 0, 800, .inl f_tape_bytes))] sz)) (va_Qv (fun (u : Int32 × Int32 × Int32 × Int32 × Unit) => True) (fun u t => va_P D vwCl [(A_self, .inr (1, [.ref A_tape, .int u.1, .int u.2.1, .int u.2.2.1, .int u.2.2.2.1, .int self_wanted, .int self_compared, .int self_opened, .int self_nested, .ref A_pile, .int self_height, .ref A_acts, .ref A_shares, .ref A_starts, .int self_made, .ref A_code, .int self_codeLength])), (A_tape, .inr (3, [.ref A_tape_bytes, .int tape_length])), (A_tape_bytes, .inl (c 0, 800, .inl f_tape_bytes))] t.heap ∧ va_D (va_A [(A_self, .inr (1, [.ref A_tape, .int self_place, .int self_start, .int self_token, .int self_value, .int self_wanted, .int self_compared, .int self_opened, .int self_nested, .ref A_pile, .int self_height, .ref A_acts, .ref A_shares, .ref A_starts, .int self_made, .ref A_code, .int self_codeLength])), (A_tape, .inr (3, [.ref A_tape_bytes, .int tape_length])), (A_tape_bytes, .inl (c 0, 800, .inl f_tape_bytes))] sz) [(A_self, .inr (1, [.ref A_tape, .int u.1, .int u.2.1, .int u.2.2.1, .int u.2.2.2.1, .int self_wanted, .int self_compared, .int self_opened, .int self_nested, .ref A_pile, .int self_height, .ref A_acts, .ref A_shares, .ref A_starts, .int self_made, .ref A_code, .int self_codeLength])), (A_tape, .inr (3, [.ref A_tape_bytes, .int tape_length])), (A_tape_bytes, .inl (c 0, 800, .inl f_tape_bytes))]) (va_A [(A_self, .inr (1, [.ref A_tape, .int self_place, .int self_start, .int self_token, .int self_value, .int self_wanted, .int self_compared, .int self_opened, .int self_nested, .ref A_pile, .int self_height, .ref A_acts, .ref A_shares, .ref A_starts, .int self_made, .ref A_code, .int self_codeLength])), (A_tape, .inr (3, [.ref A_tape_bytes, .int tape_length])), (A_tape_bytes, .inl (c 0, 800, .inl f_tape_bytes))] sz)) 0 0 (va_A [(A_self, .inr (1, [.ref A_tape, .int self_place, .int self_start, .int self_token, .int self_value, .int self_wanted, .int self_compared, .int self_opened, .int self_nested, .ref A_pile, .int self_height, .ref A_acts, .ref A_shares, .ref A_starts, .int self_made, .ref A_code, .int self_codeLength])), (A_tape, .inr (3, [.ref A_tape_bytes, .int tape_length])), (A_tape_bytes, .inl (c 0, 800, .inl f_tape_bytes))] sz) := by
  refine Met.ofW (cc := cX1_nextToken) (maxL := 2) (ret := none) (by decide) rfl ?_
  intro p e s m args below meth cd s₁ B hml hv
  obtain ⟨rfl, hsz, hP, hD0, hAm, hSt⟩ := hv
  have hx := B.exec
  have hb := B.bytes
  have hr := B.returns
  have hts := atoms_spec (ws := wsX1_nextToken) B.pre
  have hown : s.vm.findClass RX1 = some m.cls := findClass_of_methodNamed B.named
  have hlocks := B.notSynchronized
  have hK := hAm.1
  subst hsz
  have hD := hD0.self (sz := s.heap.size)
  generalize hAe : va_A [(A_self, .inr (1, [.ref A_tape, .int self_place, .int self_start, .int self_token, .int self_value, .int self_wanted, .int self_compared, .int self_opened, .int self_nested, .ref A_pile, .int self_height, .ref A_acts, .ref A_shares, .ref A_starts, .int self_made, .ref A_code, .int self_codeLength])), (A_tape, .inr (3, [.ref A_tape_bytes, .int tape_length])), (A_tape_bytes, .inl (c 0, 800, .inl f_tape_bytes))] s.heap.size = A at hD hSt ⊢
  have hA : ∀ q : Nat, s.heap.size ≤ q → A q := fun q h => by rw [← hAe]; exact Or.inr h
  have hS : va_S A s.heap s.heap [] := va_S.rf
  clear hD0 hAe
  have hl := lv_entry ([.ref A_self]) (n := 2) (Nat.le_of_ble_eq_true rfl)
  rw [lg_entry_eq]
  generalize (lg_sl ([.ref A_self]) ++ List.replicate (2 - (lg_sl ([.ref A_self])).length) Slot.unset).toArray = ls at hl ⊢
  have hl : lv_has ls 2 [(0, .ref A_self)] := hl
  have rg_self_place := i32r self_place
  have rg_self_start := i32r self_start
  have rg_self_token := i32r self_token
  have rg_self_value := i32r self_value
  have rg_self_wanted := i32r self_wanted
  have rg_self_opened := i32r self_opened
  have rg_self_nested := i32r self_nested
  refine lv_aload_n hx hb dX1_nextToken_0 rfl (lv_at hl 0 rfl) ?_
  refine lv_aload_n hx hb dX1_nextToken_1 rfl (lv_at hl 0 rfl) ?_
  refine va_get (D := D) (ci := 1) (v := .int self_place) (C := RX1) (T := TX1) (N := 17) hx hb hts (fun _ h => List.mem_cons_of_mem _ (List.mem_append_left _ (List.mem_append_right _ h))) hown hK hP 0 rfl rfl 1 (by decide) (hts (.fieldLink RX1 31 "CrownTable$Reader" "place" "I") (mem_i 1 rfl)) (fun _ h9 => h9) rfl dX1_nextToken_2 ?_
  refine va_put (D := D) (ci := 1) (v := .int self_place) (ty := .int) (C := RX1) (T := TX1) (N := 17) hx hb hts (fun _ h => List.mem_cons_of_mem _ (List.mem_append_left _ (List.mem_append_right _ h))) tyX1 tyX1_ok nmX1 hown hK hP hD hS 0 rfl rfl 2 (by decide) (hts (.fieldLink RX1 78 "CrownTable$Reader" "start" "I") (mem_i 2 rfl)) (fun _ h9 => h9) rfl (by decide +kernel) rfl rfl (Nat.le_of_ble_eq_true rfl) dX1_nextToken_5 (fun H locs hP hD hS => ?_)
  have hP : va_P D vwCl [(A_self, .inr (1, [.ref A_tape, .int self_place, .int self_place, .int self_token, .int self_value, .int self_wanted, .int self_compared, .int self_opened, .int self_nested, .ref A_pile, .int self_height, .ref A_acts, .ref A_shares, .ref A_starts, .int self_made, .ref A_code, .int self_codeLength])), (A_tape, .inr (3, [.ref A_tape_bytes, .int tape_length])), (A_tape_bytes, .inl (c 0, 800, .inl f_tape_bytes))] H := hP
  have hD : va_D A [(A_self, .inr (1, [.ref A_tape, .int self_place, .int self_place, .int self_token, .int self_value, .int self_wanted, .int self_compared, .int self_opened, .int self_nested, .ref A_pile, .int self_height, .ref A_acts, .ref A_shares, .ref A_starts, .int self_made, .ref A_code, .int self_codeLength])), (A_tape, .inr (3, [.ref A_tape_bytes, .int tape_length])), (A_tape_bytes, .inl (c 0, 800, .inl f_tape_bytes))] := hD
  have lp_8 : ∀ (N : Nat) (M_self_start : Int32) (hN8 : (3000000000 - M_self_start.toInt).toNat = N) (H : Heap) (locs : List Loc) (ls : Array Slot), va_P D vwCl [(A_self, .inr (1, [.ref A_tape, .int self_place, .int M_self_start, .int self_token, .int self_value, .int self_wanted, .int self_compared, .int self_opened, .int self_nested, .ref A_pile, .int self_height, .ref A_acts, .ref A_shares, .ref A_starts, .int self_made, .ref A_code, .int self_codeLength])), (A_tape, .inr (3, [.ref A_tape_bytes, .int tape_length])), (A_tape_bytes, .inl (c 0, 800, .inl f_tape_bytes))] H → va_D A [(A_self, .inr (1, [.ref A_tape, .int self_place, .int M_self_start, .int self_token, .int self_value, .int self_wanted, .int self_compared, .int self_opened, .int self_nested, .ref A_pile, .int self_height, .ref A_acts, .ref A_shares, .ref A_starts, .int self_made, .ref A_code, .int self_codeLength])), (A_tape, .inr (3, [.ref A_tape_bytes, .int tape_length])), (A_tape_bytes, .inl (c 0, 800, .inl f_tape_bytes))] → va_S A s.heap H locs → lv_has ls 2 [(0, .ref A_self)] → W p l e (headSpec wsX1_nextToken ({ frames := 6, cells := 0, slots := 0, locals := 133 })).room s m (([.ref A_self] : List Value).toArray) below meth cd H locs 0 0 (MQ below (va_Qv (fun (u : Int32 × Int32 × Int32 × Int32 × Unit) => True) (fun u t => va_P D vwCl [(A_self, .inr (1, [.ref A_tape, .int u.1, .int u.2.1, .int u.2.2.1, .int u.2.2.2.1, .int self_wanted, .int self_compared, .int self_opened, .int self_nested, .ref A_pile, .int self_height, .ref A_acts, .ref A_shares, .ref A_starts, .int self_made, .ref A_code, .int self_codeLength])), (A_tape, .inr (3, [.ref A_tape_bytes, .int tape_length])), (A_tape_bytes, .inl (c 0, 800, .inl f_tape_bytes))] t.heap ∧ va_D A [(A_self, .inr (1, [.ref A_tape, .int u.1, .int u.2.1, .int u.2.2.1, .int u.2.2.2.1, .int self_wanted, .int self_compared, .int self_opened, .int self_nested, .ref A_pile, .int self_height, .ref A_acts, .ref A_shares, .ref A_starts, .int self_made, .ref A_code, .int self_codeLength])), (A_tape, .inr (3, [.ref A_tape_bytes, .int tape_length])), (A_tape_bytes, .inl (c 0, 800, .inl f_tape_bytes))]) A) ([.ref A_self] : List Value).toArray s 0 0 A) (F0 m 8 ls []) := by
    refine st_ind (fun N ih8 => ?_)
    intro M_self_start hN8 H locs ls hP hD hS hl
    have rg_M_self_start := i32r M_self_start
    refine lv_aload_n hx hb dX1_nextToken_8 rfl (lv_at hl 0 rfl) ?_
    refine va_get (D := D) (ci := 1) (v := .int M_self_start) (C := RX1) (T := TX1) (N := 17) hx hb hts (fun _ h => List.mem_cons_of_mem _ (List.mem_append_left _ (List.mem_append_right _ h))) hown hK hP 0 rfl rfl 2 (by decide) (hts (.fieldLink RX1 78 "CrownTable$Reader" "start" "I") (mem_i 2 rfl)) (fun _ h9 => h9) rfl dX1_nextToken_9 ?_
    refine lv_aload_n hx hb dX1_nextToken_12 rfl (lv_at hl 0 rfl) ?_
    refine va_get (D := D) (ci := 1) (v := .ref A_tape) (C := RX1) (T := TX1) (N := 17) hx hb hts (fun _ h => List.mem_cons_of_mem _ (List.mem_append_left _ (List.mem_append_right _ h))) hown hK hP 0 rfl rfl 0 (by decide) (hts (.fieldLink RX1 27 "CrownTable$Reader" "tape" "LCrownTable$Tape;") (mem_i 3 rfl)) (fun _ h9 => h9) rfl dX1_nextToken_13 ?_
    refine va_getN (D := D) (ci := 3) (v := .int tape_length) (own := RX1) (ref := "CrownTable$Tape") (host := RX6) (index := 81) (C := RX3) (T := TX3) (N := 2) hx hb hts (fun _ h => List.mem_cons_of_mem _ (List.mem_append_right _ h)) hown hK hP 1 rfl rfl 1 (by decide) (show (Cond.fieldLinkNest RX1 81 "CrownTable$Tape" "length" "I" RX6).before _ _ = true from va_Nw.use rfl (hAm.2.1.2 (RX1, 81, "CrownTable$Tape", "length", "I", RX6) (mem_i 1 rfl))) (fun _ h9 => h9) rfl dX1_nextToken_16 ?_
    refine iicmp_ge (a := M_self_start.toInt) (b := i_tape_length) (tgt := 52) hx hb rfl hi_tape_length dX1_nextToken_19 (by decide) (fun k_1 => ?_) (fun k_1 => ?_)
    · skip
      refine lv_aload_n hx hb dX1_nextToken_52 rfl (lv_at hl 0 rfl) ?_
      refine va_get (D := D) (ci := 1) (v := .ref A_tape) (C := RX1) (T := TX1) (N := 17) hx hb hts (fun _ h => List.mem_cons_of_mem _ (List.mem_append_left _ (List.mem_append_right _ h))) hown hK hP 0 rfl rfl 0 (by decide) (hts (.fieldLink RX1 27 "CrownTable$Reader" "tape" "LCrownTable$Tape;") (mem_i 3 rfl)) (fun _ h9 => h9) rfl dX1_nextToken_53 ?_
      refine lv_aload_n hx hb dX1_nextToken_56 rfl (lv_at hl 0 rfl) ?_
      refine va_get (D := D) (ci := 1) (v := .int M_self_start) (C := RX1) (T := TX1) (N := 17) hx hb hts (fun _ h => List.mem_cons_of_mem _ (List.mem_append_left _ (List.mem_append_right _ h))) hown hK hP 0 rfl rfl 2 (by decide) (hts (.fieldLink RX1 78 "CrownTable$Reader" "start" "I") (mem_i 2 rfl)) (fun _ h9 => h9) rfl dX1_nextToken_57 ?_
      have hPc := hP.sub (ws' := [(A_tape, .inr (3, [.ref A_tape_bytes, .int tape_length])), (A_tape_bytes, .inl (c 0, 800, .inl f_tape_bytes))]) [1, 2] rfl
      have hDc := hD.sub (ws' := [(A_tape, .inr (3, [.ref A_tape_bytes, .int tape_length])), (A_tape_bytes, .inl (c 0, 800, .inl f_tape_bytes))]) [1, 2] (by decide) rfl
      have hFc := va_free (wc := [(A_tape, .inr (3, [.ref A_tape_bytes, .int tape_length])), (A_tape_bytes, .inl (c 0, 800, .inl f_tape_bytes))]) hD hS hA [1, 2] rfl
      refine va_csi (va_runVN (As := [.int M_self_start]) (rest := []) ⟨hx, hb, hml, hown, hts⟩ (k_X3_byteAt l D c ts H.size A_tape_bytes A_tape f_tape_bytes tape_length i_tape_length hi_tape_length M_self_start M_self_start.toInt rfl (by omega)) ⟨va_cnB 1 hts gX1_nextToken_X3_byteAt_n86 rfl rfl rfl (show va_Nw (.methodLinkNest RX1 86 yX3_byteAt RX6) _ from hAm.2.1.1 (RX1, 86, yX3_byteAt, RX6) (mem_i 8 rfl)) (hts (.initialized RX3) (mem_i 7 rfl)) hdX3_byteAt ⟨(show 0 + 1 ≤ 6 by decide), (show 8 + (2 + 11) + 0 ≤ 133 by decide)⟩, (hts (.instanceMethod yX3_byteAt) (mem_i 6 rfl)), (hts (.selects RX3 yX3_byteAt yX3_byteAt) (mem_i 8 rfl))⟩ ⟨Pre0.blind, va_recv hK hPc (ci := 3) (q0 := 0) rfl rfl, Pre0.at hPc hDc hAm hSt hS hFc⟩ rfl rfl hl.1 rfl (lv_room (Nat.le_of_ble_eq_true rfl)) dX1_nextToken_60 ⟨(show 0 + 0 ≤ 0 by decide), (show 0 + 0 ≤ 0 by decide)⟩) (fun r_3 hw_2 => ?_)
      have rg_r_3 := i32r r_3
      refine lv_istore_n (lv' := [(1, .int r_3), (0, .ref A_self)]) hx hb dX1_nextToken_63 rfl hl (by decide) rfl (fun ls hl => ?_)
      refine lv_aload_n hx hb dX1_nextToken_64 rfl (lv_at hl 1 rfl) ?_
      refine lv_aload_n hx hb dX1_nextToken_65 rfl (lv_at hl 1 rfl) ?_
      refine va_get (D := D) (ci := 1) (v := .int M_self_start) (C := RX1) (T := TX1) (N := 17) hx hb hts (fun _ h => List.mem_cons_of_mem _ (List.mem_append_left _ (List.mem_append_right _ h))) hown hK hP 0 rfl rfl 2 (by decide) (hts (.fieldLink RX1 78 "CrownTable$Reader" "start" "I") (mem_i 2 rfl)) (fun _ h9 => h9) rfl dX1_nextToken_66 ?_
      refine lv_iconst (v := 1) hx hb dX1_nextToken_69 (by decide) ?_
      refine lv_iadd hx hb dX1_nextToken_70 ?_
      refine lv_topi (fun x_4 ex_4 => ?_)
      refine va_put (D := D) (ci := 1) (v := .int x_4) (ty := .int) (C := RX1) (T := TX1) (N := 17) hx hb hts (fun _ h => List.mem_cons_of_mem _ (List.mem_append_left _ (List.mem_append_right _ h))) tyX1 tyX1_ok nmX1 hown hK hP hD hS 0 rfl rfl 1 (by decide) (hts (.fieldLink RX1 31 "CrownTable$Reader" "place" "I") (mem_i 1 rfl)) (fun _ h9 => h9) rfl (by decide +kernel) rfl rfl (Nat.le_of_ble_eq_true rfl) dX1_nextToken_71 (fun H locs hP hD hS => ?_)
      have hP : va_P D vwCl [(A_self, .inr (1, [.ref A_tape, .int x_4, .int M_self_start, .int self_token, .int self_value, .int self_wanted, .int self_compared, .int self_opened, .int self_nested, .ref A_pile, .int self_height, .ref A_acts, .ref A_shares, .ref A_starts, .int self_made, .ref A_code, .int self_codeLength])), (A_tape, .inr (3, [.ref A_tape_bytes, .int tape_length])), (A_tape_bytes, .inl (c 0, 800, .inl f_tape_bytes))] H := hP
      have hD : va_D A [(A_self, .inr (1, [.ref A_tape, .int x_4, .int M_self_start, .int self_token, .int self_value, .int self_wanted, .int self_compared, .int self_opened, .int self_nested, .ref A_pile, .int self_height, .ref A_acts, .ref A_shares, .ref A_starts, .int self_made, .ref A_code, .int self_codeLength])), (A_tape, .inr (3, [.ref A_tape_bytes, .int tape_length])), (A_tape_bytes, .inl (c 0, 800, .inl f_tape_bytes))] := hD
      refine lv_iload_n hx hb dX1_nextToken_74 rfl (lv_at hl 0 rfl) ?_
      have hPc := hP.sub (ws' := []) [] rfl
      have hDc := hD.sub (ws' := []) [] (by decide) rfl
      have hFc := va_free (wc := []) hD hS hA [] rfl
      refine va_csi (va_runS (As := [.int r_3]) (rest := []) ⟨hx, hb, hml, hown, hts⟩ (k_X1_isLetter l D c ts H.size r_3 r_3.toInt rfl) (cwS 1 hts gX1_nextToken_X1_isLetter rfl rfl rfl ⟨rfl, hdX1_isLetter⟩ ⟨(show 0 + 1 ≤ 6 by decide), (show 8 + (1 + 11) + 0 ≤ 133 by decide)⟩) ⟨Pre0.blind, Pre0.at hPc hDc hAm hSt hS hFc⟩ rfl rfl hl.1 rfl (lv_room (Nat.le_of_ble_eq_true rfl)) dX1_nextToken_75 ⟨(show 0 + 0 ≤ 0 by decide), (show 0 + 0 ≤ 0 by decide)⟩) (fun r_6 hw_5 => ?_)
      rcases hw_5 with ⟨hw_5, rfl⟩ | ⟨hw_5, rfl⟩
      · skip
        refine iif_eqF (a := 1) (tgt := 144) hx hb (by decide) dX1_nextToken_78 (by decide) (by decide) ?_
        have lp_81 : ∀ (N : Nat) (M_self_place : Int32) (hN81 : (3000000000 - M_self_place.toInt).toNat = N) (H : Heap) (locs : List Loc) (ls : Array Slot), va_P D vwCl [(A_self, .inr (1, [.ref A_tape, .int M_self_place, .int M_self_start, .int self_token, .int self_value, .int self_wanted, .int self_compared, .int self_opened, .int self_nested, .ref A_pile, .int self_height, .ref A_acts, .ref A_shares, .ref A_starts, .int self_made, .ref A_code, .int self_codeLength])), (A_tape, .inr (3, [.ref A_tape_bytes, .int tape_length])), (A_tape_bytes, .inl (c 0, 800, .inl f_tape_bytes))] H → va_D A [(A_self, .inr (1, [.ref A_tape, .int M_self_place, .int M_self_start, .int self_token, .int self_value, .int self_wanted, .int self_compared, .int self_opened, .int self_nested, .ref A_pile, .int self_height, .ref A_acts, .ref A_shares, .ref A_starts, .int self_made, .ref A_code, .int self_codeLength])), (A_tape, .inr (3, [.ref A_tape_bytes, .int tape_length])), (A_tape_bytes, .inl (c 0, 800, .inl f_tape_bytes))] → va_S A s.heap H locs → lv_has ls 2 [(1, .int r_3), (0, .ref A_self)] → W p l e (headSpec wsX1_nextToken ({ frames := 6, cells := 0, slots := 0, locals := 133 })).room s m (([.ref A_self] : List Value).toArray) below meth cd H locs 0 0 (MQ below (va_Qv (fun (u : Int32 × Int32 × Int32 × Int32 × Unit) => True) (fun u t => va_P D vwCl [(A_self, .inr (1, [.ref A_tape, .int u.1, .int u.2.1, .int u.2.2.1, .int u.2.2.2.1, .int self_wanted, .int self_compared, .int self_opened, .int self_nested, .ref A_pile, .int self_height, .ref A_acts, .ref A_shares, .ref A_starts, .int self_made, .ref A_code, .int self_codeLength])), (A_tape, .inr (3, [.ref A_tape_bytes, .int tape_length])), (A_tape_bytes, .inl (c 0, 800, .inl f_tape_bytes))] t.heap ∧ va_D A [(A_self, .inr (1, [.ref A_tape, .int u.1, .int u.2.1, .int u.2.2.1, .int u.2.2.2.1, .int self_wanted, .int self_compared, .int self_opened, .int self_nested, .ref A_pile, .int self_height, .ref A_acts, .ref A_shares, .ref A_starts, .int self_made, .ref A_code, .int self_codeLength])), (A_tape, .inr (3, [.ref A_tape_bytes, .int tape_length])), (A_tape_bytes, .inl (c 0, 800, .inl f_tape_bytes))]) A) ([.ref A_self] : List Value).toArray s 0 0 A) (F0 m 81 ls []) := by
          refine st_ind (fun N ih81 => ?_)
          intro M_self_place hN81 H locs ls hP hD hS hl
          have rg_M_self_place := i32r M_self_place
          refine lv_aload_n hx hb dX1_nextToken_81 rfl (lv_at hl 1 rfl) ?_
          refine va_get (D := D) (ci := 1) (v := .int M_self_place) (C := RX1) (T := TX1) (N := 17) hx hb hts (fun _ h => List.mem_cons_of_mem _ (List.mem_append_left _ (List.mem_append_right _ h))) hown hK hP 0 rfl rfl 1 (by decide) (hts (.fieldLink RX1 31 "CrownTable$Reader" "place" "I") (mem_i 1 rfl)) (fun _ h9 => h9) rfl dX1_nextToken_82 ?_
          refine lv_aload_n hx hb dX1_nextToken_85 rfl (lv_at hl 1 rfl) ?_
          refine va_get (D := D) (ci := 1) (v := .ref A_tape) (C := RX1) (T := TX1) (N := 17) hx hb hts (fun _ h => List.mem_cons_of_mem _ (List.mem_append_left _ (List.mem_append_right _ h))) hown hK hP 0 rfl rfl 0 (by decide) (hts (.fieldLink RX1 27 "CrownTable$Reader" "tape" "LCrownTable$Tape;") (mem_i 3 rfl)) (fun _ h9 => h9) rfl dX1_nextToken_86 ?_
          refine va_getN (D := D) (ci := 3) (v := .int tape_length) (own := RX1) (ref := "CrownTable$Tape") (host := RX6) (index := 81) (C := RX3) (T := TX3) (N := 2) hx hb hts (fun _ h => List.mem_cons_of_mem _ (List.mem_append_right _ h)) hown hK hP 1 rfl rfl 1 (by decide) (show (Cond.fieldLinkNest RX1 81 "CrownTable$Tape" "length" "I" RX6).before _ _ = true from va_Nw.use rfl (hAm.2.1.2 (RX1, 81, "CrownTable$Tape", "length", "I", RX6) (mem_i 1 rfl))) (fun _ h9 => h9) rfl dX1_nextToken_89 ?_
          refine iicmp_ge (a := M_self_place.toInt) (b := i_tape_length) (tgt := 125) hx hb rfl hi_tape_length dX1_nextToken_92 (by decide) (fun k_7 => ?_) (fun k_7 => ?_)
          · skip
            refine lv_aload_n hx hb dX1_nextToken_125 rfl (lv_at hl 1 rfl) ?_
            refine lv_aload_n hx hb dX1_nextToken_126 rfl (lv_at hl 1 rfl) ?_
            refine lv_aload_n hx hb dX1_nextToken_127 rfl (lv_at hl 1 rfl) ?_
            refine va_get (D := D) (ci := 1) (v := .int M_self_start) (C := RX1) (T := TX1) (N := 17) hx hb hts (fun _ h => List.mem_cons_of_mem _ (List.mem_append_left _ (List.mem_append_right _ h))) hown hK hP 0 rfl rfl 2 (by decide) (hts (.fieldLink RX1 78 "CrownTable$Reader" "start" "I") (mem_i 2 rfl)) (fun _ h9 => h9) rfl dX1_nextToken_128 ?_
            refine lv_aload_n hx hb dX1_nextToken_131 rfl (lv_at hl 1 rfl) ?_
            refine va_get (D := D) (ci := 1) (v := .int M_self_place) (C := RX1) (T := TX1) (N := 17) hx hb hts (fun _ h => List.mem_cons_of_mem _ (List.mem_append_left _ (List.mem_append_right _ h))) hown hK hP 0 rfl rfl 1 (by decide) (hts (.fieldLink RX1 31 "CrownTable$Reader" "place" "I") (mem_i 1 rfl)) (fun _ h9 => h9) rfl dX1_nextToken_132 ?_
            have hPc := hP.sub (ws' := [(A_self, .inr (1, [.ref A_tape, .int M_self_place, .int M_self_start, .int self_token, .int self_value, .int self_wanted, .int self_compared, .int self_opened, .int self_nested, .ref A_pile, .int self_height, .ref A_acts, .ref A_shares, .ref A_starts, .int self_made, .ref A_code, .int self_codeLength])), (A_tape, .inr (3, [.ref A_tape_bytes, .int tape_length])), (A_tape_bytes, .inl (c 0, 800, .inl f_tape_bytes))]) [0, 1, 2] rfl
            have hDc := hD.sub (ws' := [(A_self, .inr (1, [.ref A_tape, .int M_self_place, .int M_self_start, .int self_token, .int self_value, .int self_wanted, .int self_compared, .int self_opened, .int self_nested, .ref A_pile, .int self_height, .ref A_acts, .ref A_shares, .ref A_starts, .int self_made, .ref A_code, .int self_codeLength])), (A_tape, .inr (3, [.ref A_tape_bytes, .int tape_length])), (A_tape_bytes, .inl (c 0, 800, .inl f_tape_bytes))]) [0, 1, 2] (by decide) rfl
            have hFc := va_free (wc := [(A_self, .inr (1, [.ref A_tape, .int M_self_place, .int M_self_start, .int self_token, .int self_value, .int self_wanted, .int self_compared, .int self_opened, .int self_nested, .ref A_pile, .int self_height, .ref A_acts, .ref A_shares, .ref A_starts, .int self_made, .ref A_code, .int self_codeLength])), (A_tape, .inr (3, [.ref A_tape_bytes, .int tape_length])), (A_tape_bytes, .inl (c 0, 800, .inl f_tape_bytes))]) hD hS hA [0, 1, 2] rfl
            refine va_csi (va_runV (As := [.int M_self_start, .int M_self_place]) (rest := [.ref A_self]) ⟨hx, hb, hml, hown, hts⟩ (k_X1_wordAt l D c ts H.size A_tape A_pile A_acts A_shares A_starts A_code A_self A_tape_bytes f_tape_bytes M_self_place M_self_place.toInt rfl M_self_start M_self_start.toInt rfl self_token i_self_token hi_self_token self_value i_self_value hi_self_value self_wanted i_self_wanted hi_self_wanted self_compared i_self_compared hi_self_compared self_opened i_self_opened hi_self_opened self_nested i_self_nested hi_self_nested self_height i_self_height hi_self_height self_made i_self_made hi_self_made self_codeLength i_self_codeLength hi_self_codeLength tape_length i_tape_length hi_tape_length M_self_start M_self_start.toInt rfl M_self_place M_self_place.toInt rfl (by omega) (by omega) (by omega) (by omega) (by omega)) (cwV 2 hts gX1_nextToken_X1_wordAt rfl rfl rfl ⟨rfl, hdX1_wordAt⟩ ⟨(show 5 + 1 ≤ 6 by decide), (show 8 + (4 + 11) + 110 ≤ 133 by decide)⟩) ⟨Pre0.blind, va_recv hK hPc (ci := 1) (q0 := 0) rfl rfl, Pre0.at hPc hDc hAm hSt hS hFc⟩ rfl rfl hl.1 rfl (lv_room (Nat.le_of_ble_eq_true rfl)) dX1_nextToken_135 ⟨(show 0 + 0 ≤ 0 by decide), (show 0 + 0 ≤ 0 by decide)⟩) (fun r_9 hw_8 => ?_)
            have rg_r_9 := i32r r_9
            refine va_put (D := D) (ci := 1) (v := .int r_9) (ty := .int) (C := RX1) (T := TX1) (N := 17) hx hb hts (fun _ h => List.mem_cons_of_mem _ (List.mem_append_left _ (List.mem_append_right _ h))) tyX1 tyX1_ok nmX1 hown hK hP hD hS 0 rfl rfl 3 (by decide) (hts (.fieldLink RX1 60 "CrownTable$Reader" "token" "I") (mem_i 4 rfl)) (fun _ h9 => h9) rfl (by decide +kernel) rfl rfl (Nat.le_of_ble_eq_true rfl) dX1_nextToken_138 (fun H locs hP hD hS => ?_)
            have hP : va_P D vwCl [(A_self, .inr (1, [.ref A_tape, .int M_self_place, .int M_self_start, .int r_9, .int self_value, .int self_wanted, .int self_compared, .int self_opened, .int self_nested, .ref A_pile, .int self_height, .ref A_acts, .ref A_shares, .ref A_starts, .int self_made, .ref A_code, .int self_codeLength])), (A_tape, .inr (3, [.ref A_tape_bytes, .int tape_length])), (A_tape_bytes, .inl (c 0, 800, .inl f_tape_bytes))] H := hP
            have hD : va_D A [(A_self, .inr (1, [.ref A_tape, .int M_self_place, .int M_self_start, .int r_9, .int self_value, .int self_wanted, .int self_compared, .int self_opened, .int self_nested, .ref A_pile, .int self_height, .ref A_acts, .ref A_shares, .ref A_starts, .int self_made, .ref A_code, .int self_codeLength])), (A_tape, .inr (3, [.ref A_tape_bytes, .int tape_length])), (A_tape_bytes, .inl (c 0, 800, .inl f_tape_bytes))] := hD
            refine lv_goto (tgt := 242) hx hb dX1_nextToken_141 (by decide) ?_
            have hP9 := hP.sub (ws' := [(A_self, .inr (1, [.ref A_tape, .int M_self_place, .int M_self_start, .int r_9, .int self_value, .int self_wanted, .int self_compared, .int self_opened, .int self_nested, .ref A_pile, .int self_height, .ref A_acts, .ref A_shares, .ref A_starts, .int self_made, .ref A_code, .int self_codeLength])), (A_tape, .inr (3, [.ref A_tape_bytes, .int tape_length])), (A_tape_bytes, .inl (c 0, 800, .inl f_tape_bytes))]) [0, 1, 2] rfl
            have hD9 := hD.sub (ws' := [(A_self, .inr (1, [.ref A_tape, .int M_self_place, .int M_self_start, .int r_9, .int self_value, .int self_wanted, .int self_compared, .int self_opened, .int self_nested, .ref A_pile, .int self_height, .ref A_acts, .ref A_shares, .ref A_starts, .int self_made, .ref A_code, .int self_codeLength])), (A_tape, .inr (3, [.ref A_tape_bytes, .int tape_length])), (A_tape_bytes, .inl (c 0, 800, .inl f_tape_bytes))]) [0, 1, 2] (by decide) rfl
            refine W.widen (k := 0) (n := 0) (by omega) (by omega) ?_
            exact W.vret hx hb hr (fun t ht hW => ⟨⟨(M_self_place, M_self_start, r_9, self_value, ()), rfl, trivial, ⟨by rw [ht]; exact hP9, hD9⟩⟩, hS.F ht⟩) hS.2.2 dX1_nextToken_242
          · skip
            refine lv_aload_n hx hb dX1_nextToken_95 rfl (lv_at hl 1 rfl) ?_
            refine va_get (D := D) (ci := 1) (v := .ref A_tape) (C := RX1) (T := TX1) (N := 17) hx hb hts (fun _ h => List.mem_cons_of_mem _ (List.mem_append_left _ (List.mem_append_right _ h))) hown hK hP 0 rfl rfl 0 (by decide) (hts (.fieldLink RX1 27 "CrownTable$Reader" "tape" "LCrownTable$Tape;") (mem_i 3 rfl)) (fun _ h9 => h9) rfl dX1_nextToken_96 ?_
            refine lv_aload_n hx hb dX1_nextToken_99 rfl (lv_at hl 1 rfl) ?_
            refine va_get (D := D) (ci := 1) (v := .int M_self_place) (C := RX1) (T := TX1) (N := 17) hx hb hts (fun _ h => List.mem_cons_of_mem _ (List.mem_append_left _ (List.mem_append_right _ h))) hown hK hP 0 rfl rfl 1 (by decide) (hts (.fieldLink RX1 31 "CrownTable$Reader" "place" "I") (mem_i 1 rfl)) (fun _ h9 => h9) rfl dX1_nextToken_100 ?_
            have hPc := hP.sub (ws' := [(A_tape, .inr (3, [.ref A_tape_bytes, .int tape_length])), (A_tape_bytes, .inl (c 0, 800, .inl f_tape_bytes))]) [1, 2] rfl
            have hDc := hD.sub (ws' := [(A_tape, .inr (3, [.ref A_tape_bytes, .int tape_length])), (A_tape_bytes, .inl (c 0, 800, .inl f_tape_bytes))]) [1, 2] (by decide) rfl
            have hFc := va_free (wc := [(A_tape, .inr (3, [.ref A_tape_bytes, .int tape_length])), (A_tape_bytes, .inl (c 0, 800, .inl f_tape_bytes))]) hD hS hA [1, 2] rfl
            refine va_csi (va_runVN (As := [.int M_self_place]) (rest := []) ⟨hx, hb, hml, hown, hts⟩ (k_X3_byteAt l D c ts H.size A_tape_bytes A_tape f_tape_bytes tape_length i_tape_length hi_tape_length M_self_place M_self_place.toInt rfl (by omega)) ⟨va_cnB 1 hts gX1_nextToken_X3_byteAt_n86 rfl rfl rfl (show va_Nw (.methodLinkNest RX1 86 yX3_byteAt RX6) _ from hAm.2.1.1 (RX1, 86, yX3_byteAt, RX6) (mem_i 8 rfl)) (hts (.initialized RX3) (mem_i 7 rfl)) hdX3_byteAt ⟨(show 0 + 1 ≤ 6 by decide), (show 8 + (2 + 11) + 0 ≤ 133 by decide)⟩, (hts (.instanceMethod yX3_byteAt) (mem_i 6 rfl)), (hts (.selects RX3 yX3_byteAt yX3_byteAt) (mem_i 8 rfl))⟩ ⟨Pre0.blind, va_recv hK hPc (ci := 3) (q0 := 0) rfl rfl, Pre0.at hPc hDc hAm hSt hS hFc⟩ rfl rfl hl.1 rfl (lv_room (Nat.le_of_ble_eq_true rfl)) dX1_nextToken_103 ⟨(show 0 + 0 ≤ 0 by decide), (show 0 + 0 ≤ 0 by decide)⟩) (fun r_11 hw_10 => ?_)
            have rg_r_11 := i32r r_11
            have hPc := hP.sub (ws' := []) [] rfl
            have hDc := hD.sub (ws' := []) [] (by decide) rfl
            have hFc := va_free (wc := []) hD hS hA [] rfl
            refine va_csi (va_runS (As := [.int r_11]) (rest := []) ⟨hx, hb, hml, hown, hts⟩ (k_X1_isLetter l D c ts H.size r_11 r_11.toInt rfl) (cwS 1 hts gX1_nextToken_X1_isLetter rfl rfl rfl ⟨rfl, hdX1_isLetter⟩ ⟨(show 0 + 1 ≤ 6 by decide), (show 8 + (1 + 11) + 0 ≤ 133 by decide)⟩) ⟨Pre0.blind, Pre0.at hPc hDc hAm hSt hS hFc⟩ rfl rfl hl.1 rfl (lv_room (Nat.le_of_ble_eq_true rfl)) dX1_nextToken_106 ⟨(show 0 + 0 ≤ 0 by decide), (show 0 + 0 ≤ 0 by decide)⟩) (fun r_13 hw_12 => ?_)
            rcases hw_12 with ⟨hw_12, rfl⟩ | ⟨hw_12, rfl⟩
            · skip
              refine iif_eqF (a := 1) (tgt := 125) hx hb (by decide) dX1_nextToken_109 (by decide) (by decide) ?_
              refine lv_aload_n hx hb dX1_nextToken_112 rfl (lv_at hl 1 rfl) ?_
              refine lv_dup hx hb dX1_nextToken_113 rfl ?_
              refine va_get (D := D) (ci := 1) (v := .int M_self_place) (C := RX1) (T := TX1) (N := 17) hx hb hts (fun _ h => List.mem_cons_of_mem _ (List.mem_append_left _ (List.mem_append_right _ h))) hown hK hP 0 rfl rfl 1 (by decide) (hts (.fieldLink RX1 31 "CrownTable$Reader" "place" "I") (mem_i 1 rfl)) (fun _ h9 => h9) rfl dX1_nextToken_114 ?_
              refine lv_iconst (v := 1) hx hb dX1_nextToken_117 (by decide) ?_
              refine lv_iadd hx hb dX1_nextToken_118 ?_
              refine lv_topi (fun x_14 ex_14 => ?_)
              have tx_14 : x_14.toInt = (M_self_place.toInt + 1) := by rw [ex_14]; exact add_ti (a := M_self_place.toInt) (b := 1) rfl (by decide) (by omega) (by omega)
              refine va_put (D := D) (ci := 1) (v := .int x_14) (ty := .int) (C := RX1) (T := TX1) (N := 17) hx hb hts (fun _ h => List.mem_cons_of_mem _ (List.mem_append_left _ (List.mem_append_right _ h))) tyX1 tyX1_ok nmX1 hown hK hP hD hS 0 rfl rfl 1 (by decide) (hts (.fieldLink RX1 31 "CrownTable$Reader" "place" "I") (mem_i 1 rfl)) (fun _ h9 => h9) rfl (by decide +kernel) rfl rfl (Nat.le_of_ble_eq_true rfl) dX1_nextToken_119 (fun H locs hP hD hS => ?_)
              have hP : va_P D vwCl [(A_self, .inr (1, [.ref A_tape, .int x_14, .int M_self_start, .int self_token, .int self_value, .int self_wanted, .int self_compared, .int self_opened, .int self_nested, .ref A_pile, .int self_height, .ref A_acts, .ref A_shares, .ref A_starts, .int self_made, .ref A_code, .int self_codeLength])), (A_tape, .inr (3, [.ref A_tape_bytes, .int tape_length])), (A_tape_bytes, .inl (c 0, 800, .inl f_tape_bytes))] H := hP
              have hD : va_D A [(A_self, .inr (1, [.ref A_tape, .int x_14, .int M_self_start, .int self_token, .int self_value, .int self_wanted, .int self_compared, .int self_opened, .int self_nested, .ref A_pile, .int self_height, .ref A_acts, .ref A_shares, .ref A_starts, .int self_made, .ref A_code, .int self_codeLength])), (A_tape, .inr (3, [.ref A_tape_bytes, .int tape_length])), (A_tape_bytes, .inl (c 0, 800, .inl f_tape_bytes))] := hD
              refine lv_goto (tgt := 81) hx hb dX1_nextToken_122 (by decide) ?_
              exact (ih81 ((3000000000 - x_14.toInt).toNat) (by omega) x_14 rfl _ _ _ hP hD hS hl)
            · skip
              refine iif_eqT (a := 0) (tgt := 125) hx hb (by decide) dX1_nextToken_109 (by decide) (by decide) ?_
              refine lv_aload_n hx hb dX1_nextToken_125 rfl (lv_at hl 1 rfl) ?_
              refine lv_aload_n hx hb dX1_nextToken_126 rfl (lv_at hl 1 rfl) ?_
              refine lv_aload_n hx hb dX1_nextToken_127 rfl (lv_at hl 1 rfl) ?_
              refine va_get (D := D) (ci := 1) (v := .int M_self_start) (C := RX1) (T := TX1) (N := 17) hx hb hts (fun _ h => List.mem_cons_of_mem _ (List.mem_append_left _ (List.mem_append_right _ h))) hown hK hP 0 rfl rfl 2 (by decide) (hts (.fieldLink RX1 78 "CrownTable$Reader" "start" "I") (mem_i 2 rfl)) (fun _ h9 => h9) rfl dX1_nextToken_128 ?_
              refine lv_aload_n hx hb dX1_nextToken_131 rfl (lv_at hl 1 rfl) ?_
              refine va_get (D := D) (ci := 1) (v := .int M_self_place) (C := RX1) (T := TX1) (N := 17) hx hb hts (fun _ h => List.mem_cons_of_mem _ (List.mem_append_left _ (List.mem_append_right _ h))) hown hK hP 0 rfl rfl 1 (by decide) (hts (.fieldLink RX1 31 "CrownTable$Reader" "place" "I") (mem_i 1 rfl)) (fun _ h9 => h9) rfl dX1_nextToken_132 ?_
              have hPc := hP.sub (ws' := [(A_self, .inr (1, [.ref A_tape, .int M_self_place, .int M_self_start, .int self_token, .int self_value, .int self_wanted, .int self_compared, .int self_opened, .int self_nested, .ref A_pile, .int self_height, .ref A_acts, .ref A_shares, .ref A_starts, .int self_made, .ref A_code, .int self_codeLength])), (A_tape, .inr (3, [.ref A_tape_bytes, .int tape_length])), (A_tape_bytes, .inl (c 0, 800, .inl f_tape_bytes))]) [0, 1, 2] rfl
              have hDc := hD.sub (ws' := [(A_self, .inr (1, [.ref A_tape, .int M_self_place, .int M_self_start, .int self_token, .int self_value, .int self_wanted, .int self_compared, .int self_opened, .int self_nested, .ref A_pile, .int self_height, .ref A_acts, .ref A_shares, .ref A_starts, .int self_made, .ref A_code, .int self_codeLength])), (A_tape, .inr (3, [.ref A_tape_bytes, .int tape_length])), (A_tape_bytes, .inl (c 0, 800, .inl f_tape_bytes))]) [0, 1, 2] (by decide) rfl
              have hFc := va_free (wc := [(A_self, .inr (1, [.ref A_tape, .int M_self_place, .int M_self_start, .int self_token, .int self_value, .int self_wanted, .int self_compared, .int self_opened, .int self_nested, .ref A_pile, .int self_height, .ref A_acts, .ref A_shares, .ref A_starts, .int self_made, .ref A_code, .int self_codeLength])), (A_tape, .inr (3, [.ref A_tape_bytes, .int tape_length])), (A_tape_bytes, .inl (c 0, 800, .inl f_tape_bytes))]) hD hS hA [0, 1, 2] rfl
              refine va_csi (va_runV (As := [.int M_self_start, .int M_self_place]) (rest := [.ref A_self]) ⟨hx, hb, hml, hown, hts⟩ (k_X1_wordAt l D c ts H.size A_tape A_pile A_acts A_shares A_starts A_code A_self A_tape_bytes f_tape_bytes M_self_place M_self_place.toInt rfl M_self_start M_self_start.toInt rfl self_token i_self_token hi_self_token self_value i_self_value hi_self_value self_wanted i_self_wanted hi_self_wanted self_compared i_self_compared hi_self_compared self_opened i_self_opened hi_self_opened self_nested i_self_nested hi_self_nested self_height i_self_height hi_self_height self_made i_self_made hi_self_made self_codeLength i_self_codeLength hi_self_codeLength tape_length i_tape_length hi_tape_length M_self_start M_self_start.toInt rfl M_self_place M_self_place.toInt rfl (by omega) (by omega) (by omega) (by omega) (by omega)) (cwV 2 hts gX1_nextToken_X1_wordAt rfl rfl rfl ⟨rfl, hdX1_wordAt⟩ ⟨(show 5 + 1 ≤ 6 by decide), (show 8 + (4 + 11) + 110 ≤ 133 by decide)⟩) ⟨Pre0.blind, va_recv hK hPc (ci := 1) (q0 := 0) rfl rfl, Pre0.at hPc hDc hAm hSt hS hFc⟩ rfl rfl hl.1 rfl (lv_room (Nat.le_of_ble_eq_true rfl)) dX1_nextToken_135 ⟨(show 0 + 0 ≤ 0 by decide), (show 0 + 0 ≤ 0 by decide)⟩) (fun r_16 hw_15 => ?_)
              have rg_r_16 := i32r r_16
              refine va_put (D := D) (ci := 1) (v := .int r_16) (ty := .int) (C := RX1) (T := TX1) (N := 17) hx hb hts (fun _ h => List.mem_cons_of_mem _ (List.mem_append_left _ (List.mem_append_right _ h))) tyX1 tyX1_ok nmX1 hown hK hP hD hS 0 rfl rfl 3 (by decide) (hts (.fieldLink RX1 60 "CrownTable$Reader" "token" "I") (mem_i 4 rfl)) (fun _ h9 => h9) rfl (by decide +kernel) rfl rfl (Nat.le_of_ble_eq_true rfl) dX1_nextToken_138 (fun H locs hP hD hS => ?_)
              have hP : va_P D vwCl [(A_self, .inr (1, [.ref A_tape, .int M_self_place, .int M_self_start, .int r_16, .int self_value, .int self_wanted, .int self_compared, .int self_opened, .int self_nested, .ref A_pile, .int self_height, .ref A_acts, .ref A_shares, .ref A_starts, .int self_made, .ref A_code, .int self_codeLength])), (A_tape, .inr (3, [.ref A_tape_bytes, .int tape_length])), (A_tape_bytes, .inl (c 0, 800, .inl f_tape_bytes))] H := hP
              have hD : va_D A [(A_self, .inr (1, [.ref A_tape, .int M_self_place, .int M_self_start, .int r_16, .int self_value, .int self_wanted, .int self_compared, .int self_opened, .int self_nested, .ref A_pile, .int self_height, .ref A_acts, .ref A_shares, .ref A_starts, .int self_made, .ref A_code, .int self_codeLength])), (A_tape, .inr (3, [.ref A_tape_bytes, .int tape_length])), (A_tape_bytes, .inl (c 0, 800, .inl f_tape_bytes))] := hD
              refine lv_goto (tgt := 242) hx hb dX1_nextToken_141 (by decide) ?_
              have hP9 := hP.sub (ws' := [(A_self, .inr (1, [.ref A_tape, .int M_self_place, .int M_self_start, .int r_16, .int self_value, .int self_wanted, .int self_compared, .int self_opened, .int self_nested, .ref A_pile, .int self_height, .ref A_acts, .ref A_shares, .ref A_starts, .int self_made, .ref A_code, .int self_codeLength])), (A_tape, .inr (3, [.ref A_tape_bytes, .int tape_length])), (A_tape_bytes, .inl (c 0, 800, .inl f_tape_bytes))]) [0, 1, 2] rfl
              have hD9 := hD.sub (ws' := [(A_self, .inr (1, [.ref A_tape, .int M_self_place, .int M_self_start, .int r_16, .int self_value, .int self_wanted, .int self_compared, .int self_opened, .int self_nested, .ref A_pile, .int self_height, .ref A_acts, .ref A_shares, .ref A_starts, .int self_made, .ref A_code, .int self_codeLength])), (A_tape, .inr (3, [.ref A_tape_bytes, .int tape_length])), (A_tape_bytes, .inl (c 0, 800, .inl f_tape_bytes))]) [0, 1, 2] (by decide) rfl
              refine W.widen (k := 0) (n := 0) (by omega) (by omega) ?_
              exact W.vret hx hb hr (fun t ht hW => ⟨⟨(M_self_place, M_self_start, r_16, self_value, ()), rfl, trivial, ⟨by rw [ht]; exact hP9, hD9⟩⟩, hS.F ht⟩) hS.2.2 dX1_nextToken_242
        exact (lp_81 _ x_4 rfl _ _ _ hP hD hS hl)
      · skip
        refine iif_eqT (a := 0) (tgt := 144) hx hb (by decide) dX1_nextToken_78 (by decide) (by decide) ?_
        refine lv_iload_n hx hb dX1_nextToken_144 rfl (lv_at hl 0 rfl) ?_
        have hPc := hP.sub (ws' := []) [] rfl
        have hDc := hD.sub (ws' := []) [] (by decide) rfl
        have hFc := va_free (wc := []) hD hS hA [] rfl
        refine va_csi (va_runS (As := [.int r_3]) (rest := []) ⟨hx, hb, hml, hown, hts⟩ (k_X1_isDigit l D c ts H.size r_3 r_3.toInt rfl) (cwS 1 hts gX1_nextToken_X1_isDigit rfl rfl rfl ⟨rfl, hdX1_isDigit⟩ ⟨(show 0 + 1 ≤ 6 by decide), (show 8 + (1 + 11) + 0 ≤ 133 by decide)⟩) ⟨Pre0.blind, Pre0.at hPc hDc hAm hSt hS hFc⟩ rfl rfl hl.1 rfl (lv_room (Nat.le_of_ble_eq_true rfl)) dX1_nextToken_145 ⟨(show 0 + 0 ≤ 0 by decide), (show 0 + 0 ≤ 0 by decide)⟩) (fun r_18 hw_17 => ?_)
        rcases hw_17 with ⟨hw_17, rfl⟩ | ⟨hw_17, rfl⟩
        · skip
          refine iif_eqF (a := 1) (tgt := 220) hx hb (by decide) dX1_nextToken_148 (by decide) (by decide) ?_
          have lp_151 : ∀ (N : Nat) (M_self_place : Int32) (hN151 : (3000000000 - M_self_place.toInt).toNat = N) (H : Heap) (locs : List Loc) (ls : Array Slot), va_P D vwCl [(A_self, .inr (1, [.ref A_tape, .int M_self_place, .int M_self_start, .int self_token, .int self_value, .int self_wanted, .int self_compared, .int self_opened, .int self_nested, .ref A_pile, .int self_height, .ref A_acts, .ref A_shares, .ref A_starts, .int self_made, .ref A_code, .int self_codeLength])), (A_tape, .inr (3, [.ref A_tape_bytes, .int tape_length])), (A_tape_bytes, .inl (c 0, 800, .inl f_tape_bytes))] H → va_D A [(A_self, .inr (1, [.ref A_tape, .int M_self_place, .int M_self_start, .int self_token, .int self_value, .int self_wanted, .int self_compared, .int self_opened, .int self_nested, .ref A_pile, .int self_height, .ref A_acts, .ref A_shares, .ref A_starts, .int self_made, .ref A_code, .int self_codeLength])), (A_tape, .inr (3, [.ref A_tape_bytes, .int tape_length])), (A_tape_bytes, .inl (c 0, 800, .inl f_tape_bytes))] → va_S A s.heap H locs → lv_has ls 2 [(1, .int r_3), (0, .ref A_self)] → W p l e (headSpec wsX1_nextToken ({ frames := 6, cells := 0, slots := 0, locals := 133 })).room s m (([.ref A_self] : List Value).toArray) below meth cd H locs 0 0 (MQ below (va_Qv (fun (u : Int32 × Int32 × Int32 × Int32 × Unit) => True) (fun u t => va_P D vwCl [(A_self, .inr (1, [.ref A_tape, .int u.1, .int u.2.1, .int u.2.2.1, .int u.2.2.2.1, .int self_wanted, .int self_compared, .int self_opened, .int self_nested, .ref A_pile, .int self_height, .ref A_acts, .ref A_shares, .ref A_starts, .int self_made, .ref A_code, .int self_codeLength])), (A_tape, .inr (3, [.ref A_tape_bytes, .int tape_length])), (A_tape_bytes, .inl (c 0, 800, .inl f_tape_bytes))] t.heap ∧ va_D A [(A_self, .inr (1, [.ref A_tape, .int u.1, .int u.2.1, .int u.2.2.1, .int u.2.2.2.1, .int self_wanted, .int self_compared, .int self_opened, .int self_nested, .ref A_pile, .int self_height, .ref A_acts, .ref A_shares, .ref A_starts, .int self_made, .ref A_code, .int self_codeLength])), (A_tape, .inr (3, [.ref A_tape_bytes, .int tape_length])), (A_tape_bytes, .inl (c 0, 800, .inl f_tape_bytes))]) A) ([.ref A_self] : List Value).toArray s 0 0 A) (F0 m 151 ls []) := by
            refine st_ind (fun N ih151 => ?_)
            intro M_self_place hN151 H locs ls hP hD hS hl
            have rg_M_self_place := i32r M_self_place
            refine lv_aload_n hx hb dX1_nextToken_151 rfl (lv_at hl 1 rfl) ?_
            refine va_get (D := D) (ci := 1) (v := .int M_self_place) (C := RX1) (T := TX1) (N := 17) hx hb hts (fun _ h => List.mem_cons_of_mem _ (List.mem_append_left _ (List.mem_append_right _ h))) hown hK hP 0 rfl rfl 1 (by decide) (hts (.fieldLink RX1 31 "CrownTable$Reader" "place" "I") (mem_i 1 rfl)) (fun _ h9 => h9) rfl dX1_nextToken_152 ?_
            refine lv_aload_n hx hb dX1_nextToken_155 rfl (lv_at hl 1 rfl) ?_
            refine va_get (D := D) (ci := 1) (v := .ref A_tape) (C := RX1) (T := TX1) (N := 17) hx hb hts (fun _ h => List.mem_cons_of_mem _ (List.mem_append_left _ (List.mem_append_right _ h))) hown hK hP 0 rfl rfl 0 (by decide) (hts (.fieldLink RX1 27 "CrownTable$Reader" "tape" "LCrownTable$Tape;") (mem_i 3 rfl)) (fun _ h9 => h9) rfl dX1_nextToken_156 ?_
            refine va_getN (D := D) (ci := 3) (v := .int tape_length) (own := RX1) (ref := "CrownTable$Tape") (host := RX6) (index := 81) (C := RX3) (T := TX3) (N := 2) hx hb hts (fun _ h => List.mem_cons_of_mem _ (List.mem_append_right _ h)) hown hK hP 1 rfl rfl 1 (by decide) (show (Cond.fieldLinkNest RX1 81 "CrownTable$Tape" "length" "I" RX6).before _ _ = true from va_Nw.use rfl (hAm.2.1.2 (RX1, 81, "CrownTable$Tape", "length", "I", RX6) (mem_i 1 rfl))) (fun _ h9 => h9) rfl dX1_nextToken_159 ?_
            refine iicmp_ge (a := M_self_place.toInt) (b := i_tape_length) (tgt := 195) hx hb rfl hi_tape_length dX1_nextToken_162 (by decide) (fun k_19 => ?_) (fun k_19 => ?_)
            · skip
              refine lv_aload_n hx hb dX1_nextToken_195 rfl (lv_at hl 1 rfl) ?_
              refine lv_bipush (v := 30) hx hb dX1_nextToken_196 (by decide) ?_
              refine va_put (D := D) (ci := 1) (v := .int 30) (ty := .int) (C := RX1) (T := TX1) (N := 17) hx hb hts (fun _ h => List.mem_cons_of_mem _ (List.mem_append_left _ (List.mem_append_right _ h))) tyX1 tyX1_ok nmX1 hown hK hP hD hS 0 rfl rfl 3 (by decide) (hts (.fieldLink RX1 60 "CrownTable$Reader" "token" "I") (mem_i 4 rfl)) (fun _ h9 => h9) rfl (by decide +kernel) rfl rfl (Nat.le_of_ble_eq_true rfl) dX1_nextToken_198 (fun H locs hP hD hS => ?_)
              have hP : va_P D vwCl [(A_self, .inr (1, [.ref A_tape, .int M_self_place, .int M_self_start, .int 30, .int self_value, .int self_wanted, .int self_compared, .int self_opened, .int self_nested, .ref A_pile, .int self_height, .ref A_acts, .ref A_shares, .ref A_starts, .int self_made, .ref A_code, .int self_codeLength])), (A_tape, .inr (3, [.ref A_tape_bytes, .int tape_length])), (A_tape_bytes, .inl (c 0, 800, .inl f_tape_bytes))] H := hP
              have hD : va_D A [(A_self, .inr (1, [.ref A_tape, .int M_self_place, .int M_self_start, .int 30, .int self_value, .int self_wanted, .int self_compared, .int self_opened, .int self_nested, .ref A_pile, .int self_height, .ref A_acts, .ref A_shares, .ref A_starts, .int self_made, .ref A_code, .int self_codeLength])), (A_tape, .inr (3, [.ref A_tape_bytes, .int tape_length])), (A_tape_bytes, .inl (c 0, 800, .inl f_tape_bytes))] := hD
              refine lv_aload_n hx hb dX1_nextToken_201 rfl (lv_at hl 1 rfl) ?_
              refine lv_aload_n hx hb dX1_nextToken_202 rfl (lv_at hl 1 rfl) ?_
              refine lv_aload_n hx hb dX1_nextToken_203 rfl (lv_at hl 1 rfl) ?_
              refine va_get (D := D) (ci := 1) (v := .int M_self_start) (C := RX1) (T := TX1) (N := 17) hx hb hts (fun _ h => List.mem_cons_of_mem _ (List.mem_append_left _ (List.mem_append_right _ h))) hown hK hP 0 rfl rfl 2 (by decide) (hts (.fieldLink RX1 78 "CrownTable$Reader" "start" "I") (mem_i 2 rfl)) (fun _ h9 => h9) rfl dX1_nextToken_204 ?_
              refine lv_aload_n hx hb dX1_nextToken_207 rfl (lv_at hl 1 rfl) ?_
              refine va_get (D := D) (ci := 1) (v := .int M_self_place) (C := RX1) (T := TX1) (N := 17) hx hb hts (fun _ h => List.mem_cons_of_mem _ (List.mem_append_left _ (List.mem_append_right _ h))) hown hK hP 0 rfl rfl 1 (by decide) (hts (.fieldLink RX1 31 "CrownTable$Reader" "place" "I") (mem_i 1 rfl)) (fun _ h9 => h9) rfl dX1_nextToken_208 ?_
              have hPc := hP.sub (ws' := [(A_self, .inr (1, [.ref A_tape, .int M_self_place, .int M_self_start, .int 30, .int self_value, .int self_wanted, .int self_compared, .int self_opened, .int self_nested, .ref A_pile, .int self_height, .ref A_acts, .ref A_shares, .ref A_starts, .int self_made, .ref A_code, .int self_codeLength])), (A_tape, .inr (3, [.ref A_tape_bytes, .int tape_length])), (A_tape_bytes, .inl (c 0, 800, .inl f_tape_bytes))]) [0, 1, 2] rfl
              have hDc := hD.sub (ws' := [(A_self, .inr (1, [.ref A_tape, .int M_self_place, .int M_self_start, .int 30, .int self_value, .int self_wanted, .int self_compared, .int self_opened, .int self_nested, .ref A_pile, .int self_height, .ref A_acts, .ref A_shares, .ref A_starts, .int self_made, .ref A_code, .int self_codeLength])), (A_tape, .inr (3, [.ref A_tape_bytes, .int tape_length])), (A_tape_bytes, .inl (c 0, 800, .inl f_tape_bytes))]) [0, 1, 2] (by decide) rfl
              have hFc := va_free (wc := [(A_self, .inr (1, [.ref A_tape, .int M_self_place, .int M_self_start, .int 30, .int self_value, .int self_wanted, .int self_compared, .int self_opened, .int self_nested, .ref A_pile, .int self_height, .ref A_acts, .ref A_shares, .ref A_starts, .int self_made, .ref A_code, .int self_codeLength])), (A_tape, .inr (3, [.ref A_tape_bytes, .int tape_length])), (A_tape_bytes, .inl (c 0, 800, .inl f_tape_bytes))]) hD hS hA [0, 1, 2] rfl
              refine va_csi (va_runV (As := [.int M_self_start, .int M_self_place]) (rest := [.ref A_self]) ⟨hx, hb, hml, hown, hts⟩ (k_X1_numberAt l D c ts H.size A_tape A_pile A_acts A_shares A_starts A_code A_self A_tape_bytes f_tape_bytes M_self_place M_self_place.toInt rfl M_self_start M_self_start.toInt rfl 30 30 (by decide) self_value i_self_value hi_self_value self_wanted i_self_wanted hi_self_wanted self_compared i_self_compared hi_self_compared self_opened i_self_opened hi_self_opened self_nested i_self_nested hi_self_nested self_height i_self_height hi_self_height self_made i_self_made hi_self_made self_codeLength i_self_codeLength hi_self_codeLength tape_length i_tape_length hi_tape_length M_self_start M_self_start.toInt rfl M_self_place M_self_place.toInt rfl (by omega) (by omega) (by omega) (by omega) (by omega)) (cwV 2 hts gX1_nextToken_X1_numberAt rfl rfl rfl ⟨rfl, hdX1_numberAt⟩ ⟨(show 1 + 1 ≤ 6 by decide), (show 8 + (5 + 11) + 21 ≤ 133 by decide)⟩) ⟨Pre0.blind, va_recv hK hPc (ci := 1) (q0 := 0) rfl rfl, Pre0.at hPc hDc hAm hSt hS hFc⟩ rfl rfl hl.1 rfl (lv_room (Nat.le_of_ble_eq_true rfl)) dX1_nextToken_211 ⟨(show 0 + 0 ≤ 0 by decide), (show 0 + 0 ≤ 0 by decide)⟩) (fun r_21 hw_20 => ?_)
              have rg_r_21 := i32r r_21
              refine va_put (D := D) (ci := 1) (v := .int r_21) (ty := .int) (C := RX1) (T := TX1) (N := 17) hx hb hts (fun _ h => List.mem_cons_of_mem _ (List.mem_append_left _ (List.mem_append_right _ h))) tyX1 tyX1_ok nmX1 hown hK hP hD hS 0 rfl rfl 4 (by decide) (hts (.fieldLink RX1 107 "CrownTable$Reader" "value" "I") (mem_i 5 rfl)) (fun _ h9 => h9) rfl (by decide +kernel) rfl rfl (Nat.le_of_ble_eq_true rfl) dX1_nextToken_214 (fun H locs hP hD hS => ?_)
              have hP : va_P D vwCl [(A_self, .inr (1, [.ref A_tape, .int M_self_place, .int M_self_start, .int 30, .int r_21, .int self_wanted, .int self_compared, .int self_opened, .int self_nested, .ref A_pile, .int self_height, .ref A_acts, .ref A_shares, .ref A_starts, .int self_made, .ref A_code, .int self_codeLength])), (A_tape, .inr (3, [.ref A_tape_bytes, .int tape_length])), (A_tape_bytes, .inl (c 0, 800, .inl f_tape_bytes))] H := hP
              have hD : va_D A [(A_self, .inr (1, [.ref A_tape, .int M_self_place, .int M_self_start, .int 30, .int r_21, .int self_wanted, .int self_compared, .int self_opened, .int self_nested, .ref A_pile, .int self_height, .ref A_acts, .ref A_shares, .ref A_starts, .int self_made, .ref A_code, .int self_codeLength])), (A_tape, .inr (3, [.ref A_tape_bytes, .int tape_length])), (A_tape_bytes, .inl (c 0, 800, .inl f_tape_bytes))] := hD
              refine lv_goto (tgt := 242) hx hb dX1_nextToken_217 (by decide) ?_
              have kzz_22 : (30 : Int32).toInt = 30 := by decide
              have hP9 := hP.sub (ws' := [(A_self, .inr (1, [.ref A_tape, .int M_self_place, .int M_self_start, .int 30, .int r_21, .int self_wanted, .int self_compared, .int self_opened, .int self_nested, .ref A_pile, .int self_height, .ref A_acts, .ref A_shares, .ref A_starts, .int self_made, .ref A_code, .int self_codeLength])), (A_tape, .inr (3, [.ref A_tape_bytes, .int tape_length])), (A_tape_bytes, .inl (c 0, 800, .inl f_tape_bytes))]) [0, 1, 2] rfl
              have hD9 := hD.sub (ws' := [(A_self, .inr (1, [.ref A_tape, .int M_self_place, .int M_self_start, .int 30, .int r_21, .int self_wanted, .int self_compared, .int self_opened, .int self_nested, .ref A_pile, .int self_height, .ref A_acts, .ref A_shares, .ref A_starts, .int self_made, .ref A_code, .int self_codeLength])), (A_tape, .inr (3, [.ref A_tape_bytes, .int tape_length])), (A_tape_bytes, .inl (c 0, 800, .inl f_tape_bytes))]) [0, 1, 2] (by decide) rfl
              refine W.widen (k := 0) (n := 0) (by omega) (by omega) ?_
              exact W.vret hx hb hr (fun t ht hW => ⟨⟨(M_self_place, M_self_start, 30, r_21, ()), rfl, trivial, ⟨by rw [ht]; exact hP9, hD9⟩⟩, hS.F ht⟩) hS.2.2 dX1_nextToken_242
            · skip
              refine lv_aload_n hx hb dX1_nextToken_165 rfl (lv_at hl 1 rfl) ?_
              refine va_get (D := D) (ci := 1) (v := .ref A_tape) (C := RX1) (T := TX1) (N := 17) hx hb hts (fun _ h => List.mem_cons_of_mem _ (List.mem_append_left _ (List.mem_append_right _ h))) hown hK hP 0 rfl rfl 0 (by decide) (hts (.fieldLink RX1 27 "CrownTable$Reader" "tape" "LCrownTable$Tape;") (mem_i 3 rfl)) (fun _ h9 => h9) rfl dX1_nextToken_166 ?_
              refine lv_aload_n hx hb dX1_nextToken_169 rfl (lv_at hl 1 rfl) ?_
              refine va_get (D := D) (ci := 1) (v := .int M_self_place) (C := RX1) (T := TX1) (N := 17) hx hb hts (fun _ h => List.mem_cons_of_mem _ (List.mem_append_left _ (List.mem_append_right _ h))) hown hK hP 0 rfl rfl 1 (by decide) (hts (.fieldLink RX1 31 "CrownTable$Reader" "place" "I") (mem_i 1 rfl)) (fun _ h9 => h9) rfl dX1_nextToken_170 ?_
              have hPc := hP.sub (ws' := [(A_tape, .inr (3, [.ref A_tape_bytes, .int tape_length])), (A_tape_bytes, .inl (c 0, 800, .inl f_tape_bytes))]) [1, 2] rfl
              have hDc := hD.sub (ws' := [(A_tape, .inr (3, [.ref A_tape_bytes, .int tape_length])), (A_tape_bytes, .inl (c 0, 800, .inl f_tape_bytes))]) [1, 2] (by decide) rfl
              have hFc := va_free (wc := [(A_tape, .inr (3, [.ref A_tape_bytes, .int tape_length])), (A_tape_bytes, .inl (c 0, 800, .inl f_tape_bytes))]) hD hS hA [1, 2] rfl
              refine va_csi (va_runVN (As := [.int M_self_place]) (rest := []) ⟨hx, hb, hml, hown, hts⟩ (k_X3_byteAt l D c ts H.size A_tape_bytes A_tape f_tape_bytes tape_length i_tape_length hi_tape_length M_self_place M_self_place.toInt rfl (by omega)) ⟨va_cnB 1 hts gX1_nextToken_X3_byteAt_n86 rfl rfl rfl (show va_Nw (.methodLinkNest RX1 86 yX3_byteAt RX6) _ from hAm.2.1.1 (RX1, 86, yX3_byteAt, RX6) (mem_i 8 rfl)) (hts (.initialized RX3) (mem_i 7 rfl)) hdX3_byteAt ⟨(show 0 + 1 ≤ 6 by decide), (show 8 + (2 + 11) + 0 ≤ 133 by decide)⟩, (hts (.instanceMethod yX3_byteAt) (mem_i 6 rfl)), (hts (.selects RX3 yX3_byteAt yX3_byteAt) (mem_i 8 rfl))⟩ ⟨Pre0.blind, va_recv hK hPc (ci := 3) (q0 := 0) rfl rfl, Pre0.at hPc hDc hAm hSt hS hFc⟩ rfl rfl hl.1 rfl (lv_room (Nat.le_of_ble_eq_true rfl)) dX1_nextToken_173 ⟨(show 0 + 0 ≤ 0 by decide), (show 0 + 0 ≤ 0 by decide)⟩) (fun r_24 hw_23 => ?_)
              have rg_r_24 := i32r r_24
              have hPc := hP.sub (ws' := []) [] rfl
              have hDc := hD.sub (ws' := []) [] (by decide) rfl
              have hFc := va_free (wc := []) hD hS hA [] rfl
              refine va_csi (va_runS (As := [.int r_24]) (rest := []) ⟨hx, hb, hml, hown, hts⟩ (k_X1_isDigit l D c ts H.size r_24 r_24.toInt rfl) (cwS 1 hts gX1_nextToken_X1_isDigit rfl rfl rfl ⟨rfl, hdX1_isDigit⟩ ⟨(show 0 + 1 ≤ 6 by decide), (show 8 + (1 + 11) + 0 ≤ 133 by decide)⟩) ⟨Pre0.blind, Pre0.at hPc hDc hAm hSt hS hFc⟩ rfl rfl hl.1 rfl (lv_room (Nat.le_of_ble_eq_true rfl)) dX1_nextToken_176 ⟨(show 0 + 0 ≤ 0 by decide), (show 0 + 0 ≤ 0 by decide)⟩) (fun r_26 hw_25 => ?_)
              rcases hw_25 with ⟨hw_25, rfl⟩ | ⟨hw_25, rfl⟩
              · skip
                refine iif_eqF (a := 1) (tgt := 195) hx hb (by decide) dX1_nextToken_179 (by decide) (by decide) ?_
                refine lv_aload_n hx hb dX1_nextToken_182 rfl (lv_at hl 1 rfl) ?_
                refine lv_dup hx hb dX1_nextToken_183 rfl ?_
                refine va_get (D := D) (ci := 1) (v := .int M_self_place) (C := RX1) (T := TX1) (N := 17) hx hb hts (fun _ h => List.mem_cons_of_mem _ (List.mem_append_left _ (List.mem_append_right _ h))) hown hK hP 0 rfl rfl 1 (by decide) (hts (.fieldLink RX1 31 "CrownTable$Reader" "place" "I") (mem_i 1 rfl)) (fun _ h9 => h9) rfl dX1_nextToken_184 ?_
                refine lv_iconst (v := 1) hx hb dX1_nextToken_187 (by decide) ?_
                refine lv_iadd hx hb dX1_nextToken_188 ?_
                refine lv_topi (fun x_27 ex_27 => ?_)
                have tx_27 : x_27.toInt = (M_self_place.toInt + 1) := by rw [ex_27]; exact add_ti (a := M_self_place.toInt) (b := 1) rfl (by decide) (by omega) (by omega)
                refine va_put (D := D) (ci := 1) (v := .int x_27) (ty := .int) (C := RX1) (T := TX1) (N := 17) hx hb hts (fun _ h => List.mem_cons_of_mem _ (List.mem_append_left _ (List.mem_append_right _ h))) tyX1 tyX1_ok nmX1 hown hK hP hD hS 0 rfl rfl 1 (by decide) (hts (.fieldLink RX1 31 "CrownTable$Reader" "place" "I") (mem_i 1 rfl)) (fun _ h9 => h9) rfl (by decide +kernel) rfl rfl (Nat.le_of_ble_eq_true rfl) dX1_nextToken_189 (fun H locs hP hD hS => ?_)
                have hP : va_P D vwCl [(A_self, .inr (1, [.ref A_tape, .int x_27, .int M_self_start, .int self_token, .int self_value, .int self_wanted, .int self_compared, .int self_opened, .int self_nested, .ref A_pile, .int self_height, .ref A_acts, .ref A_shares, .ref A_starts, .int self_made, .ref A_code, .int self_codeLength])), (A_tape, .inr (3, [.ref A_tape_bytes, .int tape_length])), (A_tape_bytes, .inl (c 0, 800, .inl f_tape_bytes))] H := hP
                have hD : va_D A [(A_self, .inr (1, [.ref A_tape, .int x_27, .int M_self_start, .int self_token, .int self_value, .int self_wanted, .int self_compared, .int self_opened, .int self_nested, .ref A_pile, .int self_height, .ref A_acts, .ref A_shares, .ref A_starts, .int self_made, .ref A_code, .int self_codeLength])), (A_tape, .inr (3, [.ref A_tape_bytes, .int tape_length])), (A_tape_bytes, .inl (c 0, 800, .inl f_tape_bytes))] := hD
                refine lv_goto (tgt := 151) hx hb dX1_nextToken_192 (by decide) ?_
                exact (ih151 ((3000000000 - x_27.toInt).toNat) (by omega) x_27 rfl _ _ _ hP hD hS hl)
              · skip
                refine iif_eqT (a := 0) (tgt := 195) hx hb (by decide) dX1_nextToken_179 (by decide) (by decide) ?_
                refine lv_aload_n hx hb dX1_nextToken_195 rfl (lv_at hl 1 rfl) ?_
                refine lv_bipush (v := 30) hx hb dX1_nextToken_196 (by decide) ?_
                refine va_put (D := D) (ci := 1) (v := .int 30) (ty := .int) (C := RX1) (T := TX1) (N := 17) hx hb hts (fun _ h => List.mem_cons_of_mem _ (List.mem_append_left _ (List.mem_append_right _ h))) tyX1 tyX1_ok nmX1 hown hK hP hD hS 0 rfl rfl 3 (by decide) (hts (.fieldLink RX1 60 "CrownTable$Reader" "token" "I") (mem_i 4 rfl)) (fun _ h9 => h9) rfl (by decide +kernel) rfl rfl (Nat.le_of_ble_eq_true rfl) dX1_nextToken_198 (fun H locs hP hD hS => ?_)
                have hP : va_P D vwCl [(A_self, .inr (1, [.ref A_tape, .int M_self_place, .int M_self_start, .int 30, .int self_value, .int self_wanted, .int self_compared, .int self_opened, .int self_nested, .ref A_pile, .int self_height, .ref A_acts, .ref A_shares, .ref A_starts, .int self_made, .ref A_code, .int self_codeLength])), (A_tape, .inr (3, [.ref A_tape_bytes, .int tape_length])), (A_tape_bytes, .inl (c 0, 800, .inl f_tape_bytes))] H := hP
                have hD : va_D A [(A_self, .inr (1, [.ref A_tape, .int M_self_place, .int M_self_start, .int 30, .int self_value, .int self_wanted, .int self_compared, .int self_opened, .int self_nested, .ref A_pile, .int self_height, .ref A_acts, .ref A_shares, .ref A_starts, .int self_made, .ref A_code, .int self_codeLength])), (A_tape, .inr (3, [.ref A_tape_bytes, .int tape_length])), (A_tape_bytes, .inl (c 0, 800, .inl f_tape_bytes))] := hD
                refine lv_aload_n hx hb dX1_nextToken_201 rfl (lv_at hl 1 rfl) ?_
                refine lv_aload_n hx hb dX1_nextToken_202 rfl (lv_at hl 1 rfl) ?_
                refine lv_aload_n hx hb dX1_nextToken_203 rfl (lv_at hl 1 rfl) ?_
                refine va_get (D := D) (ci := 1) (v := .int M_self_start) (C := RX1) (T := TX1) (N := 17) hx hb hts (fun _ h => List.mem_cons_of_mem _ (List.mem_append_left _ (List.mem_append_right _ h))) hown hK hP 0 rfl rfl 2 (by decide) (hts (.fieldLink RX1 78 "CrownTable$Reader" "start" "I") (mem_i 2 rfl)) (fun _ h9 => h9) rfl dX1_nextToken_204 ?_
                refine lv_aload_n hx hb dX1_nextToken_207 rfl (lv_at hl 1 rfl) ?_
                refine va_get (D := D) (ci := 1) (v := .int M_self_place) (C := RX1) (T := TX1) (N := 17) hx hb hts (fun _ h => List.mem_cons_of_mem _ (List.mem_append_left _ (List.mem_append_right _ h))) hown hK hP 0 rfl rfl 1 (by decide) (hts (.fieldLink RX1 31 "CrownTable$Reader" "place" "I") (mem_i 1 rfl)) (fun _ h9 => h9) rfl dX1_nextToken_208 ?_
                have hPc := hP.sub (ws' := [(A_self, .inr (1, [.ref A_tape, .int M_self_place, .int M_self_start, .int 30, .int self_value, .int self_wanted, .int self_compared, .int self_opened, .int self_nested, .ref A_pile, .int self_height, .ref A_acts, .ref A_shares, .ref A_starts, .int self_made, .ref A_code, .int self_codeLength])), (A_tape, .inr (3, [.ref A_tape_bytes, .int tape_length])), (A_tape_bytes, .inl (c 0, 800, .inl f_tape_bytes))]) [0, 1, 2] rfl
                have hDc := hD.sub (ws' := [(A_self, .inr (1, [.ref A_tape, .int M_self_place, .int M_self_start, .int 30, .int self_value, .int self_wanted, .int self_compared, .int self_opened, .int self_nested, .ref A_pile, .int self_height, .ref A_acts, .ref A_shares, .ref A_starts, .int self_made, .ref A_code, .int self_codeLength])), (A_tape, .inr (3, [.ref A_tape_bytes, .int tape_length])), (A_tape_bytes, .inl (c 0, 800, .inl f_tape_bytes))]) [0, 1, 2] (by decide) rfl
                have hFc := va_free (wc := [(A_self, .inr (1, [.ref A_tape, .int M_self_place, .int M_self_start, .int 30, .int self_value, .int self_wanted, .int self_compared, .int self_opened, .int self_nested, .ref A_pile, .int self_height, .ref A_acts, .ref A_shares, .ref A_starts, .int self_made, .ref A_code, .int self_codeLength])), (A_tape, .inr (3, [.ref A_tape_bytes, .int tape_length])), (A_tape_bytes, .inl (c 0, 800, .inl f_tape_bytes))]) hD hS hA [0, 1, 2] rfl
                refine va_csi (va_runV (As := [.int M_self_start, .int M_self_place]) (rest := [.ref A_self]) ⟨hx, hb, hml, hown, hts⟩ (k_X1_numberAt l D c ts H.size A_tape A_pile A_acts A_shares A_starts A_code A_self A_tape_bytes f_tape_bytes M_self_place M_self_place.toInt rfl M_self_start M_self_start.toInt rfl 30 30 (by decide) self_value i_self_value hi_self_value self_wanted i_self_wanted hi_self_wanted self_compared i_self_compared hi_self_compared self_opened i_self_opened hi_self_opened self_nested i_self_nested hi_self_nested self_height i_self_height hi_self_height self_made i_self_made hi_self_made self_codeLength i_self_codeLength hi_self_codeLength tape_length i_tape_length hi_tape_length M_self_start M_self_start.toInt rfl M_self_place M_self_place.toInt rfl (by omega) (by omega) (by omega) (by omega) (by omega)) (cwV 2 hts gX1_nextToken_X1_numberAt rfl rfl rfl ⟨rfl, hdX1_numberAt⟩ ⟨(show 1 + 1 ≤ 6 by decide), (show 8 + (5 + 11) + 21 ≤ 133 by decide)⟩) ⟨Pre0.blind, va_recv hK hPc (ci := 1) (q0 := 0) rfl rfl, Pre0.at hPc hDc hAm hSt hS hFc⟩ rfl rfl hl.1 rfl (lv_room (Nat.le_of_ble_eq_true rfl)) dX1_nextToken_211 ⟨(show 0 + 0 ≤ 0 by decide), (show 0 + 0 ≤ 0 by decide)⟩) (fun r_29 hw_28 => ?_)
                have rg_r_29 := i32r r_29
                refine va_put (D := D) (ci := 1) (v := .int r_29) (ty := .int) (C := RX1) (T := TX1) (N := 17) hx hb hts (fun _ h => List.mem_cons_of_mem _ (List.mem_append_left _ (List.mem_append_right _ h))) tyX1 tyX1_ok nmX1 hown hK hP hD hS 0 rfl rfl 4 (by decide) (hts (.fieldLink RX1 107 "CrownTable$Reader" "value" "I") (mem_i 5 rfl)) (fun _ h9 => h9) rfl (by decide +kernel) rfl rfl (Nat.le_of_ble_eq_true rfl) dX1_nextToken_214 (fun H locs hP hD hS => ?_)
                have hP : va_P D vwCl [(A_self, .inr (1, [.ref A_tape, .int M_self_place, .int M_self_start, .int 30, .int r_29, .int self_wanted, .int self_compared, .int self_opened, .int self_nested, .ref A_pile, .int self_height, .ref A_acts, .ref A_shares, .ref A_starts, .int self_made, .ref A_code, .int self_codeLength])), (A_tape, .inr (3, [.ref A_tape_bytes, .int tape_length])), (A_tape_bytes, .inl (c 0, 800, .inl f_tape_bytes))] H := hP
                have hD : va_D A [(A_self, .inr (1, [.ref A_tape, .int M_self_place, .int M_self_start, .int 30, .int r_29, .int self_wanted, .int self_compared, .int self_opened, .int self_nested, .ref A_pile, .int self_height, .ref A_acts, .ref A_shares, .ref A_starts, .int self_made, .ref A_code, .int self_codeLength])), (A_tape, .inr (3, [.ref A_tape_bytes, .int tape_length])), (A_tape_bytes, .inl (c 0, 800, .inl f_tape_bytes))] := hD
                refine lv_goto (tgt := 242) hx hb dX1_nextToken_217 (by decide) ?_
                have kzz_30 : (30 : Int32).toInt = 30 := by decide
                have hP9 := hP.sub (ws' := [(A_self, .inr (1, [.ref A_tape, .int M_self_place, .int M_self_start, .int 30, .int r_29, .int self_wanted, .int self_compared, .int self_opened, .int self_nested, .ref A_pile, .int self_height, .ref A_acts, .ref A_shares, .ref A_starts, .int self_made, .ref A_code, .int self_codeLength])), (A_tape, .inr (3, [.ref A_tape_bytes, .int tape_length])), (A_tape_bytes, .inl (c 0, 800, .inl f_tape_bytes))]) [0, 1, 2] rfl
                have hD9 := hD.sub (ws' := [(A_self, .inr (1, [.ref A_tape, .int M_self_place, .int M_self_start, .int 30, .int r_29, .int self_wanted, .int self_compared, .int self_opened, .int self_nested, .ref A_pile, .int self_height, .ref A_acts, .ref A_shares, .ref A_starts, .int self_made, .ref A_code, .int self_codeLength])), (A_tape, .inr (3, [.ref A_tape_bytes, .int tape_length])), (A_tape_bytes, .inl (c 0, 800, .inl f_tape_bytes))]) [0, 1, 2] (by decide) rfl
                refine W.widen (k := 0) (n := 0) (by omega) (by omega) ?_
                exact W.vret hx hb hr (fun t ht hW => ⟨⟨(M_self_place, M_self_start, 30, r_29, ()), rfl, trivial, ⟨by rw [ht]; exact hP9, hD9⟩⟩, hS.F ht⟩) hS.2.2 dX1_nextToken_242
          exact (lp_151 _ x_4 rfl _ _ _ hP hD hS hl)
        · skip
          refine iif_eqT (a := 0) (tgt := 220) hx hb (by decide) dX1_nextToken_148 (by decide) (by decide) ?_
          refine lv_aload_n hx hb dX1_nextToken_220 rfl (lv_at hl 1 rfl) ?_
          refine lv_iload_n hx hb dX1_nextToken_221 rfl (lv_at hl 0 rfl) ?_
          refine lv_iconst (v := (-1)) hx hb dX1_nextToken_222 (by decide) ?_
          refine iicmp_eq (a := r_3.toInt) (b := (-1)) (tgt := 233) hx hb rfl (by decide) dX1_nextToken_223 (by decide) (fun k_31 => ?_) (fun k_31 => ?_)
          · skip
            refine lv_iload_n hx hb dX1_nextToken_233 rfl (lv_at hl 0 rfl) ?_
            refine lv_goto (tgt := 239) hx hb dX1_nextToken_234 (by decide) ?_
            refine va_put (D := D) (ci := 1) (v := .int r_3) (ty := .int) (C := RX1) (T := TX1) (N := 17) hx hb hts (fun _ h => List.mem_cons_of_mem _ (List.mem_append_left _ (List.mem_append_right _ h))) tyX1 tyX1_ok nmX1 hown hK hP hD hS 0 rfl rfl 3 (by decide) (hts (.fieldLink RX1 60 "CrownTable$Reader" "token" "I") (mem_i 4 rfl)) (fun _ h9 => h9) rfl (by decide +kernel) rfl rfl (Nat.le_of_ble_eq_true rfl) dX1_nextToken_239 (fun H locs hP hD hS => ?_)
            have hP : va_P D vwCl [(A_self, .inr (1, [.ref A_tape, .int x_4, .int M_self_start, .int r_3, .int self_value, .int self_wanted, .int self_compared, .int self_opened, .int self_nested, .ref A_pile, .int self_height, .ref A_acts, .ref A_shares, .ref A_starts, .int self_made, .ref A_code, .int self_codeLength])), (A_tape, .inr (3, [.ref A_tape_bytes, .int tape_length])), (A_tape_bytes, .inl (c 0, 800, .inl f_tape_bytes))] H := hP
            have hD : va_D A [(A_self, .inr (1, [.ref A_tape, .int x_4, .int M_self_start, .int r_3, .int self_value, .int self_wanted, .int self_compared, .int self_opened, .int self_nested, .ref A_pile, .int self_height, .ref A_acts, .ref A_shares, .ref A_starts, .int self_made, .ref A_code, .int self_codeLength])), (A_tape, .inr (3, [.ref A_tape_bytes, .int tape_length])), (A_tape_bytes, .inl (c 0, 800, .inl f_tape_bytes))] := hD
            have hP9 := hP.sub (ws' := [(A_self, .inr (1, [.ref A_tape, .int x_4, .int M_self_start, .int r_3, .int self_value, .int self_wanted, .int self_compared, .int self_opened, .int self_nested, .ref A_pile, .int self_height, .ref A_acts, .ref A_shares, .ref A_starts, .int self_made, .ref A_code, .int self_codeLength])), (A_tape, .inr (3, [.ref A_tape_bytes, .int tape_length])), (A_tape_bytes, .inl (c 0, 800, .inl f_tape_bytes))]) [0, 1, 2] rfl
            have hD9 := hD.sub (ws' := [(A_self, .inr (1, [.ref A_tape, .int x_4, .int M_self_start, .int r_3, .int self_value, .int self_wanted, .int self_compared, .int self_opened, .int self_nested, .ref A_pile, .int self_height, .ref A_acts, .ref A_shares, .ref A_starts, .int self_made, .ref A_code, .int self_codeLength])), (A_tape, .inr (3, [.ref A_tape_bytes, .int tape_length])), (A_tape_bytes, .inl (c 0, 800, .inl f_tape_bytes))]) [0, 1, 2] (by decide) rfl
            refine W.widen (k := 0) (n := 0) (by omega) (by omega) ?_
            exact W.vret hx hb hr (fun t ht hW => ⟨⟨(x_4, M_self_start, r_3, self_value, ()), rfl, trivial, ⟨by rw [ht]; exact hP9, hD9⟩⟩, hS.F ht⟩) hS.2.2 dX1_nextToken_242
          · skip
            refine lv_iload_n hx hb dX1_nextToken_226 rfl (lv_at hl 0 rfl) ?_
            have hPc := hP.sub (ws' := []) [] rfl
            have hDc := hD.sub (ws' := []) [] (by decide) rfl
            have hFc := va_free (wc := []) hD hS hA [] rfl
            refine va_csi (va_runS (As := [.int r_3]) (rest := [.ref A_self]) ⟨hx, hb, hml, hown, hts⟩ (k_X1_isSign l D c ts H.size r_3 r_3.toInt rfl) (cwS 1 hts gX1_nextToken_X1_isSign rfl rfl rfl ⟨rfl, hdX1_isSign⟩ ⟨(show 1 + 1 ≤ 6 by decide), (show 8 + (1 + 11) + 20 ≤ 133 by decide)⟩) ⟨Pre0.blind, Pre0.at hPc hDc hAm hSt hS hFc⟩ rfl rfl hl.1 rfl (lv_room (Nat.le_of_ble_eq_true rfl)) dX1_nextToken_227 ⟨(show 0 + 0 ≤ 0 by decide), (show 0 + 0 ≤ 0 by decide)⟩) (fun r_33 hw_32 => ?_)
            rcases hw_32 with ⟨hw_32, rfl⟩ | ⟨hw_32, rfl⟩
            · skip
              refine iif_eqF (a := 1) (tgt := 237) hx hb (by decide) dX1_nextToken_230 (by decide) (by decide) ?_
              refine lv_iload_n hx hb dX1_nextToken_233 rfl (lv_at hl 0 rfl) ?_
              refine lv_goto (tgt := 239) hx hb dX1_nextToken_234 (by decide) ?_
              refine va_put (D := D) (ci := 1) (v := .int r_3) (ty := .int) (C := RX1) (T := TX1) (N := 17) hx hb hts (fun _ h => List.mem_cons_of_mem _ (List.mem_append_left _ (List.mem_append_right _ h))) tyX1 tyX1_ok nmX1 hown hK hP hD hS 0 rfl rfl 3 (by decide) (hts (.fieldLink RX1 60 "CrownTable$Reader" "token" "I") (mem_i 4 rfl)) (fun _ h9 => h9) rfl (by decide +kernel) rfl rfl (Nat.le_of_ble_eq_true rfl) dX1_nextToken_239 (fun H locs hP hD hS => ?_)
              have hP : va_P D vwCl [(A_self, .inr (1, [.ref A_tape, .int x_4, .int M_self_start, .int r_3, .int self_value, .int self_wanted, .int self_compared, .int self_opened, .int self_nested, .ref A_pile, .int self_height, .ref A_acts, .ref A_shares, .ref A_starts, .int self_made, .ref A_code, .int self_codeLength])), (A_tape, .inr (3, [.ref A_tape_bytes, .int tape_length])), (A_tape_bytes, .inl (c 0, 800, .inl f_tape_bytes))] H := hP
              have hD : va_D A [(A_self, .inr (1, [.ref A_tape, .int x_4, .int M_self_start, .int r_3, .int self_value, .int self_wanted, .int self_compared, .int self_opened, .int self_nested, .ref A_pile, .int self_height, .ref A_acts, .ref A_shares, .ref A_starts, .int self_made, .ref A_code, .int self_codeLength])), (A_tape, .inr (3, [.ref A_tape_bytes, .int tape_length])), (A_tape_bytes, .inl (c 0, 800, .inl f_tape_bytes))] := hD
              have hP9 := hP.sub (ws' := [(A_self, .inr (1, [.ref A_tape, .int x_4, .int M_self_start, .int r_3, .int self_value, .int self_wanted, .int self_compared, .int self_opened, .int self_nested, .ref A_pile, .int self_height, .ref A_acts, .ref A_shares, .ref A_starts, .int self_made, .ref A_code, .int self_codeLength])), (A_tape, .inr (3, [.ref A_tape_bytes, .int tape_length])), (A_tape_bytes, .inl (c 0, 800, .inl f_tape_bytes))]) [0, 1, 2] rfl
              have hD9 := hD.sub (ws' := [(A_self, .inr (1, [.ref A_tape, .int x_4, .int M_self_start, .int r_3, .int self_value, .int self_wanted, .int self_compared, .int self_opened, .int self_nested, .ref A_pile, .int self_height, .ref A_acts, .ref A_shares, .ref A_starts, .int self_made, .ref A_code, .int self_codeLength])), (A_tape, .inr (3, [.ref A_tape_bytes, .int tape_length])), (A_tape_bytes, .inl (c 0, 800, .inl f_tape_bytes))]) [0, 1, 2] (by decide) rfl
              refine W.widen (k := 0) (n := 0) (by omega) (by omega) ?_
              exact W.vret hx hb hr (fun t ht hW => ⟨⟨(x_4, M_self_start, r_3, self_value, ()), rfl, trivial, ⟨by rw [ht]; exact hP9, hD9⟩⟩, hS.F ht⟩) hS.2.2 dX1_nextToken_242
            · skip
              refine iif_eqT (a := 0) (tgt := 237) hx hb (by decide) dX1_nextToken_230 (by decide) (by decide) ?_
              refine lv_bipush (v := (-2)) hx hb dX1_nextToken_237 (by decide) ?_
              refine va_put (D := D) (ci := 1) (v := .int (-2)) (ty := .int) (C := RX1) (T := TX1) (N := 17) hx hb hts (fun _ h => List.mem_cons_of_mem _ (List.mem_append_left _ (List.mem_append_right _ h))) tyX1 tyX1_ok nmX1 hown hK hP hD hS 0 rfl rfl 3 (by decide) (hts (.fieldLink RX1 60 "CrownTable$Reader" "token" "I") (mem_i 4 rfl)) (fun _ h9 => h9) rfl (by decide +kernel) rfl rfl (Nat.le_of_ble_eq_true rfl) dX1_nextToken_239 (fun H locs hP hD hS => ?_)
              have hP : va_P D vwCl [(A_self, .inr (1, [.ref A_tape, .int x_4, .int M_self_start, .int (-2), .int self_value, .int self_wanted, .int self_compared, .int self_opened, .int self_nested, .ref A_pile, .int self_height, .ref A_acts, .ref A_shares, .ref A_starts, .int self_made, .ref A_code, .int self_codeLength])), (A_tape, .inr (3, [.ref A_tape_bytes, .int tape_length])), (A_tape_bytes, .inl (c 0, 800, .inl f_tape_bytes))] H := hP
              have hD : va_D A [(A_self, .inr (1, [.ref A_tape, .int x_4, .int M_self_start, .int (-2), .int self_value, .int self_wanted, .int self_compared, .int self_opened, .int self_nested, .ref A_pile, .int self_height, .ref A_acts, .ref A_shares, .ref A_starts, .int self_made, .ref A_code, .int self_codeLength])), (A_tape, .inr (3, [.ref A_tape_bytes, .int tape_length])), (A_tape_bytes, .inl (c 0, 800, .inl f_tape_bytes))] := hD
              have kzz_34 : ((-2) : Int32).toInt = (-2) := by decide
              have hP9 := hP.sub (ws' := [(A_self, .inr (1, [.ref A_tape, .int x_4, .int M_self_start, .int (-2), .int self_value, .int self_wanted, .int self_compared, .int self_opened, .int self_nested, .ref A_pile, .int self_height, .ref A_acts, .ref A_shares, .ref A_starts, .int self_made, .ref A_code, .int self_codeLength])), (A_tape, .inr (3, [.ref A_tape_bytes, .int tape_length])), (A_tape_bytes, .inl (c 0, 800, .inl f_tape_bytes))]) [0, 1, 2] rfl
              have hD9 := hD.sub (ws' := [(A_self, .inr (1, [.ref A_tape, .int x_4, .int M_self_start, .int (-2), .int self_value, .int self_wanted, .int self_compared, .int self_opened, .int self_nested, .ref A_pile, .int self_height, .ref A_acts, .ref A_shares, .ref A_starts, .int self_made, .ref A_code, .int self_codeLength])), (A_tape, .inr (3, [.ref A_tape_bytes, .int tape_length])), (A_tape_bytes, .inl (c 0, 800, .inl f_tape_bytes))]) [0, 1, 2] (by decide) rfl
              refine W.widen (k := 0) (n := 0) (by omega) (by omega) ?_
              exact W.vret hx hb hr (fun t ht hW => ⟨⟨(x_4, M_self_start, (-2), self_value, ()), rfl, trivial, ⟨by rw [ht]; exact hP9, hD9⟩⟩, hS.F ht⟩) hS.2.2 dX1_nextToken_242
    · skip
      refine lv_aload_n hx hb dX1_nextToken_22 rfl (lv_at hl 0 rfl) ?_
      refine va_get (D := D) (ci := 1) (v := .ref A_tape) (C := RX1) (T := TX1) (N := 17) hx hb hts (fun _ h => List.mem_cons_of_mem _ (List.mem_append_left _ (List.mem_append_right _ h))) hown hK hP 0 rfl rfl 0 (by decide) (hts (.fieldLink RX1 27 "CrownTable$Reader" "tape" "LCrownTable$Tape;") (mem_i 3 rfl)) (fun _ h9 => h9) rfl dX1_nextToken_23 ?_
      refine lv_aload_n hx hb dX1_nextToken_26 rfl (lv_at hl 0 rfl) ?_
      refine va_get (D := D) (ci := 1) (v := .int M_self_start) (C := RX1) (T := TX1) (N := 17) hx hb hts (fun _ h => List.mem_cons_of_mem _ (List.mem_append_left _ (List.mem_append_right _ h))) hown hK hP 0 rfl rfl 2 (by decide) (hts (.fieldLink RX1 78 "CrownTable$Reader" "start" "I") (mem_i 2 rfl)) (fun _ h9 => h9) rfl dX1_nextToken_27 ?_
      have hPc := hP.sub (ws' := [(A_tape, .inr (3, [.ref A_tape_bytes, .int tape_length])), (A_tape_bytes, .inl (c 0, 800, .inl f_tape_bytes))]) [1, 2] rfl
      have hDc := hD.sub (ws' := [(A_tape, .inr (3, [.ref A_tape_bytes, .int tape_length])), (A_tape_bytes, .inl (c 0, 800, .inl f_tape_bytes))]) [1, 2] (by decide) rfl
      have hFc := va_free (wc := [(A_tape, .inr (3, [.ref A_tape_bytes, .int tape_length])), (A_tape_bytes, .inl (c 0, 800, .inl f_tape_bytes))]) hD hS hA [1, 2] rfl
      refine va_csi (va_runVN (As := [.int M_self_start]) (rest := []) ⟨hx, hb, hml, hown, hts⟩ (k_X3_byteAt l D c ts H.size A_tape_bytes A_tape f_tape_bytes tape_length i_tape_length hi_tape_length M_self_start M_self_start.toInt rfl (by omega)) ⟨va_cnB 1 hts gX1_nextToken_X3_byteAt_n86 rfl rfl rfl (show va_Nw (.methodLinkNest RX1 86 yX3_byteAt RX6) _ from hAm.2.1.1 (RX1, 86, yX3_byteAt, RX6) (mem_i 8 rfl)) (hts (.initialized RX3) (mem_i 7 rfl)) hdX3_byteAt ⟨(show 0 + 1 ≤ 6 by decide), (show 8 + (2 + 11) + 0 ≤ 133 by decide)⟩, (hts (.instanceMethod yX3_byteAt) (mem_i 6 rfl)), (hts (.selects RX3 yX3_byteAt yX3_byteAt) (mem_i 8 rfl))⟩ ⟨Pre0.blind, va_recv hK hPc (ci := 3) (q0 := 0) rfl rfl, Pre0.at hPc hDc hAm hSt hS hFc⟩ rfl rfl hl.1 rfl (lv_room (Nat.le_of_ble_eq_true rfl)) dX1_nextToken_30 ⟨(show 0 + 0 ≤ 0 by decide), (show 0 + 0 ≤ 0 by decide)⟩) (fun r_36 hw_35 => ?_)
      have rg_r_36 := i32r r_36
      have hPc := hP.sub (ws' := []) [] rfl
      have hDc := hD.sub (ws' := []) [] (by decide) rfl
      have hFc := va_free (wc := []) hD hS hA [] rfl
      refine va_csi (va_runS (As := [.int r_36]) (rest := []) ⟨hx, hb, hml, hown, hts⟩ (k_X1_isBlank l D c ts H.size r_36 r_36.toInt rfl) (cwS 1 hts gX1_nextToken_X1_isBlank rfl rfl rfl ⟨rfl, hdX1_isBlank⟩ ⟨(show 0 + 1 ≤ 6 by decide), (show 8 + (1 + 11) + 0 ≤ 133 by decide)⟩) ⟨Pre0.blind, Pre0.at hPc hDc hAm hSt hS hFc⟩ rfl rfl hl.1 rfl (lv_room (Nat.le_of_ble_eq_true rfl)) dX1_nextToken_33 ⟨(show 0 + 0 ≤ 0 by decide), (show 0 + 0 ≤ 0 by decide)⟩) (fun r_38 hw_37 => ?_)
      rcases hw_37 with ⟨hw_37, rfl⟩ | ⟨hw_37, rfl⟩
      · skip
        refine iif_eqF (a := 1) (tgt := 52) hx hb (by decide) dX1_nextToken_36 (by decide) (by decide) ?_
        refine lv_aload_n hx hb dX1_nextToken_39 rfl (lv_at hl 0 rfl) ?_
        refine lv_dup hx hb dX1_nextToken_40 rfl ?_
        refine va_get (D := D) (ci := 1) (v := .int M_self_start) (C := RX1) (T := TX1) (N := 17) hx hb hts (fun _ h => List.mem_cons_of_mem _ (List.mem_append_left _ (List.mem_append_right _ h))) hown hK hP 0 rfl rfl 2 (by decide) (hts (.fieldLink RX1 78 "CrownTable$Reader" "start" "I") (mem_i 2 rfl)) (fun _ h9 => h9) rfl dX1_nextToken_41 ?_
        refine lv_iconst (v := 1) hx hb dX1_nextToken_44 (by decide) ?_
        refine lv_iadd hx hb dX1_nextToken_45 ?_
        refine lv_topi (fun x_39 ex_39 => ?_)
        have tx_39 : x_39.toInt = (M_self_start.toInt + 1) := by rw [ex_39]; exact add_ti (a := M_self_start.toInt) (b := 1) rfl (by decide) (by omega) (by omega)
        refine va_put (D := D) (ci := 1) (v := .int x_39) (ty := .int) (C := RX1) (T := TX1) (N := 17) hx hb hts (fun _ h => List.mem_cons_of_mem _ (List.mem_append_left _ (List.mem_append_right _ h))) tyX1 tyX1_ok nmX1 hown hK hP hD hS 0 rfl rfl 2 (by decide) (hts (.fieldLink RX1 78 "CrownTable$Reader" "start" "I") (mem_i 2 rfl)) (fun _ h9 => h9) rfl (by decide +kernel) rfl rfl (Nat.le_of_ble_eq_true rfl) dX1_nextToken_46 (fun H locs hP hD hS => ?_)
        have hP : va_P D vwCl [(A_self, .inr (1, [.ref A_tape, .int self_place, .int x_39, .int self_token, .int self_value, .int self_wanted, .int self_compared, .int self_opened, .int self_nested, .ref A_pile, .int self_height, .ref A_acts, .ref A_shares, .ref A_starts, .int self_made, .ref A_code, .int self_codeLength])), (A_tape, .inr (3, [.ref A_tape_bytes, .int tape_length])), (A_tape_bytes, .inl (c 0, 800, .inl f_tape_bytes))] H := hP
        have hD : va_D A [(A_self, .inr (1, [.ref A_tape, .int self_place, .int x_39, .int self_token, .int self_value, .int self_wanted, .int self_compared, .int self_opened, .int self_nested, .ref A_pile, .int self_height, .ref A_acts, .ref A_shares, .ref A_starts, .int self_made, .ref A_code, .int self_codeLength])), (A_tape, .inr (3, [.ref A_tape_bytes, .int tape_length])), (A_tape_bytes, .inl (c 0, 800, .inl f_tape_bytes))] := hD
        refine lv_goto (tgt := 8) hx hb dX1_nextToken_49 (by decide) ?_
        exact (ih8 ((3000000000 - x_39.toInt).toNat) (by omega) x_39 rfl _ _ _ hP hD hS hl)
      · skip
        refine iif_eqT (a := 0) (tgt := 52) hx hb (by decide) dX1_nextToken_36 (by decide) (by decide) ?_
        refine lv_aload_n hx hb dX1_nextToken_52 rfl (lv_at hl 0 rfl) ?_
        refine va_get (D := D) (ci := 1) (v := .ref A_tape) (C := RX1) (T := TX1) (N := 17) hx hb hts (fun _ h => List.mem_cons_of_mem _ (List.mem_append_left _ (List.mem_append_right _ h))) hown hK hP 0 rfl rfl 0 (by decide) (hts (.fieldLink RX1 27 "CrownTable$Reader" "tape" "LCrownTable$Tape;") (mem_i 3 rfl)) (fun _ h9 => h9) rfl dX1_nextToken_53 ?_
        refine lv_aload_n hx hb dX1_nextToken_56 rfl (lv_at hl 0 rfl) ?_
        refine va_get (D := D) (ci := 1) (v := .int M_self_start) (C := RX1) (T := TX1) (N := 17) hx hb hts (fun _ h => List.mem_cons_of_mem _ (List.mem_append_left _ (List.mem_append_right _ h))) hown hK hP 0 rfl rfl 2 (by decide) (hts (.fieldLink RX1 78 "CrownTable$Reader" "start" "I") (mem_i 2 rfl)) (fun _ h9 => h9) rfl dX1_nextToken_57 ?_
        have hPc := hP.sub (ws' := [(A_tape, .inr (3, [.ref A_tape_bytes, .int tape_length])), (A_tape_bytes, .inl (c 0, 800, .inl f_tape_bytes))]) [1, 2] rfl
        have hDc := hD.sub (ws' := [(A_tape, .inr (3, [.ref A_tape_bytes, .int tape_length])), (A_tape_bytes, .inl (c 0, 800, .inl f_tape_bytes))]) [1, 2] (by decide) rfl
        have hFc := va_free (wc := [(A_tape, .inr (3, [.ref A_tape_bytes, .int tape_length])), (A_tape_bytes, .inl (c 0, 800, .inl f_tape_bytes))]) hD hS hA [1, 2] rfl
        refine va_csi (va_runVN (As := [.int M_self_start]) (rest := []) ⟨hx, hb, hml, hown, hts⟩ (k_X3_byteAt l D c ts H.size A_tape_bytes A_tape f_tape_bytes tape_length i_tape_length hi_tape_length M_self_start M_self_start.toInt rfl (by omega)) ⟨va_cnB 1 hts gX1_nextToken_X3_byteAt_n86 rfl rfl rfl (show va_Nw (.methodLinkNest RX1 86 yX3_byteAt RX6) _ from hAm.2.1.1 (RX1, 86, yX3_byteAt, RX6) (mem_i 8 rfl)) (hts (.initialized RX3) (mem_i 7 rfl)) hdX3_byteAt ⟨(show 0 + 1 ≤ 6 by decide), (show 8 + (2 + 11) + 0 ≤ 133 by decide)⟩, (hts (.instanceMethod yX3_byteAt) (mem_i 6 rfl)), (hts (.selects RX3 yX3_byteAt yX3_byteAt) (mem_i 8 rfl))⟩ ⟨Pre0.blind, va_recv hK hPc (ci := 3) (q0 := 0) rfl rfl, Pre0.at hPc hDc hAm hSt hS hFc⟩ rfl rfl hl.1 rfl (lv_room (Nat.le_of_ble_eq_true rfl)) dX1_nextToken_60 ⟨(show 0 + 0 ≤ 0 by decide), (show 0 + 0 ≤ 0 by decide)⟩) (fun r_41 hw_40 => ?_)
        have rg_r_41 := i32r r_41
        refine lv_istore_n (lv' := [(1, .int r_41), (0, .ref A_self)]) hx hb dX1_nextToken_63 rfl hl (by decide) rfl (fun ls hl => ?_)
        refine lv_aload_n hx hb dX1_nextToken_64 rfl (lv_at hl 1 rfl) ?_
        refine lv_aload_n hx hb dX1_nextToken_65 rfl (lv_at hl 1 rfl) ?_
        refine va_get (D := D) (ci := 1) (v := .int M_self_start) (C := RX1) (T := TX1) (N := 17) hx hb hts (fun _ h => List.mem_cons_of_mem _ (List.mem_append_left _ (List.mem_append_right _ h))) hown hK hP 0 rfl rfl 2 (by decide) (hts (.fieldLink RX1 78 "CrownTable$Reader" "start" "I") (mem_i 2 rfl)) (fun _ h9 => h9) rfl dX1_nextToken_66 ?_
        refine lv_iconst (v := 1) hx hb dX1_nextToken_69 (by decide) ?_
        refine lv_iadd hx hb dX1_nextToken_70 ?_
        refine lv_topi (fun x_42 ex_42 => ?_)
        have tx_42 : x_42.toInt = (M_self_start.toInt + 1) := by rw [ex_42]; exact add_ti (a := M_self_start.toInt) (b := 1) rfl (by decide) (by omega) (by omega)
        refine va_put (D := D) (ci := 1) (v := .int x_42) (ty := .int) (C := RX1) (T := TX1) (N := 17) hx hb hts (fun _ h => List.mem_cons_of_mem _ (List.mem_append_left _ (List.mem_append_right _ h))) tyX1 tyX1_ok nmX1 hown hK hP hD hS 0 rfl rfl 1 (by decide) (hts (.fieldLink RX1 31 "CrownTable$Reader" "place" "I") (mem_i 1 rfl)) (fun _ h9 => h9) rfl (by decide +kernel) rfl rfl (Nat.le_of_ble_eq_true rfl) dX1_nextToken_71 (fun H locs hP hD hS => ?_)
        have hP : va_P D vwCl [(A_self, .inr (1, [.ref A_tape, .int x_42, .int M_self_start, .int self_token, .int self_value, .int self_wanted, .int self_compared, .int self_opened, .int self_nested, .ref A_pile, .int self_height, .ref A_acts, .ref A_shares, .ref A_starts, .int self_made, .ref A_code, .int self_codeLength])), (A_tape, .inr (3, [.ref A_tape_bytes, .int tape_length])), (A_tape_bytes, .inl (c 0, 800, .inl f_tape_bytes))] H := hP
        have hD : va_D A [(A_self, .inr (1, [.ref A_tape, .int x_42, .int M_self_start, .int self_token, .int self_value, .int self_wanted, .int self_compared, .int self_opened, .int self_nested, .ref A_pile, .int self_height, .ref A_acts, .ref A_shares, .ref A_starts, .int self_made, .ref A_code, .int self_codeLength])), (A_tape, .inr (3, [.ref A_tape_bytes, .int tape_length])), (A_tape_bytes, .inl (c 0, 800, .inl f_tape_bytes))] := hD
        refine lv_iload_n hx hb dX1_nextToken_74 rfl (lv_at hl 0 rfl) ?_
        have hPc := hP.sub (ws' := []) [] rfl
        have hDc := hD.sub (ws' := []) [] (by decide) rfl
        have hFc := va_free (wc := []) hD hS hA [] rfl
        refine va_csi (va_runS (As := [.int r_41]) (rest := []) ⟨hx, hb, hml, hown, hts⟩ (k_X1_isLetter l D c ts H.size r_41 r_41.toInt rfl) (cwS 1 hts gX1_nextToken_X1_isLetter rfl rfl rfl ⟨rfl, hdX1_isLetter⟩ ⟨(show 0 + 1 ≤ 6 by decide), (show 8 + (1 + 11) + 0 ≤ 133 by decide)⟩) ⟨Pre0.blind, Pre0.at hPc hDc hAm hSt hS hFc⟩ rfl rfl hl.1 rfl (lv_room (Nat.le_of_ble_eq_true rfl)) dX1_nextToken_75 ⟨(show 0 + 0 ≤ 0 by decide), (show 0 + 0 ≤ 0 by decide)⟩) (fun r_44 hw_43 => ?_)
        rcases hw_43 with ⟨hw_43, rfl⟩ | ⟨hw_43, rfl⟩
        · skip
          refine iif_eqF (a := 1) (tgt := 144) hx hb (by decide) dX1_nextToken_78 (by decide) (by decide) ?_
          have lp_81 : ∀ (N : Nat) (M_self_place : Int32) (hN81 : (3000000000 - M_self_place.toInt).toNat = N) (H : Heap) (locs : List Loc) (ls : Array Slot), va_P D vwCl [(A_self, .inr (1, [.ref A_tape, .int M_self_place, .int M_self_start, .int self_token, .int self_value, .int self_wanted, .int self_compared, .int self_opened, .int self_nested, .ref A_pile, .int self_height, .ref A_acts, .ref A_shares, .ref A_starts, .int self_made, .ref A_code, .int self_codeLength])), (A_tape, .inr (3, [.ref A_tape_bytes, .int tape_length])), (A_tape_bytes, .inl (c 0, 800, .inl f_tape_bytes))] H → va_D A [(A_self, .inr (1, [.ref A_tape, .int M_self_place, .int M_self_start, .int self_token, .int self_value, .int self_wanted, .int self_compared, .int self_opened, .int self_nested, .ref A_pile, .int self_height, .ref A_acts, .ref A_shares, .ref A_starts, .int self_made, .ref A_code, .int self_codeLength])), (A_tape, .inr (3, [.ref A_tape_bytes, .int tape_length])), (A_tape_bytes, .inl (c 0, 800, .inl f_tape_bytes))] → va_S A s.heap H locs → lv_has ls 2 [(1, .int r_41), (0, .ref A_self)] → W p l e (headSpec wsX1_nextToken ({ frames := 6, cells := 0, slots := 0, locals := 133 })).room s m (([.ref A_self] : List Value).toArray) below meth cd H locs 0 0 (MQ below (va_Qv (fun (u : Int32 × Int32 × Int32 × Int32 × Unit) => True) (fun u t => va_P D vwCl [(A_self, .inr (1, [.ref A_tape, .int u.1, .int u.2.1, .int u.2.2.1, .int u.2.2.2.1, .int self_wanted, .int self_compared, .int self_opened, .int self_nested, .ref A_pile, .int self_height, .ref A_acts, .ref A_shares, .ref A_starts, .int self_made, .ref A_code, .int self_codeLength])), (A_tape, .inr (3, [.ref A_tape_bytes, .int tape_length])), (A_tape_bytes, .inl (c 0, 800, .inl f_tape_bytes))] t.heap ∧ va_D A [(A_self, .inr (1, [.ref A_tape, .int u.1, .int u.2.1, .int u.2.2.1, .int u.2.2.2.1, .int self_wanted, .int self_compared, .int self_opened, .int self_nested, .ref A_pile, .int self_height, .ref A_acts, .ref A_shares, .ref A_starts, .int self_made, .ref A_code, .int self_codeLength])), (A_tape, .inr (3, [.ref A_tape_bytes, .int tape_length])), (A_tape_bytes, .inl (c 0, 800, .inl f_tape_bytes))]) A) ([.ref A_self] : List Value).toArray s 0 0 A) (F0 m 81 ls []) := by
            refine st_ind (fun N ih81 => ?_)
            intro M_self_place hN81 H locs ls hP hD hS hl
            have rg_M_self_place := i32r M_self_place
            refine lv_aload_n hx hb dX1_nextToken_81 rfl (lv_at hl 1 rfl) ?_
            refine va_get (D := D) (ci := 1) (v := .int M_self_place) (C := RX1) (T := TX1) (N := 17) hx hb hts (fun _ h => List.mem_cons_of_mem _ (List.mem_append_left _ (List.mem_append_right _ h))) hown hK hP 0 rfl rfl 1 (by decide) (hts (.fieldLink RX1 31 "CrownTable$Reader" "place" "I") (mem_i 1 rfl)) (fun _ h9 => h9) rfl dX1_nextToken_82 ?_
            refine lv_aload_n hx hb dX1_nextToken_85 rfl (lv_at hl 1 rfl) ?_
            refine va_get (D := D) (ci := 1) (v := .ref A_tape) (C := RX1) (T := TX1) (N := 17) hx hb hts (fun _ h => List.mem_cons_of_mem _ (List.mem_append_left _ (List.mem_append_right _ h))) hown hK hP 0 rfl rfl 0 (by decide) (hts (.fieldLink RX1 27 "CrownTable$Reader" "tape" "LCrownTable$Tape;") (mem_i 3 rfl)) (fun _ h9 => h9) rfl dX1_nextToken_86 ?_
            refine va_getN (D := D) (ci := 3) (v := .int tape_length) (own := RX1) (ref := "CrownTable$Tape") (host := RX6) (index := 81) (C := RX3) (T := TX3) (N := 2) hx hb hts (fun _ h => List.mem_cons_of_mem _ (List.mem_append_right _ h)) hown hK hP 1 rfl rfl 1 (by decide) (show (Cond.fieldLinkNest RX1 81 "CrownTable$Tape" "length" "I" RX6).before _ _ = true from va_Nw.use rfl (hAm.2.1.2 (RX1, 81, "CrownTable$Tape", "length", "I", RX6) (mem_i 1 rfl))) (fun _ h9 => h9) rfl dX1_nextToken_89 ?_
            refine iicmp_ge (a := M_self_place.toInt) (b := i_tape_length) (tgt := 125) hx hb rfl hi_tape_length dX1_nextToken_92 (by decide) (fun k_45 => ?_) (fun k_45 => ?_)
            · skip
              refine lv_aload_n hx hb dX1_nextToken_125 rfl (lv_at hl 1 rfl) ?_
              refine lv_aload_n hx hb dX1_nextToken_126 rfl (lv_at hl 1 rfl) ?_
              refine lv_aload_n hx hb dX1_nextToken_127 rfl (lv_at hl 1 rfl) ?_
              refine va_get (D := D) (ci := 1) (v := .int M_self_start) (C := RX1) (T := TX1) (N := 17) hx hb hts (fun _ h => List.mem_cons_of_mem _ (List.mem_append_left _ (List.mem_append_right _ h))) hown hK hP 0 rfl rfl 2 (by decide) (hts (.fieldLink RX1 78 "CrownTable$Reader" "start" "I") (mem_i 2 rfl)) (fun _ h9 => h9) rfl dX1_nextToken_128 ?_
              refine lv_aload_n hx hb dX1_nextToken_131 rfl (lv_at hl 1 rfl) ?_
              refine va_get (D := D) (ci := 1) (v := .int M_self_place) (C := RX1) (T := TX1) (N := 17) hx hb hts (fun _ h => List.mem_cons_of_mem _ (List.mem_append_left _ (List.mem_append_right _ h))) hown hK hP 0 rfl rfl 1 (by decide) (hts (.fieldLink RX1 31 "CrownTable$Reader" "place" "I") (mem_i 1 rfl)) (fun _ h9 => h9) rfl dX1_nextToken_132 ?_
              have hPc := hP.sub (ws' := [(A_self, .inr (1, [.ref A_tape, .int M_self_place, .int M_self_start, .int self_token, .int self_value, .int self_wanted, .int self_compared, .int self_opened, .int self_nested, .ref A_pile, .int self_height, .ref A_acts, .ref A_shares, .ref A_starts, .int self_made, .ref A_code, .int self_codeLength])), (A_tape, .inr (3, [.ref A_tape_bytes, .int tape_length])), (A_tape_bytes, .inl (c 0, 800, .inl f_tape_bytes))]) [0, 1, 2] rfl
              have hDc := hD.sub (ws' := [(A_self, .inr (1, [.ref A_tape, .int M_self_place, .int M_self_start, .int self_token, .int self_value, .int self_wanted, .int self_compared, .int self_opened, .int self_nested, .ref A_pile, .int self_height, .ref A_acts, .ref A_shares, .ref A_starts, .int self_made, .ref A_code, .int self_codeLength])), (A_tape, .inr (3, [.ref A_tape_bytes, .int tape_length])), (A_tape_bytes, .inl (c 0, 800, .inl f_tape_bytes))]) [0, 1, 2] (by decide) rfl
              have hFc := va_free (wc := [(A_self, .inr (1, [.ref A_tape, .int M_self_place, .int M_self_start, .int self_token, .int self_value, .int self_wanted, .int self_compared, .int self_opened, .int self_nested, .ref A_pile, .int self_height, .ref A_acts, .ref A_shares, .ref A_starts, .int self_made, .ref A_code, .int self_codeLength])), (A_tape, .inr (3, [.ref A_tape_bytes, .int tape_length])), (A_tape_bytes, .inl (c 0, 800, .inl f_tape_bytes))]) hD hS hA [0, 1, 2] rfl
              refine va_csi (va_runV (As := [.int M_self_start, .int M_self_place]) (rest := [.ref A_self]) ⟨hx, hb, hml, hown, hts⟩ (k_X1_wordAt l D c ts H.size A_tape A_pile A_acts A_shares A_starts A_code A_self A_tape_bytes f_tape_bytes M_self_place M_self_place.toInt rfl M_self_start M_self_start.toInt rfl self_token i_self_token hi_self_token self_value i_self_value hi_self_value self_wanted i_self_wanted hi_self_wanted self_compared i_self_compared hi_self_compared self_opened i_self_opened hi_self_opened self_nested i_self_nested hi_self_nested self_height i_self_height hi_self_height self_made i_self_made hi_self_made self_codeLength i_self_codeLength hi_self_codeLength tape_length i_tape_length hi_tape_length M_self_start M_self_start.toInt rfl M_self_place M_self_place.toInt rfl (by omega) (by omega) (by omega) (by omega) (by omega)) (cwV 2 hts gX1_nextToken_X1_wordAt rfl rfl rfl ⟨rfl, hdX1_wordAt⟩ ⟨(show 5 + 1 ≤ 6 by decide), (show 8 + (4 + 11) + 110 ≤ 133 by decide)⟩) ⟨Pre0.blind, va_recv hK hPc (ci := 1) (q0 := 0) rfl rfl, Pre0.at hPc hDc hAm hSt hS hFc⟩ rfl rfl hl.1 rfl (lv_room (Nat.le_of_ble_eq_true rfl)) dX1_nextToken_135 ⟨(show 0 + 0 ≤ 0 by decide), (show 0 + 0 ≤ 0 by decide)⟩) (fun r_47 hw_46 => ?_)
              have rg_r_47 := i32r r_47
              refine va_put (D := D) (ci := 1) (v := .int r_47) (ty := .int) (C := RX1) (T := TX1) (N := 17) hx hb hts (fun _ h => List.mem_cons_of_mem _ (List.mem_append_left _ (List.mem_append_right _ h))) tyX1 tyX1_ok nmX1 hown hK hP hD hS 0 rfl rfl 3 (by decide) (hts (.fieldLink RX1 60 "CrownTable$Reader" "token" "I") (mem_i 4 rfl)) (fun _ h9 => h9) rfl (by decide +kernel) rfl rfl (Nat.le_of_ble_eq_true rfl) dX1_nextToken_138 (fun H locs hP hD hS => ?_)
              have hP : va_P D vwCl [(A_self, .inr (1, [.ref A_tape, .int M_self_place, .int M_self_start, .int r_47, .int self_value, .int self_wanted, .int self_compared, .int self_opened, .int self_nested, .ref A_pile, .int self_height, .ref A_acts, .ref A_shares, .ref A_starts, .int self_made, .ref A_code, .int self_codeLength])), (A_tape, .inr (3, [.ref A_tape_bytes, .int tape_length])), (A_tape_bytes, .inl (c 0, 800, .inl f_tape_bytes))] H := hP
              have hD : va_D A [(A_self, .inr (1, [.ref A_tape, .int M_self_place, .int M_self_start, .int r_47, .int self_value, .int self_wanted, .int self_compared, .int self_opened, .int self_nested, .ref A_pile, .int self_height, .ref A_acts, .ref A_shares, .ref A_starts, .int self_made, .ref A_code, .int self_codeLength])), (A_tape, .inr (3, [.ref A_tape_bytes, .int tape_length])), (A_tape_bytes, .inl (c 0, 800, .inl f_tape_bytes))] := hD
              refine lv_goto (tgt := 242) hx hb dX1_nextToken_141 (by decide) ?_
              have hP9 := hP.sub (ws' := [(A_self, .inr (1, [.ref A_tape, .int M_self_place, .int M_self_start, .int r_47, .int self_value, .int self_wanted, .int self_compared, .int self_opened, .int self_nested, .ref A_pile, .int self_height, .ref A_acts, .ref A_shares, .ref A_starts, .int self_made, .ref A_code, .int self_codeLength])), (A_tape, .inr (3, [.ref A_tape_bytes, .int tape_length])), (A_tape_bytes, .inl (c 0, 800, .inl f_tape_bytes))]) [0, 1, 2] rfl
              have hD9 := hD.sub (ws' := [(A_self, .inr (1, [.ref A_tape, .int M_self_place, .int M_self_start, .int r_47, .int self_value, .int self_wanted, .int self_compared, .int self_opened, .int self_nested, .ref A_pile, .int self_height, .ref A_acts, .ref A_shares, .ref A_starts, .int self_made, .ref A_code, .int self_codeLength])), (A_tape, .inr (3, [.ref A_tape_bytes, .int tape_length])), (A_tape_bytes, .inl (c 0, 800, .inl f_tape_bytes))]) [0, 1, 2] (by decide) rfl
              refine W.widen (k := 0) (n := 0) (by omega) (by omega) ?_
              exact W.vret hx hb hr (fun t ht hW => ⟨⟨(M_self_place, M_self_start, r_47, self_value, ()), rfl, trivial, ⟨by rw [ht]; exact hP9, hD9⟩⟩, hS.F ht⟩) hS.2.2 dX1_nextToken_242
            · skip
              refine lv_aload_n hx hb dX1_nextToken_95 rfl (lv_at hl 1 rfl) ?_
              refine va_get (D := D) (ci := 1) (v := .ref A_tape) (C := RX1) (T := TX1) (N := 17) hx hb hts (fun _ h => List.mem_cons_of_mem _ (List.mem_append_left _ (List.mem_append_right _ h))) hown hK hP 0 rfl rfl 0 (by decide) (hts (.fieldLink RX1 27 "CrownTable$Reader" "tape" "LCrownTable$Tape;") (mem_i 3 rfl)) (fun _ h9 => h9) rfl dX1_nextToken_96 ?_
              refine lv_aload_n hx hb dX1_nextToken_99 rfl (lv_at hl 1 rfl) ?_
              refine va_get (D := D) (ci := 1) (v := .int M_self_place) (C := RX1) (T := TX1) (N := 17) hx hb hts (fun _ h => List.mem_cons_of_mem _ (List.mem_append_left _ (List.mem_append_right _ h))) hown hK hP 0 rfl rfl 1 (by decide) (hts (.fieldLink RX1 31 "CrownTable$Reader" "place" "I") (mem_i 1 rfl)) (fun _ h9 => h9) rfl dX1_nextToken_100 ?_
              have hPc := hP.sub (ws' := [(A_tape, .inr (3, [.ref A_tape_bytes, .int tape_length])), (A_tape_bytes, .inl (c 0, 800, .inl f_tape_bytes))]) [1, 2] rfl
              have hDc := hD.sub (ws' := [(A_tape, .inr (3, [.ref A_tape_bytes, .int tape_length])), (A_tape_bytes, .inl (c 0, 800, .inl f_tape_bytes))]) [1, 2] (by decide) rfl
              have hFc := va_free (wc := [(A_tape, .inr (3, [.ref A_tape_bytes, .int tape_length])), (A_tape_bytes, .inl (c 0, 800, .inl f_tape_bytes))]) hD hS hA [1, 2] rfl
              refine va_csi (va_runVN (As := [.int M_self_place]) (rest := []) ⟨hx, hb, hml, hown, hts⟩ (k_X3_byteAt l D c ts H.size A_tape_bytes A_tape f_tape_bytes tape_length i_tape_length hi_tape_length M_self_place M_self_place.toInt rfl (by omega)) ⟨va_cnB 1 hts gX1_nextToken_X3_byteAt_n86 rfl rfl rfl (show va_Nw (.methodLinkNest RX1 86 yX3_byteAt RX6) _ from hAm.2.1.1 (RX1, 86, yX3_byteAt, RX6) (mem_i 8 rfl)) (hts (.initialized RX3) (mem_i 7 rfl)) hdX3_byteAt ⟨(show 0 + 1 ≤ 6 by decide), (show 8 + (2 + 11) + 0 ≤ 133 by decide)⟩, (hts (.instanceMethod yX3_byteAt) (mem_i 6 rfl)), (hts (.selects RX3 yX3_byteAt yX3_byteAt) (mem_i 8 rfl))⟩ ⟨Pre0.blind, va_recv hK hPc (ci := 3) (q0 := 0) rfl rfl, Pre0.at hPc hDc hAm hSt hS hFc⟩ rfl rfl hl.1 rfl (lv_room (Nat.le_of_ble_eq_true rfl)) dX1_nextToken_103 ⟨(show 0 + 0 ≤ 0 by decide), (show 0 + 0 ≤ 0 by decide)⟩) (fun r_49 hw_48 => ?_)
              have rg_r_49 := i32r r_49
              have hPc := hP.sub (ws' := []) [] rfl
              have hDc := hD.sub (ws' := []) [] (by decide) rfl
              have hFc := va_free (wc := []) hD hS hA [] rfl
              refine va_csi (va_runS (As := [.int r_49]) (rest := []) ⟨hx, hb, hml, hown, hts⟩ (k_X1_isLetter l D c ts H.size r_49 r_49.toInt rfl) (cwS 1 hts gX1_nextToken_X1_isLetter rfl rfl rfl ⟨rfl, hdX1_isLetter⟩ ⟨(show 0 + 1 ≤ 6 by decide), (show 8 + (1 + 11) + 0 ≤ 133 by decide)⟩) ⟨Pre0.blind, Pre0.at hPc hDc hAm hSt hS hFc⟩ rfl rfl hl.1 rfl (lv_room (Nat.le_of_ble_eq_true rfl)) dX1_nextToken_106 ⟨(show 0 + 0 ≤ 0 by decide), (show 0 + 0 ≤ 0 by decide)⟩) (fun r_51 hw_50 => ?_)
              rcases hw_50 with ⟨hw_50, rfl⟩ | ⟨hw_50, rfl⟩
              · skip
                refine iif_eqF (a := 1) (tgt := 125) hx hb (by decide) dX1_nextToken_109 (by decide) (by decide) ?_
                refine lv_aload_n hx hb dX1_nextToken_112 rfl (lv_at hl 1 rfl) ?_
                refine lv_dup hx hb dX1_nextToken_113 rfl ?_
                refine va_get (D := D) (ci := 1) (v := .int M_self_place) (C := RX1) (T := TX1) (N := 17) hx hb hts (fun _ h => List.mem_cons_of_mem _ (List.mem_append_left _ (List.mem_append_right _ h))) hown hK hP 0 rfl rfl 1 (by decide) (hts (.fieldLink RX1 31 "CrownTable$Reader" "place" "I") (mem_i 1 rfl)) (fun _ h9 => h9) rfl dX1_nextToken_114 ?_
                refine lv_iconst (v := 1) hx hb dX1_nextToken_117 (by decide) ?_
                refine lv_iadd hx hb dX1_nextToken_118 ?_
                refine lv_topi (fun x_52 ex_52 => ?_)
                have tx_52 : x_52.toInt = (M_self_place.toInt + 1) := by rw [ex_52]; exact add_ti (a := M_self_place.toInt) (b := 1) rfl (by decide) (by omega) (by omega)
                refine va_put (D := D) (ci := 1) (v := .int x_52) (ty := .int) (C := RX1) (T := TX1) (N := 17) hx hb hts (fun _ h => List.mem_cons_of_mem _ (List.mem_append_left _ (List.mem_append_right _ h))) tyX1 tyX1_ok nmX1 hown hK hP hD hS 0 rfl rfl 1 (by decide) (hts (.fieldLink RX1 31 "CrownTable$Reader" "place" "I") (mem_i 1 rfl)) (fun _ h9 => h9) rfl (by decide +kernel) rfl rfl (Nat.le_of_ble_eq_true rfl) dX1_nextToken_119 (fun H locs hP hD hS => ?_)
                have hP : va_P D vwCl [(A_self, .inr (1, [.ref A_tape, .int x_52, .int M_self_start, .int self_token, .int self_value, .int self_wanted, .int self_compared, .int self_opened, .int self_nested, .ref A_pile, .int self_height, .ref A_acts, .ref A_shares, .ref A_starts, .int self_made, .ref A_code, .int self_codeLength])), (A_tape, .inr (3, [.ref A_tape_bytes, .int tape_length])), (A_tape_bytes, .inl (c 0, 800, .inl f_tape_bytes))] H := hP
                have hD : va_D A [(A_self, .inr (1, [.ref A_tape, .int x_52, .int M_self_start, .int self_token, .int self_value, .int self_wanted, .int self_compared, .int self_opened, .int self_nested, .ref A_pile, .int self_height, .ref A_acts, .ref A_shares, .ref A_starts, .int self_made, .ref A_code, .int self_codeLength])), (A_tape, .inr (3, [.ref A_tape_bytes, .int tape_length])), (A_tape_bytes, .inl (c 0, 800, .inl f_tape_bytes))] := hD
                refine lv_goto (tgt := 81) hx hb dX1_nextToken_122 (by decide) ?_
                exact (ih81 ((3000000000 - x_52.toInt).toNat) (by omega) x_52 rfl _ _ _ hP hD hS hl)
              · skip
                refine iif_eqT (a := 0) (tgt := 125) hx hb (by decide) dX1_nextToken_109 (by decide) (by decide) ?_
                refine lv_aload_n hx hb dX1_nextToken_125 rfl (lv_at hl 1 rfl) ?_
                refine lv_aload_n hx hb dX1_nextToken_126 rfl (lv_at hl 1 rfl) ?_
                refine lv_aload_n hx hb dX1_nextToken_127 rfl (lv_at hl 1 rfl) ?_
                refine va_get (D := D) (ci := 1) (v := .int M_self_start) (C := RX1) (T := TX1) (N := 17) hx hb hts (fun _ h => List.mem_cons_of_mem _ (List.mem_append_left _ (List.mem_append_right _ h))) hown hK hP 0 rfl rfl 2 (by decide) (hts (.fieldLink RX1 78 "CrownTable$Reader" "start" "I") (mem_i 2 rfl)) (fun _ h9 => h9) rfl dX1_nextToken_128 ?_
                refine lv_aload_n hx hb dX1_nextToken_131 rfl (lv_at hl 1 rfl) ?_
                refine va_get (D := D) (ci := 1) (v := .int M_self_place) (C := RX1) (T := TX1) (N := 17) hx hb hts (fun _ h => List.mem_cons_of_mem _ (List.mem_append_left _ (List.mem_append_right _ h))) hown hK hP 0 rfl rfl 1 (by decide) (hts (.fieldLink RX1 31 "CrownTable$Reader" "place" "I") (mem_i 1 rfl)) (fun _ h9 => h9) rfl dX1_nextToken_132 ?_
                have hPc := hP.sub (ws' := [(A_self, .inr (1, [.ref A_tape, .int M_self_place, .int M_self_start, .int self_token, .int self_value, .int self_wanted, .int self_compared, .int self_opened, .int self_nested, .ref A_pile, .int self_height, .ref A_acts, .ref A_shares, .ref A_starts, .int self_made, .ref A_code, .int self_codeLength])), (A_tape, .inr (3, [.ref A_tape_bytes, .int tape_length])), (A_tape_bytes, .inl (c 0, 800, .inl f_tape_bytes))]) [0, 1, 2] rfl
                have hDc := hD.sub (ws' := [(A_self, .inr (1, [.ref A_tape, .int M_self_place, .int M_self_start, .int self_token, .int self_value, .int self_wanted, .int self_compared, .int self_opened, .int self_nested, .ref A_pile, .int self_height, .ref A_acts, .ref A_shares, .ref A_starts, .int self_made, .ref A_code, .int self_codeLength])), (A_tape, .inr (3, [.ref A_tape_bytes, .int tape_length])), (A_tape_bytes, .inl (c 0, 800, .inl f_tape_bytes))]) [0, 1, 2] (by decide) rfl
                have hFc := va_free (wc := [(A_self, .inr (1, [.ref A_tape, .int M_self_place, .int M_self_start, .int self_token, .int self_value, .int self_wanted, .int self_compared, .int self_opened, .int self_nested, .ref A_pile, .int self_height, .ref A_acts, .ref A_shares, .ref A_starts, .int self_made, .ref A_code, .int self_codeLength])), (A_tape, .inr (3, [.ref A_tape_bytes, .int tape_length])), (A_tape_bytes, .inl (c 0, 800, .inl f_tape_bytes))]) hD hS hA [0, 1, 2] rfl
                refine va_csi (va_runV (As := [.int M_self_start, .int M_self_place]) (rest := [.ref A_self]) ⟨hx, hb, hml, hown, hts⟩ (k_X1_wordAt l D c ts H.size A_tape A_pile A_acts A_shares A_starts A_code A_self A_tape_bytes f_tape_bytes M_self_place M_self_place.toInt rfl M_self_start M_self_start.toInt rfl self_token i_self_token hi_self_token self_value i_self_value hi_self_value self_wanted i_self_wanted hi_self_wanted self_compared i_self_compared hi_self_compared self_opened i_self_opened hi_self_opened self_nested i_self_nested hi_self_nested self_height i_self_height hi_self_height self_made i_self_made hi_self_made self_codeLength i_self_codeLength hi_self_codeLength tape_length i_tape_length hi_tape_length M_self_start M_self_start.toInt rfl M_self_place M_self_place.toInt rfl (by omega) (by omega) (by omega) (by omega) (by omega)) (cwV 2 hts gX1_nextToken_X1_wordAt rfl rfl rfl ⟨rfl, hdX1_wordAt⟩ ⟨(show 5 + 1 ≤ 6 by decide), (show 8 + (4 + 11) + 110 ≤ 133 by decide)⟩) ⟨Pre0.blind, va_recv hK hPc (ci := 1) (q0 := 0) rfl rfl, Pre0.at hPc hDc hAm hSt hS hFc⟩ rfl rfl hl.1 rfl (lv_room (Nat.le_of_ble_eq_true rfl)) dX1_nextToken_135 ⟨(show 0 + 0 ≤ 0 by decide), (show 0 + 0 ≤ 0 by decide)⟩) (fun r_54 hw_53 => ?_)
                have rg_r_54 := i32r r_54
                refine va_put (D := D) (ci := 1) (v := .int r_54) (ty := .int) (C := RX1) (T := TX1) (N := 17) hx hb hts (fun _ h => List.mem_cons_of_mem _ (List.mem_append_left _ (List.mem_append_right _ h))) tyX1 tyX1_ok nmX1 hown hK hP hD hS 0 rfl rfl 3 (by decide) (hts (.fieldLink RX1 60 "CrownTable$Reader" "token" "I") (mem_i 4 rfl)) (fun _ h9 => h9) rfl (by decide +kernel) rfl rfl (Nat.le_of_ble_eq_true rfl) dX1_nextToken_138 (fun H locs hP hD hS => ?_)
                have hP : va_P D vwCl [(A_self, .inr (1, [.ref A_tape, .int M_self_place, .int M_self_start, .int r_54, .int self_value, .int self_wanted, .int self_compared, .int self_opened, .int self_nested, .ref A_pile, .int self_height, .ref A_acts, .ref A_shares, .ref A_starts, .int self_made, .ref A_code, .int self_codeLength])), (A_tape, .inr (3, [.ref A_tape_bytes, .int tape_length])), (A_tape_bytes, .inl (c 0, 800, .inl f_tape_bytes))] H := hP
                have hD : va_D A [(A_self, .inr (1, [.ref A_tape, .int M_self_place, .int M_self_start, .int r_54, .int self_value, .int self_wanted, .int self_compared, .int self_opened, .int self_nested, .ref A_pile, .int self_height, .ref A_acts, .ref A_shares, .ref A_starts, .int self_made, .ref A_code, .int self_codeLength])), (A_tape, .inr (3, [.ref A_tape_bytes, .int tape_length])), (A_tape_bytes, .inl (c 0, 800, .inl f_tape_bytes))] := hD
                refine lv_goto (tgt := 242) hx hb dX1_nextToken_141 (by decide) ?_
                have hP9 := hP.sub (ws' := [(A_self, .inr (1, [.ref A_tape, .int M_self_place, .int M_self_start, .int r_54, .int self_value, .int self_wanted, .int self_compared, .int self_opened, .int self_nested, .ref A_pile, .int self_height, .ref A_acts, .ref A_shares, .ref A_starts, .int self_made, .ref A_code, .int self_codeLength])), (A_tape, .inr (3, [.ref A_tape_bytes, .int tape_length])), (A_tape_bytes, .inl (c 0, 800, .inl f_tape_bytes))]) [0, 1, 2] rfl
                have hD9 := hD.sub (ws' := [(A_self, .inr (1, [.ref A_tape, .int M_self_place, .int M_self_start, .int r_54, .int self_value, .int self_wanted, .int self_compared, .int self_opened, .int self_nested, .ref A_pile, .int self_height, .ref A_acts, .ref A_shares, .ref A_starts, .int self_made, .ref A_code, .int self_codeLength])), (A_tape, .inr (3, [.ref A_tape_bytes, .int tape_length])), (A_tape_bytes, .inl (c 0, 800, .inl f_tape_bytes))]) [0, 1, 2] (by decide) rfl
                refine W.widen (k := 0) (n := 0) (by omega) (by omega) ?_
                exact W.vret hx hb hr (fun t ht hW => ⟨⟨(M_self_place, M_self_start, r_54, self_value, ()), rfl, trivial, ⟨by rw [ht]; exact hP9, hD9⟩⟩, hS.F ht⟩) hS.2.2 dX1_nextToken_242
          exact (lp_81 _ x_42 rfl _ _ _ hP hD hS hl)
        · skip
          refine iif_eqT (a := 0) (tgt := 144) hx hb (by decide) dX1_nextToken_78 (by decide) (by decide) ?_
          refine lv_iload_n hx hb dX1_nextToken_144 rfl (lv_at hl 0 rfl) ?_
          have hPc := hP.sub (ws' := []) [] rfl
          have hDc := hD.sub (ws' := []) [] (by decide) rfl
          have hFc := va_free (wc := []) hD hS hA [] rfl
          refine va_csi (va_runS (As := [.int r_41]) (rest := []) ⟨hx, hb, hml, hown, hts⟩ (k_X1_isDigit l D c ts H.size r_41 r_41.toInt rfl) (cwS 1 hts gX1_nextToken_X1_isDigit rfl rfl rfl ⟨rfl, hdX1_isDigit⟩ ⟨(show 0 + 1 ≤ 6 by decide), (show 8 + (1 + 11) + 0 ≤ 133 by decide)⟩) ⟨Pre0.blind, Pre0.at hPc hDc hAm hSt hS hFc⟩ rfl rfl hl.1 rfl (lv_room (Nat.le_of_ble_eq_true rfl)) dX1_nextToken_145 ⟨(show 0 + 0 ≤ 0 by decide), (show 0 + 0 ≤ 0 by decide)⟩) (fun r_56 hw_55 => ?_)
          rcases hw_55 with ⟨hw_55, rfl⟩ | ⟨hw_55, rfl⟩
          · skip
            refine iif_eqF (a := 1) (tgt := 220) hx hb (by decide) dX1_nextToken_148 (by decide) (by decide) ?_
            have lp_151 : ∀ (N : Nat) (M_self_place : Int32) (hN151 : (3000000000 - M_self_place.toInt).toNat = N) (H : Heap) (locs : List Loc) (ls : Array Slot), va_P D vwCl [(A_self, .inr (1, [.ref A_tape, .int M_self_place, .int M_self_start, .int self_token, .int self_value, .int self_wanted, .int self_compared, .int self_opened, .int self_nested, .ref A_pile, .int self_height, .ref A_acts, .ref A_shares, .ref A_starts, .int self_made, .ref A_code, .int self_codeLength])), (A_tape, .inr (3, [.ref A_tape_bytes, .int tape_length])), (A_tape_bytes, .inl (c 0, 800, .inl f_tape_bytes))] H → va_D A [(A_self, .inr (1, [.ref A_tape, .int M_self_place, .int M_self_start, .int self_token, .int self_value, .int self_wanted, .int self_compared, .int self_opened, .int self_nested, .ref A_pile, .int self_height, .ref A_acts, .ref A_shares, .ref A_starts, .int self_made, .ref A_code, .int self_codeLength])), (A_tape, .inr (3, [.ref A_tape_bytes, .int tape_length])), (A_tape_bytes, .inl (c 0, 800, .inl f_tape_bytes))] → va_S A s.heap H locs → lv_has ls 2 [(1, .int r_41), (0, .ref A_self)] → W p l e (headSpec wsX1_nextToken ({ frames := 6, cells := 0, slots := 0, locals := 133 })).room s m (([.ref A_self] : List Value).toArray) below meth cd H locs 0 0 (MQ below (va_Qv (fun (u : Int32 × Int32 × Int32 × Int32 × Unit) => True) (fun u t => va_P D vwCl [(A_self, .inr (1, [.ref A_tape, .int u.1, .int u.2.1, .int u.2.2.1, .int u.2.2.2.1, .int self_wanted, .int self_compared, .int self_opened, .int self_nested, .ref A_pile, .int self_height, .ref A_acts, .ref A_shares, .ref A_starts, .int self_made, .ref A_code, .int self_codeLength])), (A_tape, .inr (3, [.ref A_tape_bytes, .int tape_length])), (A_tape_bytes, .inl (c 0, 800, .inl f_tape_bytes))] t.heap ∧ va_D A [(A_self, .inr (1, [.ref A_tape, .int u.1, .int u.2.1, .int u.2.2.1, .int u.2.2.2.1, .int self_wanted, .int self_compared, .int self_opened, .int self_nested, .ref A_pile, .int self_height, .ref A_acts, .ref A_shares, .ref A_starts, .int self_made, .ref A_code, .int self_codeLength])), (A_tape, .inr (3, [.ref A_tape_bytes, .int tape_length])), (A_tape_bytes, .inl (c 0, 800, .inl f_tape_bytes))]) A) ([.ref A_self] : List Value).toArray s 0 0 A) (F0 m 151 ls []) := by
              refine st_ind (fun N ih151 => ?_)
              intro M_self_place hN151 H locs ls hP hD hS hl
              have rg_M_self_place := i32r M_self_place
              refine lv_aload_n hx hb dX1_nextToken_151 rfl (lv_at hl 1 rfl) ?_
              refine va_get (D := D) (ci := 1) (v := .int M_self_place) (C := RX1) (T := TX1) (N := 17) hx hb hts (fun _ h => List.mem_cons_of_mem _ (List.mem_append_left _ (List.mem_append_right _ h))) hown hK hP 0 rfl rfl 1 (by decide) (hts (.fieldLink RX1 31 "CrownTable$Reader" "place" "I") (mem_i 1 rfl)) (fun _ h9 => h9) rfl dX1_nextToken_152 ?_
              refine lv_aload_n hx hb dX1_nextToken_155 rfl (lv_at hl 1 rfl) ?_
              refine va_get (D := D) (ci := 1) (v := .ref A_tape) (C := RX1) (T := TX1) (N := 17) hx hb hts (fun _ h => List.mem_cons_of_mem _ (List.mem_append_left _ (List.mem_append_right _ h))) hown hK hP 0 rfl rfl 0 (by decide) (hts (.fieldLink RX1 27 "CrownTable$Reader" "tape" "LCrownTable$Tape;") (mem_i 3 rfl)) (fun _ h9 => h9) rfl dX1_nextToken_156 ?_
              refine va_getN (D := D) (ci := 3) (v := .int tape_length) (own := RX1) (ref := "CrownTable$Tape") (host := RX6) (index := 81) (C := RX3) (T := TX3) (N := 2) hx hb hts (fun _ h => List.mem_cons_of_mem _ (List.mem_append_right _ h)) hown hK hP 1 rfl rfl 1 (by decide) (show (Cond.fieldLinkNest RX1 81 "CrownTable$Tape" "length" "I" RX6).before _ _ = true from va_Nw.use rfl (hAm.2.1.2 (RX1, 81, "CrownTable$Tape", "length", "I", RX6) (mem_i 1 rfl))) (fun _ h9 => h9) rfl dX1_nextToken_159 ?_
              refine iicmp_ge (a := M_self_place.toInt) (b := i_tape_length) (tgt := 195) hx hb rfl hi_tape_length dX1_nextToken_162 (by decide) (fun k_57 => ?_) (fun k_57 => ?_)
              · skip
                refine lv_aload_n hx hb dX1_nextToken_195 rfl (lv_at hl 1 rfl) ?_
                refine lv_bipush (v := 30) hx hb dX1_nextToken_196 (by decide) ?_
                refine va_put (D := D) (ci := 1) (v := .int 30) (ty := .int) (C := RX1) (T := TX1) (N := 17) hx hb hts (fun _ h => List.mem_cons_of_mem _ (List.mem_append_left _ (List.mem_append_right _ h))) tyX1 tyX1_ok nmX1 hown hK hP hD hS 0 rfl rfl 3 (by decide) (hts (.fieldLink RX1 60 "CrownTable$Reader" "token" "I") (mem_i 4 rfl)) (fun _ h9 => h9) rfl (by decide +kernel) rfl rfl (Nat.le_of_ble_eq_true rfl) dX1_nextToken_198 (fun H locs hP hD hS => ?_)
                have hP : va_P D vwCl [(A_self, .inr (1, [.ref A_tape, .int M_self_place, .int M_self_start, .int 30, .int self_value, .int self_wanted, .int self_compared, .int self_opened, .int self_nested, .ref A_pile, .int self_height, .ref A_acts, .ref A_shares, .ref A_starts, .int self_made, .ref A_code, .int self_codeLength])), (A_tape, .inr (3, [.ref A_tape_bytes, .int tape_length])), (A_tape_bytes, .inl (c 0, 800, .inl f_tape_bytes))] H := hP
                have hD : va_D A [(A_self, .inr (1, [.ref A_tape, .int M_self_place, .int M_self_start, .int 30, .int self_value, .int self_wanted, .int self_compared, .int self_opened, .int self_nested, .ref A_pile, .int self_height, .ref A_acts, .ref A_shares, .ref A_starts, .int self_made, .ref A_code, .int self_codeLength])), (A_tape, .inr (3, [.ref A_tape_bytes, .int tape_length])), (A_tape_bytes, .inl (c 0, 800, .inl f_tape_bytes))] := hD
                refine lv_aload_n hx hb dX1_nextToken_201 rfl (lv_at hl 1 rfl) ?_
                refine lv_aload_n hx hb dX1_nextToken_202 rfl (lv_at hl 1 rfl) ?_
                refine lv_aload_n hx hb dX1_nextToken_203 rfl (lv_at hl 1 rfl) ?_
                refine va_get (D := D) (ci := 1) (v := .int M_self_start) (C := RX1) (T := TX1) (N := 17) hx hb hts (fun _ h => List.mem_cons_of_mem _ (List.mem_append_left _ (List.mem_append_right _ h))) hown hK hP 0 rfl rfl 2 (by decide) (hts (.fieldLink RX1 78 "CrownTable$Reader" "start" "I") (mem_i 2 rfl)) (fun _ h9 => h9) rfl dX1_nextToken_204 ?_
                refine lv_aload_n hx hb dX1_nextToken_207 rfl (lv_at hl 1 rfl) ?_
                refine va_get (D := D) (ci := 1) (v := .int M_self_place) (C := RX1) (T := TX1) (N := 17) hx hb hts (fun _ h => List.mem_cons_of_mem _ (List.mem_append_left _ (List.mem_append_right _ h))) hown hK hP 0 rfl rfl 1 (by decide) (hts (.fieldLink RX1 31 "CrownTable$Reader" "place" "I") (mem_i 1 rfl)) (fun _ h9 => h9) rfl dX1_nextToken_208 ?_
                have hPc := hP.sub (ws' := [(A_self, .inr (1, [.ref A_tape, .int M_self_place, .int M_self_start, .int 30, .int self_value, .int self_wanted, .int self_compared, .int self_opened, .int self_nested, .ref A_pile, .int self_height, .ref A_acts, .ref A_shares, .ref A_starts, .int self_made, .ref A_code, .int self_codeLength])), (A_tape, .inr (3, [.ref A_tape_bytes, .int tape_length])), (A_tape_bytes, .inl (c 0, 800, .inl f_tape_bytes))]) [0, 1, 2] rfl
                have hDc := hD.sub (ws' := [(A_self, .inr (1, [.ref A_tape, .int M_self_place, .int M_self_start, .int 30, .int self_value, .int self_wanted, .int self_compared, .int self_opened, .int self_nested, .ref A_pile, .int self_height, .ref A_acts, .ref A_shares, .ref A_starts, .int self_made, .ref A_code, .int self_codeLength])), (A_tape, .inr (3, [.ref A_tape_bytes, .int tape_length])), (A_tape_bytes, .inl (c 0, 800, .inl f_tape_bytes))]) [0, 1, 2] (by decide) rfl
                have hFc := va_free (wc := [(A_self, .inr (1, [.ref A_tape, .int M_self_place, .int M_self_start, .int 30, .int self_value, .int self_wanted, .int self_compared, .int self_opened, .int self_nested, .ref A_pile, .int self_height, .ref A_acts, .ref A_shares, .ref A_starts, .int self_made, .ref A_code, .int self_codeLength])), (A_tape, .inr (3, [.ref A_tape_bytes, .int tape_length])), (A_tape_bytes, .inl (c 0, 800, .inl f_tape_bytes))]) hD hS hA [0, 1, 2] rfl
                refine va_csi (va_runV (As := [.int M_self_start, .int M_self_place]) (rest := [.ref A_self]) ⟨hx, hb, hml, hown, hts⟩ (k_X1_numberAt l D c ts H.size A_tape A_pile A_acts A_shares A_starts A_code A_self A_tape_bytes f_tape_bytes M_self_place M_self_place.toInt rfl M_self_start M_self_start.toInt rfl 30 30 (by decide) self_value i_self_value hi_self_value self_wanted i_self_wanted hi_self_wanted self_compared i_self_compared hi_self_compared self_opened i_self_opened hi_self_opened self_nested i_self_nested hi_self_nested self_height i_self_height hi_self_height self_made i_self_made hi_self_made self_codeLength i_self_codeLength hi_self_codeLength tape_length i_tape_length hi_tape_length M_self_start M_self_start.toInt rfl M_self_place M_self_place.toInt rfl (by omega) (by omega) (by omega) (by omega) (by omega)) (cwV 2 hts gX1_nextToken_X1_numberAt rfl rfl rfl ⟨rfl, hdX1_numberAt⟩ ⟨(show 1 + 1 ≤ 6 by decide), (show 8 + (5 + 11) + 21 ≤ 133 by decide)⟩) ⟨Pre0.blind, va_recv hK hPc (ci := 1) (q0 := 0) rfl rfl, Pre0.at hPc hDc hAm hSt hS hFc⟩ rfl rfl hl.1 rfl (lv_room (Nat.le_of_ble_eq_true rfl)) dX1_nextToken_211 ⟨(show 0 + 0 ≤ 0 by decide), (show 0 + 0 ≤ 0 by decide)⟩) (fun r_59 hw_58 => ?_)
                have rg_r_59 := i32r r_59
                refine va_put (D := D) (ci := 1) (v := .int r_59) (ty := .int) (C := RX1) (T := TX1) (N := 17) hx hb hts (fun _ h => List.mem_cons_of_mem _ (List.mem_append_left _ (List.mem_append_right _ h))) tyX1 tyX1_ok nmX1 hown hK hP hD hS 0 rfl rfl 4 (by decide) (hts (.fieldLink RX1 107 "CrownTable$Reader" "value" "I") (mem_i 5 rfl)) (fun _ h9 => h9) rfl (by decide +kernel) rfl rfl (Nat.le_of_ble_eq_true rfl) dX1_nextToken_214 (fun H locs hP hD hS => ?_)
                have hP : va_P D vwCl [(A_self, .inr (1, [.ref A_tape, .int M_self_place, .int M_self_start, .int 30, .int r_59, .int self_wanted, .int self_compared, .int self_opened, .int self_nested, .ref A_pile, .int self_height, .ref A_acts, .ref A_shares, .ref A_starts, .int self_made, .ref A_code, .int self_codeLength])), (A_tape, .inr (3, [.ref A_tape_bytes, .int tape_length])), (A_tape_bytes, .inl (c 0, 800, .inl f_tape_bytes))] H := hP
                have hD : va_D A [(A_self, .inr (1, [.ref A_tape, .int M_self_place, .int M_self_start, .int 30, .int r_59, .int self_wanted, .int self_compared, .int self_opened, .int self_nested, .ref A_pile, .int self_height, .ref A_acts, .ref A_shares, .ref A_starts, .int self_made, .ref A_code, .int self_codeLength])), (A_tape, .inr (3, [.ref A_tape_bytes, .int tape_length])), (A_tape_bytes, .inl (c 0, 800, .inl f_tape_bytes))] := hD
                refine lv_goto (tgt := 242) hx hb dX1_nextToken_217 (by decide) ?_
                have kzz_60 : (30 : Int32).toInt = 30 := by decide
                have hP9 := hP.sub (ws' := [(A_self, .inr (1, [.ref A_tape, .int M_self_place, .int M_self_start, .int 30, .int r_59, .int self_wanted, .int self_compared, .int self_opened, .int self_nested, .ref A_pile, .int self_height, .ref A_acts, .ref A_shares, .ref A_starts, .int self_made, .ref A_code, .int self_codeLength])), (A_tape, .inr (3, [.ref A_tape_bytes, .int tape_length])), (A_tape_bytes, .inl (c 0, 800, .inl f_tape_bytes))]) [0, 1, 2] rfl
                have hD9 := hD.sub (ws' := [(A_self, .inr (1, [.ref A_tape, .int M_self_place, .int M_self_start, .int 30, .int r_59, .int self_wanted, .int self_compared, .int self_opened, .int self_nested, .ref A_pile, .int self_height, .ref A_acts, .ref A_shares, .ref A_starts, .int self_made, .ref A_code, .int self_codeLength])), (A_tape, .inr (3, [.ref A_tape_bytes, .int tape_length])), (A_tape_bytes, .inl (c 0, 800, .inl f_tape_bytes))]) [0, 1, 2] (by decide) rfl
                refine W.widen (k := 0) (n := 0) (by omega) (by omega) ?_
                exact W.vret hx hb hr (fun t ht hW => ⟨⟨(M_self_place, M_self_start, 30, r_59, ()), rfl, trivial, ⟨by rw [ht]; exact hP9, hD9⟩⟩, hS.F ht⟩) hS.2.2 dX1_nextToken_242
              · skip
                refine lv_aload_n hx hb dX1_nextToken_165 rfl (lv_at hl 1 rfl) ?_
                refine va_get (D := D) (ci := 1) (v := .ref A_tape) (C := RX1) (T := TX1) (N := 17) hx hb hts (fun _ h => List.mem_cons_of_mem _ (List.mem_append_left _ (List.mem_append_right _ h))) hown hK hP 0 rfl rfl 0 (by decide) (hts (.fieldLink RX1 27 "CrownTable$Reader" "tape" "LCrownTable$Tape;") (mem_i 3 rfl)) (fun _ h9 => h9) rfl dX1_nextToken_166 ?_
                refine lv_aload_n hx hb dX1_nextToken_169 rfl (lv_at hl 1 rfl) ?_
                refine va_get (D := D) (ci := 1) (v := .int M_self_place) (C := RX1) (T := TX1) (N := 17) hx hb hts (fun _ h => List.mem_cons_of_mem _ (List.mem_append_left _ (List.mem_append_right _ h))) hown hK hP 0 rfl rfl 1 (by decide) (hts (.fieldLink RX1 31 "CrownTable$Reader" "place" "I") (mem_i 1 rfl)) (fun _ h9 => h9) rfl dX1_nextToken_170 ?_
                have hPc := hP.sub (ws' := [(A_tape, .inr (3, [.ref A_tape_bytes, .int tape_length])), (A_tape_bytes, .inl (c 0, 800, .inl f_tape_bytes))]) [1, 2] rfl
                have hDc := hD.sub (ws' := [(A_tape, .inr (3, [.ref A_tape_bytes, .int tape_length])), (A_tape_bytes, .inl (c 0, 800, .inl f_tape_bytes))]) [1, 2] (by decide) rfl
                have hFc := va_free (wc := [(A_tape, .inr (3, [.ref A_tape_bytes, .int tape_length])), (A_tape_bytes, .inl (c 0, 800, .inl f_tape_bytes))]) hD hS hA [1, 2] rfl
                refine va_csi (va_runVN (As := [.int M_self_place]) (rest := []) ⟨hx, hb, hml, hown, hts⟩ (k_X3_byteAt l D c ts H.size A_tape_bytes A_tape f_tape_bytes tape_length i_tape_length hi_tape_length M_self_place M_self_place.toInt rfl (by omega)) ⟨va_cnB 1 hts gX1_nextToken_X3_byteAt_n86 rfl rfl rfl (show va_Nw (.methodLinkNest RX1 86 yX3_byteAt RX6) _ from hAm.2.1.1 (RX1, 86, yX3_byteAt, RX6) (mem_i 8 rfl)) (hts (.initialized RX3) (mem_i 7 rfl)) hdX3_byteAt ⟨(show 0 + 1 ≤ 6 by decide), (show 8 + (2 + 11) + 0 ≤ 133 by decide)⟩, (hts (.instanceMethod yX3_byteAt) (mem_i 6 rfl)), (hts (.selects RX3 yX3_byteAt yX3_byteAt) (mem_i 8 rfl))⟩ ⟨Pre0.blind, va_recv hK hPc (ci := 3) (q0 := 0) rfl rfl, Pre0.at hPc hDc hAm hSt hS hFc⟩ rfl rfl hl.1 rfl (lv_room (Nat.le_of_ble_eq_true rfl)) dX1_nextToken_173 ⟨(show 0 + 0 ≤ 0 by decide), (show 0 + 0 ≤ 0 by decide)⟩) (fun r_62 hw_61 => ?_)
                have rg_r_62 := i32r r_62
                have hPc := hP.sub (ws' := []) [] rfl
                have hDc := hD.sub (ws' := []) [] (by decide) rfl
                have hFc := va_free (wc := []) hD hS hA [] rfl
                refine va_csi (va_runS (As := [.int r_62]) (rest := []) ⟨hx, hb, hml, hown, hts⟩ (k_X1_isDigit l D c ts H.size r_62 r_62.toInt rfl) (cwS 1 hts gX1_nextToken_X1_isDigit rfl rfl rfl ⟨rfl, hdX1_isDigit⟩ ⟨(show 0 + 1 ≤ 6 by decide), (show 8 + (1 + 11) + 0 ≤ 133 by decide)⟩) ⟨Pre0.blind, Pre0.at hPc hDc hAm hSt hS hFc⟩ rfl rfl hl.1 rfl (lv_room (Nat.le_of_ble_eq_true rfl)) dX1_nextToken_176 ⟨(show 0 + 0 ≤ 0 by decide), (show 0 + 0 ≤ 0 by decide)⟩) (fun r_64 hw_63 => ?_)
                rcases hw_63 with ⟨hw_63, rfl⟩ | ⟨hw_63, rfl⟩
                · skip
                  refine iif_eqF (a := 1) (tgt := 195) hx hb (by decide) dX1_nextToken_179 (by decide) (by decide) ?_
                  refine lv_aload_n hx hb dX1_nextToken_182 rfl (lv_at hl 1 rfl) ?_
                  refine lv_dup hx hb dX1_nextToken_183 rfl ?_
                  refine va_get (D := D) (ci := 1) (v := .int M_self_place) (C := RX1) (T := TX1) (N := 17) hx hb hts (fun _ h => List.mem_cons_of_mem _ (List.mem_append_left _ (List.mem_append_right _ h))) hown hK hP 0 rfl rfl 1 (by decide) (hts (.fieldLink RX1 31 "CrownTable$Reader" "place" "I") (mem_i 1 rfl)) (fun _ h9 => h9) rfl dX1_nextToken_184 ?_
                  refine lv_iconst (v := 1) hx hb dX1_nextToken_187 (by decide) ?_
                  refine lv_iadd hx hb dX1_nextToken_188 ?_
                  refine lv_topi (fun x_65 ex_65 => ?_)
                  have tx_65 : x_65.toInt = (M_self_place.toInt + 1) := by rw [ex_65]; exact add_ti (a := M_self_place.toInt) (b := 1) rfl (by decide) (by omega) (by omega)
                  refine va_put (D := D) (ci := 1) (v := .int x_65) (ty := .int) (C := RX1) (T := TX1) (N := 17) hx hb hts (fun _ h => List.mem_cons_of_mem _ (List.mem_append_left _ (List.mem_append_right _ h))) tyX1 tyX1_ok nmX1 hown hK hP hD hS 0 rfl rfl 1 (by decide) (hts (.fieldLink RX1 31 "CrownTable$Reader" "place" "I") (mem_i 1 rfl)) (fun _ h9 => h9) rfl (by decide +kernel) rfl rfl (Nat.le_of_ble_eq_true rfl) dX1_nextToken_189 (fun H locs hP hD hS => ?_)
                  have hP : va_P D vwCl [(A_self, .inr (1, [.ref A_tape, .int x_65, .int M_self_start, .int self_token, .int self_value, .int self_wanted, .int self_compared, .int self_opened, .int self_nested, .ref A_pile, .int self_height, .ref A_acts, .ref A_shares, .ref A_starts, .int self_made, .ref A_code, .int self_codeLength])), (A_tape, .inr (3, [.ref A_tape_bytes, .int tape_length])), (A_tape_bytes, .inl (c 0, 800, .inl f_tape_bytes))] H := hP
                  have hD : va_D A [(A_self, .inr (1, [.ref A_tape, .int x_65, .int M_self_start, .int self_token, .int self_value, .int self_wanted, .int self_compared, .int self_opened, .int self_nested, .ref A_pile, .int self_height, .ref A_acts, .ref A_shares, .ref A_starts, .int self_made, .ref A_code, .int self_codeLength])), (A_tape, .inr (3, [.ref A_tape_bytes, .int tape_length])), (A_tape_bytes, .inl (c 0, 800, .inl f_tape_bytes))] := hD
                  refine lv_goto (tgt := 151) hx hb dX1_nextToken_192 (by decide) ?_
                  exact (ih151 ((3000000000 - x_65.toInt).toNat) (by omega) x_65 rfl _ _ _ hP hD hS hl)
                · skip
                  refine iif_eqT (a := 0) (tgt := 195) hx hb (by decide) dX1_nextToken_179 (by decide) (by decide) ?_
                  refine lv_aload_n hx hb dX1_nextToken_195 rfl (lv_at hl 1 rfl) ?_
                  refine lv_bipush (v := 30) hx hb dX1_nextToken_196 (by decide) ?_
                  refine va_put (D := D) (ci := 1) (v := .int 30) (ty := .int) (C := RX1) (T := TX1) (N := 17) hx hb hts (fun _ h => List.mem_cons_of_mem _ (List.mem_append_left _ (List.mem_append_right _ h))) tyX1 tyX1_ok nmX1 hown hK hP hD hS 0 rfl rfl 3 (by decide) (hts (.fieldLink RX1 60 "CrownTable$Reader" "token" "I") (mem_i 4 rfl)) (fun _ h9 => h9) rfl (by decide +kernel) rfl rfl (Nat.le_of_ble_eq_true rfl) dX1_nextToken_198 (fun H locs hP hD hS => ?_)
                  have hP : va_P D vwCl [(A_self, .inr (1, [.ref A_tape, .int M_self_place, .int M_self_start, .int 30, .int self_value, .int self_wanted, .int self_compared, .int self_opened, .int self_nested, .ref A_pile, .int self_height, .ref A_acts, .ref A_shares, .ref A_starts, .int self_made, .ref A_code, .int self_codeLength])), (A_tape, .inr (3, [.ref A_tape_bytes, .int tape_length])), (A_tape_bytes, .inl (c 0, 800, .inl f_tape_bytes))] H := hP
                  have hD : va_D A [(A_self, .inr (1, [.ref A_tape, .int M_self_place, .int M_self_start, .int 30, .int self_value, .int self_wanted, .int self_compared, .int self_opened, .int self_nested, .ref A_pile, .int self_height, .ref A_acts, .ref A_shares, .ref A_starts, .int self_made, .ref A_code, .int self_codeLength])), (A_tape, .inr (3, [.ref A_tape_bytes, .int tape_length])), (A_tape_bytes, .inl (c 0, 800, .inl f_tape_bytes))] := hD
                  refine lv_aload_n hx hb dX1_nextToken_201 rfl (lv_at hl 1 rfl) ?_
                  refine lv_aload_n hx hb dX1_nextToken_202 rfl (lv_at hl 1 rfl) ?_
                  refine lv_aload_n hx hb dX1_nextToken_203 rfl (lv_at hl 1 rfl) ?_
                  refine va_get (D := D) (ci := 1) (v := .int M_self_start) (C := RX1) (T := TX1) (N := 17) hx hb hts (fun _ h => List.mem_cons_of_mem _ (List.mem_append_left _ (List.mem_append_right _ h))) hown hK hP 0 rfl rfl 2 (by decide) (hts (.fieldLink RX1 78 "CrownTable$Reader" "start" "I") (mem_i 2 rfl)) (fun _ h9 => h9) rfl dX1_nextToken_204 ?_
                  refine lv_aload_n hx hb dX1_nextToken_207 rfl (lv_at hl 1 rfl) ?_
                  refine va_get (D := D) (ci := 1) (v := .int M_self_place) (C := RX1) (T := TX1) (N := 17) hx hb hts (fun _ h => List.mem_cons_of_mem _ (List.mem_append_left _ (List.mem_append_right _ h))) hown hK hP 0 rfl rfl 1 (by decide) (hts (.fieldLink RX1 31 "CrownTable$Reader" "place" "I") (mem_i 1 rfl)) (fun _ h9 => h9) rfl dX1_nextToken_208 ?_
                  have hPc := hP.sub (ws' := [(A_self, .inr (1, [.ref A_tape, .int M_self_place, .int M_self_start, .int 30, .int self_value, .int self_wanted, .int self_compared, .int self_opened, .int self_nested, .ref A_pile, .int self_height, .ref A_acts, .ref A_shares, .ref A_starts, .int self_made, .ref A_code, .int self_codeLength])), (A_tape, .inr (3, [.ref A_tape_bytes, .int tape_length])), (A_tape_bytes, .inl (c 0, 800, .inl f_tape_bytes))]) [0, 1, 2] rfl
                  have hDc := hD.sub (ws' := [(A_self, .inr (1, [.ref A_tape, .int M_self_place, .int M_self_start, .int 30, .int self_value, .int self_wanted, .int self_compared, .int self_opened, .int self_nested, .ref A_pile, .int self_height, .ref A_acts, .ref A_shares, .ref A_starts, .int self_made, .ref A_code, .int self_codeLength])), (A_tape, .inr (3, [.ref A_tape_bytes, .int tape_length])), (A_tape_bytes, .inl (c 0, 800, .inl f_tape_bytes))]) [0, 1, 2] (by decide) rfl
                  have hFc := va_free (wc := [(A_self, .inr (1, [.ref A_tape, .int M_self_place, .int M_self_start, .int 30, .int self_value, .int self_wanted, .int self_compared, .int self_opened, .int self_nested, .ref A_pile, .int self_height, .ref A_acts, .ref A_shares, .ref A_starts, .int self_made, .ref A_code, .int self_codeLength])), (A_tape, .inr (3, [.ref A_tape_bytes, .int tape_length])), (A_tape_bytes, .inl (c 0, 800, .inl f_tape_bytes))]) hD hS hA [0, 1, 2] rfl
                  refine va_csi (va_runV (As := [.int M_self_start, .int M_self_place]) (rest := [.ref A_self]) ⟨hx, hb, hml, hown, hts⟩ (k_X1_numberAt l D c ts H.size A_tape A_pile A_acts A_shares A_starts A_code A_self A_tape_bytes f_tape_bytes M_self_place M_self_place.toInt rfl M_self_start M_self_start.toInt rfl 30 30 (by decide) self_value i_self_value hi_self_value self_wanted i_self_wanted hi_self_wanted self_compared i_self_compared hi_self_compared self_opened i_self_opened hi_self_opened self_nested i_self_nested hi_self_nested self_height i_self_height hi_self_height self_made i_self_made hi_self_made self_codeLength i_self_codeLength hi_self_codeLength tape_length i_tape_length hi_tape_length M_self_start M_self_start.toInt rfl M_self_place M_self_place.toInt rfl (by omega) (by omega) (by omega) (by omega) (by omega)) (cwV 2 hts gX1_nextToken_X1_numberAt rfl rfl rfl ⟨rfl, hdX1_numberAt⟩ ⟨(show 1 + 1 ≤ 6 by decide), (show 8 + (5 + 11) + 21 ≤ 133 by decide)⟩) ⟨Pre0.blind, va_recv hK hPc (ci := 1) (q0 := 0) rfl rfl, Pre0.at hPc hDc hAm hSt hS hFc⟩ rfl rfl hl.1 rfl (lv_room (Nat.le_of_ble_eq_true rfl)) dX1_nextToken_211 ⟨(show 0 + 0 ≤ 0 by decide), (show 0 + 0 ≤ 0 by decide)⟩) (fun r_67 hw_66 => ?_)
                  have rg_r_67 := i32r r_67
                  refine va_put (D := D) (ci := 1) (v := .int r_67) (ty := .int) (C := RX1) (T := TX1) (N := 17) hx hb hts (fun _ h => List.mem_cons_of_mem _ (List.mem_append_left _ (List.mem_append_right _ h))) tyX1 tyX1_ok nmX1 hown hK hP hD hS 0 rfl rfl 4 (by decide) (hts (.fieldLink RX1 107 "CrownTable$Reader" "value" "I") (mem_i 5 rfl)) (fun _ h9 => h9) rfl (by decide +kernel) rfl rfl (Nat.le_of_ble_eq_true rfl) dX1_nextToken_214 (fun H locs hP hD hS => ?_)
                  have hP : va_P D vwCl [(A_self, .inr (1, [.ref A_tape, .int M_self_place, .int M_self_start, .int 30, .int r_67, .int self_wanted, .int self_compared, .int self_opened, .int self_nested, .ref A_pile, .int self_height, .ref A_acts, .ref A_shares, .ref A_starts, .int self_made, .ref A_code, .int self_codeLength])), (A_tape, .inr (3, [.ref A_tape_bytes, .int tape_length])), (A_tape_bytes, .inl (c 0, 800, .inl f_tape_bytes))] H := hP
                  have hD : va_D A [(A_self, .inr (1, [.ref A_tape, .int M_self_place, .int M_self_start, .int 30, .int r_67, .int self_wanted, .int self_compared, .int self_opened, .int self_nested, .ref A_pile, .int self_height, .ref A_acts, .ref A_shares, .ref A_starts, .int self_made, .ref A_code, .int self_codeLength])), (A_tape, .inr (3, [.ref A_tape_bytes, .int tape_length])), (A_tape_bytes, .inl (c 0, 800, .inl f_tape_bytes))] := hD
                  refine lv_goto (tgt := 242) hx hb dX1_nextToken_217 (by decide) ?_
                  have kzz_68 : (30 : Int32).toInt = 30 := by decide
                  have hP9 := hP.sub (ws' := [(A_self, .inr (1, [.ref A_tape, .int M_self_place, .int M_self_start, .int 30, .int r_67, .int self_wanted, .int self_compared, .int self_opened, .int self_nested, .ref A_pile, .int self_height, .ref A_acts, .ref A_shares, .ref A_starts, .int self_made, .ref A_code, .int self_codeLength])), (A_tape, .inr (3, [.ref A_tape_bytes, .int tape_length])), (A_tape_bytes, .inl (c 0, 800, .inl f_tape_bytes))]) [0, 1, 2] rfl
                  have hD9 := hD.sub (ws' := [(A_self, .inr (1, [.ref A_tape, .int M_self_place, .int M_self_start, .int 30, .int r_67, .int self_wanted, .int self_compared, .int self_opened, .int self_nested, .ref A_pile, .int self_height, .ref A_acts, .ref A_shares, .ref A_starts, .int self_made, .ref A_code, .int self_codeLength])), (A_tape, .inr (3, [.ref A_tape_bytes, .int tape_length])), (A_tape_bytes, .inl (c 0, 800, .inl f_tape_bytes))]) [0, 1, 2] (by decide) rfl
                  refine W.widen (k := 0) (n := 0) (by omega) (by omega) ?_
                  exact W.vret hx hb hr (fun t ht hW => ⟨⟨(M_self_place, M_self_start, 30, r_67, ()), rfl, trivial, ⟨by rw [ht]; exact hP9, hD9⟩⟩, hS.F ht⟩) hS.2.2 dX1_nextToken_242
            exact (lp_151 _ x_42 rfl _ _ _ hP hD hS hl)
          · skip
            refine iif_eqT (a := 0) (tgt := 220) hx hb (by decide) dX1_nextToken_148 (by decide) (by decide) ?_
            refine lv_aload_n hx hb dX1_nextToken_220 rfl (lv_at hl 1 rfl) ?_
            refine lv_iload_n hx hb dX1_nextToken_221 rfl (lv_at hl 0 rfl) ?_
            refine lv_iconst (v := (-1)) hx hb dX1_nextToken_222 (by decide) ?_
            refine iicmp_eq (a := r_41.toInt) (b := (-1)) (tgt := 233) hx hb rfl (by decide) dX1_nextToken_223 (by decide) (fun k_69 => ?_) (fun k_69 => ?_)
            · skip
              refine lv_iload_n hx hb dX1_nextToken_233 rfl (lv_at hl 0 rfl) ?_
              refine lv_goto (tgt := 239) hx hb dX1_nextToken_234 (by decide) ?_
              refine va_put (D := D) (ci := 1) (v := .int r_41) (ty := .int) (C := RX1) (T := TX1) (N := 17) hx hb hts (fun _ h => List.mem_cons_of_mem _ (List.mem_append_left _ (List.mem_append_right _ h))) tyX1 tyX1_ok nmX1 hown hK hP hD hS 0 rfl rfl 3 (by decide) (hts (.fieldLink RX1 60 "CrownTable$Reader" "token" "I") (mem_i 4 rfl)) (fun _ h9 => h9) rfl (by decide +kernel) rfl rfl (Nat.le_of_ble_eq_true rfl) dX1_nextToken_239 (fun H locs hP hD hS => ?_)
              have hP : va_P D vwCl [(A_self, .inr (1, [.ref A_tape, .int x_42, .int M_self_start, .int r_41, .int self_value, .int self_wanted, .int self_compared, .int self_opened, .int self_nested, .ref A_pile, .int self_height, .ref A_acts, .ref A_shares, .ref A_starts, .int self_made, .ref A_code, .int self_codeLength])), (A_tape, .inr (3, [.ref A_tape_bytes, .int tape_length])), (A_tape_bytes, .inl (c 0, 800, .inl f_tape_bytes))] H := hP
              have hD : va_D A [(A_self, .inr (1, [.ref A_tape, .int x_42, .int M_self_start, .int r_41, .int self_value, .int self_wanted, .int self_compared, .int self_opened, .int self_nested, .ref A_pile, .int self_height, .ref A_acts, .ref A_shares, .ref A_starts, .int self_made, .ref A_code, .int self_codeLength])), (A_tape, .inr (3, [.ref A_tape_bytes, .int tape_length])), (A_tape_bytes, .inl (c 0, 800, .inl f_tape_bytes))] := hD
              have hP9 := hP.sub (ws' := [(A_self, .inr (1, [.ref A_tape, .int x_42, .int M_self_start, .int r_41, .int self_value, .int self_wanted, .int self_compared, .int self_opened, .int self_nested, .ref A_pile, .int self_height, .ref A_acts, .ref A_shares, .ref A_starts, .int self_made, .ref A_code, .int self_codeLength])), (A_tape, .inr (3, [.ref A_tape_bytes, .int tape_length])), (A_tape_bytes, .inl (c 0, 800, .inl f_tape_bytes))]) [0, 1, 2] rfl
              have hD9 := hD.sub (ws' := [(A_self, .inr (1, [.ref A_tape, .int x_42, .int M_self_start, .int r_41, .int self_value, .int self_wanted, .int self_compared, .int self_opened, .int self_nested, .ref A_pile, .int self_height, .ref A_acts, .ref A_shares, .ref A_starts, .int self_made, .ref A_code, .int self_codeLength])), (A_tape, .inr (3, [.ref A_tape_bytes, .int tape_length])), (A_tape_bytes, .inl (c 0, 800, .inl f_tape_bytes))]) [0, 1, 2] (by decide) rfl
              refine W.widen (k := 0) (n := 0) (by omega) (by omega) ?_
              exact W.vret hx hb hr (fun t ht hW => ⟨⟨(x_42, M_self_start, r_41, self_value, ()), rfl, trivial, ⟨by rw [ht]; exact hP9, hD9⟩⟩, hS.F ht⟩) hS.2.2 dX1_nextToken_242
            · skip
              refine lv_iload_n hx hb dX1_nextToken_226 rfl (lv_at hl 0 rfl) ?_
              have hPc := hP.sub (ws' := []) [] rfl
              have hDc := hD.sub (ws' := []) [] (by decide) rfl
              have hFc := va_free (wc := []) hD hS hA [] rfl
              refine va_csi (va_runS (As := [.int r_41]) (rest := [.ref A_self]) ⟨hx, hb, hml, hown, hts⟩ (k_X1_isSign l D c ts H.size r_41 r_41.toInt rfl) (cwS 1 hts gX1_nextToken_X1_isSign rfl rfl rfl ⟨rfl, hdX1_isSign⟩ ⟨(show 1 + 1 ≤ 6 by decide), (show 8 + (1 + 11) + 20 ≤ 133 by decide)⟩) ⟨Pre0.blind, Pre0.at hPc hDc hAm hSt hS hFc⟩ rfl rfl hl.1 rfl (lv_room (Nat.le_of_ble_eq_true rfl)) dX1_nextToken_227 ⟨(show 0 + 0 ≤ 0 by decide), (show 0 + 0 ≤ 0 by decide)⟩) (fun r_71 hw_70 => ?_)
              rcases hw_70 with ⟨hw_70, rfl⟩ | ⟨hw_70, rfl⟩
              · skip
                refine iif_eqF (a := 1) (tgt := 237) hx hb (by decide) dX1_nextToken_230 (by decide) (by decide) ?_
                refine lv_iload_n hx hb dX1_nextToken_233 rfl (lv_at hl 0 rfl) ?_
                refine lv_goto (tgt := 239) hx hb dX1_nextToken_234 (by decide) ?_
                refine va_put (D := D) (ci := 1) (v := .int r_41) (ty := .int) (C := RX1) (T := TX1) (N := 17) hx hb hts (fun _ h => List.mem_cons_of_mem _ (List.mem_append_left _ (List.mem_append_right _ h))) tyX1 tyX1_ok nmX1 hown hK hP hD hS 0 rfl rfl 3 (by decide) (hts (.fieldLink RX1 60 "CrownTable$Reader" "token" "I") (mem_i 4 rfl)) (fun _ h9 => h9) rfl (by decide +kernel) rfl rfl (Nat.le_of_ble_eq_true rfl) dX1_nextToken_239 (fun H locs hP hD hS => ?_)
                have hP : va_P D vwCl [(A_self, .inr (1, [.ref A_tape, .int x_42, .int M_self_start, .int r_41, .int self_value, .int self_wanted, .int self_compared, .int self_opened, .int self_nested, .ref A_pile, .int self_height, .ref A_acts, .ref A_shares, .ref A_starts, .int self_made, .ref A_code, .int self_codeLength])), (A_tape, .inr (3, [.ref A_tape_bytes, .int tape_length])), (A_tape_bytes, .inl (c 0, 800, .inl f_tape_bytes))] H := hP
                have hD : va_D A [(A_self, .inr (1, [.ref A_tape, .int x_42, .int M_self_start, .int r_41, .int self_value, .int self_wanted, .int self_compared, .int self_opened, .int self_nested, .ref A_pile, .int self_height, .ref A_acts, .ref A_shares, .ref A_starts, .int self_made, .ref A_code, .int self_codeLength])), (A_tape, .inr (3, [.ref A_tape_bytes, .int tape_length])), (A_tape_bytes, .inl (c 0, 800, .inl f_tape_bytes))] := hD
                have hP9 := hP.sub (ws' := [(A_self, .inr (1, [.ref A_tape, .int x_42, .int M_self_start, .int r_41, .int self_value, .int self_wanted, .int self_compared, .int self_opened, .int self_nested, .ref A_pile, .int self_height, .ref A_acts, .ref A_shares, .ref A_starts, .int self_made, .ref A_code, .int self_codeLength])), (A_tape, .inr (3, [.ref A_tape_bytes, .int tape_length])), (A_tape_bytes, .inl (c 0, 800, .inl f_tape_bytes))]) [0, 1, 2] rfl
                have hD9 := hD.sub (ws' := [(A_self, .inr (1, [.ref A_tape, .int x_42, .int M_self_start, .int r_41, .int self_value, .int self_wanted, .int self_compared, .int self_opened, .int self_nested, .ref A_pile, .int self_height, .ref A_acts, .ref A_shares, .ref A_starts, .int self_made, .ref A_code, .int self_codeLength])), (A_tape, .inr (3, [.ref A_tape_bytes, .int tape_length])), (A_tape_bytes, .inl (c 0, 800, .inl f_tape_bytes))]) [0, 1, 2] (by decide) rfl
                refine W.widen (k := 0) (n := 0) (by omega) (by omega) ?_
                exact W.vret hx hb hr (fun t ht hW => ⟨⟨(x_42, M_self_start, r_41, self_value, ()), rfl, trivial, ⟨by rw [ht]; exact hP9, hD9⟩⟩, hS.F ht⟩) hS.2.2 dX1_nextToken_242
              · skip
                refine iif_eqT (a := 0) (tgt := 237) hx hb (by decide) dX1_nextToken_230 (by decide) (by decide) ?_
                refine lv_bipush (v := (-2)) hx hb dX1_nextToken_237 (by decide) ?_
                refine va_put (D := D) (ci := 1) (v := .int (-2)) (ty := .int) (C := RX1) (T := TX1) (N := 17) hx hb hts (fun _ h => List.mem_cons_of_mem _ (List.mem_append_left _ (List.mem_append_right _ h))) tyX1 tyX1_ok nmX1 hown hK hP hD hS 0 rfl rfl 3 (by decide) (hts (.fieldLink RX1 60 "CrownTable$Reader" "token" "I") (mem_i 4 rfl)) (fun _ h9 => h9) rfl (by decide +kernel) rfl rfl (Nat.le_of_ble_eq_true rfl) dX1_nextToken_239 (fun H locs hP hD hS => ?_)
                have hP : va_P D vwCl [(A_self, .inr (1, [.ref A_tape, .int x_42, .int M_self_start, .int (-2), .int self_value, .int self_wanted, .int self_compared, .int self_opened, .int self_nested, .ref A_pile, .int self_height, .ref A_acts, .ref A_shares, .ref A_starts, .int self_made, .ref A_code, .int self_codeLength])), (A_tape, .inr (3, [.ref A_tape_bytes, .int tape_length])), (A_tape_bytes, .inl (c 0, 800, .inl f_tape_bytes))] H := hP
                have hD : va_D A [(A_self, .inr (1, [.ref A_tape, .int x_42, .int M_self_start, .int (-2), .int self_value, .int self_wanted, .int self_compared, .int self_opened, .int self_nested, .ref A_pile, .int self_height, .ref A_acts, .ref A_shares, .ref A_starts, .int self_made, .ref A_code, .int self_codeLength])), (A_tape, .inr (3, [.ref A_tape_bytes, .int tape_length])), (A_tape_bytes, .inl (c 0, 800, .inl f_tape_bytes))] := hD
                have kzz_72 : ((-2) : Int32).toInt = (-2) := by decide
                have hP9 := hP.sub (ws' := [(A_self, .inr (1, [.ref A_tape, .int x_42, .int M_self_start, .int (-2), .int self_value, .int self_wanted, .int self_compared, .int self_opened, .int self_nested, .ref A_pile, .int self_height, .ref A_acts, .ref A_shares, .ref A_starts, .int self_made, .ref A_code, .int self_codeLength])), (A_tape, .inr (3, [.ref A_tape_bytes, .int tape_length])), (A_tape_bytes, .inl (c 0, 800, .inl f_tape_bytes))]) [0, 1, 2] rfl
                have hD9 := hD.sub (ws' := [(A_self, .inr (1, [.ref A_tape, .int x_42, .int M_self_start, .int (-2), .int self_value, .int self_wanted, .int self_compared, .int self_opened, .int self_nested, .ref A_pile, .int self_height, .ref A_acts, .ref A_shares, .ref A_starts, .int self_made, .ref A_code, .int self_codeLength])), (A_tape, .inr (3, [.ref A_tape_bytes, .int tape_length])), (A_tape_bytes, .inl (c 0, 800, .inl f_tape_bytes))]) [0, 1, 2] (by decide) rfl
                refine W.widen (k := 0) (n := 0) (by omega) (by omega) ?_
                exact W.vret hx hb hr (fun t ht hW => ⟨⟨(x_42, M_self_start, (-2), self_value, ()), rfl, trivial, ⟨by rw [ht]; exact hP9, hD9⟩⟩, hS.F ht⟩) hS.2.2 dX1_nextToken_242
  exact (lp_8 _ self_place rfl _ _ _ hP hD hS hl)
