set_option maxHeartbeats 4000000 in
set_option maxRecDepth 100000 in
theorem k_X7_worth (l : Launch) (D : va_G) (c : Nat → ClassId) (ts : Nat × Nat) (sz : Nat) (A_self : Nat) (q : Nat → Nat) (v : Nat → Int32) (w : Nat → Int64) (f_left : Nat → Int32) (f_debtor : Nat → Int32) (f_made : Nat → Int32) (f_kind : Nat → Int32) (f_held : Nat → Int32) (f_pledge : Nat → Int32) (a1 : Int32) (i_a1 : Int) (hi_a1 : a1.toInt = i_a1) (a2 : Int32) (i_a2 : Int) (hi_a2 : a2.toInt = i_a2) (a3 : Int64) (a4 : Int64) (hv_2 : 0 ≤ (v 2).toInt ∧ (v 2).toInt ≤ 800) (hv_8 : 0 ≤ (v 8).toInt ∧ (v 8).toInt ≤ 10) (hv_21 : 0 ≤ (v 21).toInt ∧ (v 21).toInt ≤ 40) (hv_24 : 0 ≤ (v 24).toInt ∧ (v 24).toInt ≤ 1000) (hv_27 : 0 ≤ (v 27).toInt ∧ (v 27).toInt ≤ 400) (hv_42 : 0 ≤ (v 42).toInt ∧ (v 42).toInt ≤ 4000) (hv_52 : 0 ≤ (v 52).toInt ∧ (v 52).toInt ≤ 2000) (hc_debtor : ∀ j : Nat, 0 ≤ (f_debtor j).toInt ∧ (f_debtor j).toInt ≤ 15) (hc_pledge : ∀ j : Nat, -1 ≤ (f_pledge j).toInt ∧ (f_pledge j).toInt ≤ 15) (hv_a2 : 0 ≤ i_a2 ∧ i_a2 ≤ 399) : Met l yX7_worth wsX7_worth ({ frames := 1, cells := 0, slots := 0, locals := 24 }) (va_Pc [.ref A_self, .int a1, .int a2, .long a3, .long a4] (Pre0 D c ts [(A_self, .inr (7, o7 q v w)), (q 31, .inl (c 1, 400, .inl f_left)), (q 28, .inl (c 1, 400, .inl f_debtor)), (q 32, .inl (c 1, 400, .inl f_made)), (q 29, .inl (c 1, 400, .inl f_kind)), (q 36, .inl (c 3, 16, .inl f_held)), (q 33, .inl (c 1, 400, .inl f_pledge))] sz)) (vp_Sl (fun r : Int64 => True)) 0 0 (fun _ => False) := by
  refine Met.ofW (cc := cX7_worth) (maxL := 7) (ret := (some .long)) (by decide) rfl ?_
  intro p e s m args below meth cd s₁ B hml hv
  obtain ⟨rfl, hsz, hP, hD0, hAm, hSt⟩ := hv
  have hx := B.exec
  have hb := B.bytes
  have hr := B.returns
  have hts := atoms_spec (ws := wsX7_worth) B.pre
  have hown : s.vm.findClass RX7 = some m.cls := findClass_of_methodNamed B.named
  have hlocks := B.notSynchronized
  have hK := hAm.1
  subst hsz
  have hD := hD0.self (sz := s.heap.size)
  generalize hAe : va_A [(A_self, .inr (7, o7 q v w)), (q 31, .inl (c 1, 400, .inl f_left)), (q 28, .inl (c 1, 400, .inl f_debtor)), (q 32, .inl (c 1, 400, .inl f_made)), (q 29, .inl (c 1, 400, .inl f_kind)), (q 36, .inl (c 3, 16, .inl f_held)), (q 33, .inl (c 1, 400, .inl f_pledge))] s.heap.size = A at hD hSt
  have hA : ∀ q : Nat, s.heap.size ≤ q → A q := fun q h => by rw [← hAe]; exact Or.inr h
  have hS : va_S A s.heap s.heap [] := va_S.rf
  clear hD0 hAe
  have hl := lv_entry ([.ref A_self, .int a1, .int a2, .long a3, .long a4]) (n := 7) (Nat.le_of_ble_eq_true rfl)
  rw [lg_entry_eq]
  generalize (lg_sl ([.ref A_self, .int a1, .int a2, .long a3, .long a4]) ++ List.replicate (7 - (lg_sl ([.ref A_self, .int a1, .int a2, .long a3, .long a4])).length) Slot.unset).toArray = ls at hl ⊢
  have hl : lv_has ls 7 [(0, .ref A_self), (1, .int a1), (2, .int a2), (3, .long a3), (5, .long a4)] := hl
  have rg_a1 := i32r a1
  refine lv_iload_n hx hb dX7_worth_0 rfl (lv_at hl 1 rfl) ?_
  by_cases k_1 : i_a1 = 111
  · have ek_1 : a1.toInt = 111 := hi_a1.trans k_1
    refine lv_tableIn (tgt := 52) hx hb dX7_worth_1 (by rw [ek_1]; decide) (by rw [ek_1]; decide) (by rw [ek_1]; rfl) (by decide) ?_
    refine lv_aload_n hx hb dX7_worth_52 rfl (lv_at hl 0 rfl) ?_
    refine va_get (D := D) (ci := 7) (v := .ref (q 31)) (C := RX7) (T := TX7) (N := 56) hx hb hts (fun _ h => List.mem_cons_of_mem _ (List.mem_append_right _ h)) hown hK hP 0 rfl rfl 31 (by decide) (hts (.fieldLink RX7 59 "CrownTableModel" "left" "[I") (mem_i 1 rfl)) (fun _ h9 => h9) rfl dX7_worth_53 ?_
    refine lv_iload_n hx hb dX7_worth_56 rfl (lv_at hl 2 rfl) ?_
    refine va_iald hx hb hK hP 1 1 rfl rfl (vin (a := i_a2) hi_a2 (by omega) (by omega)) dX7_worth_57 ?_
    refine lv_topi (fun x_2 ex_2 => ?_)
    refine lv_i2l hx hb dX7_worth_58 rfl ?_
    exact W.lret (v := x_2.toInt64) hx hb hr (fun t ht hW => ⟨_, rfl, trivial, ht⟩) (fun _ h => by cases h) dX7_worth_59
  by_cases k_3 : i_a1 = 112
  · have ek_3 : a1.toInt = 112 := hi_a1.trans k_3
    refine lv_tableIn (tgt := 60) hx hb dX7_worth_1 (by rw [ek_3]; decide) (by rw [ek_3]; decide) (by rw [ek_3]; rfl) (by decide) ?_
    refine lv_aload_n hx hb dX7_worth_60 rfl (lv_at hl 0 rfl) ?_
    refine lv_aload_n hx hb dX7_worth_61 rfl (lv_at hl 0 rfl) ?_
    refine va_get (D := D) (ci := 7) (v := .ref (q 28)) (C := RX7) (T := TX7) (N := 56) hx hb hts (fun _ h => List.mem_cons_of_mem _ (List.mem_append_right _ h)) hown hK hP 0 rfl rfl 28 (by decide) (hts (.fieldLink RX7 50 "CrownTableModel" "debtor" "[I") (mem_i 2 rfl)) (fun _ h9 => h9) rfl dX7_worth_62 ?_
    refine lv_iload_n hx hb dX7_worth_65 rfl (lv_at hl 2 rfl) ?_
    refine va_iald hx hb hK hP 2 1 rfl rfl (vin (a := i_a2) hi_a2 (by omega) (by omega)) dX7_worth_66 ?_
    refine lv_topi (fun x_4 ex_4 => ?_)
    have ld_5 := hc_debtor (a2.toNatClampNeg)
    rw [← ex_4] at ld_5
    have hPc := hP.sub (ws' := [(A_self, .inr (7, o7 q v w)), (q 28, .inl (c 1, 400, .inl f_debtor)), (q 31, .inl (c 1, 400, .inl f_left))]) [0, 2, 1] rfl
    have hDc := hD.sub (ws' := [(A_self, .inr (7, o7 q v w)), (q 28, .inl (c 1, 400, .inl f_debtor)), (q 31, .inl (c 1, 400, .inl f_left))]) [0, 2, 1] (by decide) rfl
    have hFc := va_free (wc := [(A_self, .inr (7, o7 q v w)), (q 28, .inl (c 1, 400, .inl f_debtor)), (q 31, .inl (c 1, 400, .inl f_left))]) hD hS hA [0, 2, 1] rfl
    refine va_csl (va_runV (As := [.int x_4]) (rest := []) ⟨hx, hb, hml, hown, hts⟩ (k_X7_allOf l D c ts s.heap.size A_self q v w f_debtor f_left x_4 x_4.toInt rfl (show 0 ≤ (v 2).toInt ∧ (v 2).toInt ≤ 800 by omega) (show 0 ≤ (v 8).toInt ∧ (v 8).toInt ≤ 10 by omega) (show 0 ≤ (v 21).toInt ∧ (v 21).toInt ≤ 40 by omega) (show 0 ≤ (v 24).toInt ∧ (v 24).toInt ≤ 1000 by omega) (show 0 ≤ (v 27).toInt ∧ (v 27).toInt ≤ 400 by omega) (show 0 ≤ (v 42).toInt ∧ (v 42).toInt ≤ 4000 by omega) (show 0 ≤ (v 52).toInt ∧ (v 52).toInt ≤ 2000 by omega) hc_debtor) (cwV 1 hts gX7_worth_X7_allOf rfl rfl rfl ⟨rfl, hdX7_allOf⟩ ⟨(show 0 + 1 ≤ 1 by decide), (show 8 + (5 + 11) + 0 ≤ 24 by decide)⟩) ⟨Pre0.blind, va_recv hK hPc (ci := 7) (q0 := 0) rfl rfl, Pre0.at hPc hDc hAm hSt hS hFc⟩ rfl rfl hl.1 rfl (lv_room (Nat.le_of_ble_eq_true rfl)) dX7_worth_67 ⟨(show 0 + 0 ≤ 0 by decide), (show 0 + 0 ≤ 0 by decide)⟩) (fun r_7 hw_6 => ?_)
    exact W.lret (v := r_7) hx hb hr (fun t ht hW => ⟨_, rfl, trivial, ht⟩) (fun _ h => by cases h) dX7_worth_70
  by_cases k_8 : i_a1 = 113
  · have ek_8 : a1.toInt = 113 := hi_a1.trans k_8
    refine lv_tableIn (tgt := 71) hx hb dX7_worth_1 (by rw [ek_8]; decide) (by rw [ek_8]; decide) (by rw [ek_8]; rfl) (by decide) ?_
    refine lv_aload_n hx hb dX7_worth_71 rfl (lv_at hl 0 rfl) ?_
    refine va_get (D := D) (ci := 7) (v := .int (v 24)) (C := RX7) (T := TX7) (N := 56) hx hb hts (fun _ h => List.mem_cons_of_mem _ (List.mem_append_right _ h)) hown hK hP 0 rfl rfl 24 (by decide) (hts (.fieldLink RX7 267 "CrownTableModel" "term" "I") (mem_i 3 rfl)) (fun _ h9 => h9) rfl dX7_worth_72 ?_
    refine lv_aload_n hx hb dX7_worth_75 rfl (lv_at hl 0 rfl) ?_
    refine va_get (D := D) (ci := 7) (v := .ref (q 32)) (C := RX7) (T := TX7) (N := 56) hx hb hts (fun _ h => List.mem_cons_of_mem _ (List.mem_append_right _ h)) hown hK hP 0 rfl rfl 32 (by decide) (hts (.fieldLink RX7 62 "CrownTableModel" "made" "[I") (mem_i 4 rfl)) (fun _ h9 => h9) rfl dX7_worth_76 ?_
    refine lv_iload_n hx hb dX7_worth_79 rfl (lv_at hl 2 rfl) ?_
    refine va_iald hx hb hK hP 3 1 rfl rfl (vin (a := i_a2) hi_a2 (by omega) (by omega)) dX7_worth_80 ?_
    refine lv_topi (fun x_9 ex_9 => ?_)
    refine lv_isub hx hb dX7_worth_81 ?_
    refine lv_topi (fun x_10 ex_10 => ?_)
    refine lv_i2l hx hb dX7_worth_82 rfl ?_
    exact W.lret (v := x_10.toInt64) hx hb hr (fun t ht hW => ⟨_, rfl, trivial, ht⟩) (fun _ h => by cases h) dX7_worth_83
  by_cases k_11 : i_a1 = 114
  · have ek_11 : a1.toInt = 114 := hi_a1.trans k_11
    refine lv_tableIn (tgt := 84) hx hb dX7_worth_1 (by rw [ek_11]; decide) (by rw [ek_11]; decide) (by rw [ek_11]; rfl) (by decide) ?_
    refine lv_aload_n hx hb dX7_worth_84 rfl (lv_at hl 0 rfl) ?_
    refine va_get (D := D) (ci := 7) (v := .ref (q 29)) (C := RX7) (T := TX7) (N := 56) hx hb hts (fun _ h => List.mem_cons_of_mem _ (List.mem_append_right _ h)) hown hK hP 0 rfl rfl 29 (by decide) (hts (.fieldLink RX7 53 "CrownTableModel" "kind" "[I") (mem_i 5 rfl)) (fun _ h9 => h9) rfl dX7_worth_85 ?_
    refine lv_iload_n hx hb dX7_worth_88 rfl (lv_at hl 2 rfl) ?_
    refine va_iald hx hb hK hP 4 1 rfl rfl (vin (a := i_a2) hi_a2 (by omega) (by omega)) dX7_worth_89 ?_
    refine lv_topi (fun x_12 ex_12 => ?_)
    refine lv_i2l hx hb dX7_worth_90 rfl ?_
    exact W.lret (v := x_12.toInt64) hx hb hr (fun t ht hW => ⟨_, rfl, trivial, ht⟩) (fun _ h => by cases h) dX7_worth_91
  by_cases k_13 : i_a1 = 115
  · have ek_13 : a1.toInt = 115 := hi_a1.trans k_13
    refine lv_tableIn (tgt := 92) hx hb dX7_worth_1 (by rw [ek_13]; decide) (by rw [ek_13]; decide) (by rw [ek_13]; rfl) (by decide) ?_
    refine lv_lload_n hx hb dX7_worth_92 rfl (lv_at hl 3 rfl) ?_
    exact W.lret (v := a3) hx hb hr (fun t ht hW => ⟨_, rfl, trivial, ht⟩) (fun _ h => by cases h) dX7_worth_93
  by_cases k_14 : i_a1 = 116
  · have ek_14 : a1.toInt = 116 := hi_a1.trans k_14
    refine lv_tableIn (tgt := 94) hx hb dX7_worth_1 (by rw [ek_14]; decide) (by rw [ek_14]; decide) (by rw [ek_14]; rfl) (by decide) ?_
    refine lv_aload_n hx hb dX7_worth_94 rfl (lv_at hl 0 rfl) ?_
    refine va_get (D := D) (ci := 7) (v := .int (v 24)) (C := RX7) (T := TX7) (N := 56) hx hb hts (fun _ h => List.mem_cons_of_mem _ (List.mem_append_right _ h)) hown hK hP 0 rfl rfl 24 (by decide) (hts (.fieldLink RX7 267 "CrownTableModel" "term" "I") (mem_i 3 rfl)) (fun _ h9 => h9) rfl dX7_worth_95 ?_
    refine lv_i2l hx hb dX7_worth_98 rfl ?_
    exact W.lret (v := ((v 24)).toInt64) hx hb hr (fun t ht hW => ⟨_, rfl, trivial, ht⟩) (fun _ h => by cases h) dX7_worth_99
  by_cases k_15 : i_a1 = 117
  · have ek_15 : a1.toInt = 117 := hi_a1.trans k_15
    refine lv_tableIn (tgt := 100) hx hb dX7_worth_1 (by rw [ek_15]; decide) (by rw [ek_15]; decide) (by rw [ek_15]; rfl) (by decide) ?_
    refine lv_aload_n hx hb dX7_worth_100 rfl (lv_at hl 0 rfl) ?_
    refine va_get (D := D) (ci := 7) (v := .int (v 24)) (C := RX7) (T := TX7) (N := 56) hx hb hts (fun _ h => List.mem_cons_of_mem _ (List.mem_append_right _ h)) hown hK hP 0 rfl rfl 24 (by decide) (hts (.fieldLink RX7 267 "CrownTableModel" "term" "I") (mem_i 3 rfl)) (fun _ h9 => h9) rfl dX7_worth_101 ?_
    refine lv_iconst (v := 2) hx hb dX7_worth_104 (by decide) ?_
    refine lv_idiv hx hb dX7_worth_105 (by decide) ?_
    refine lv_topi (fun x_16 ex_16 => ?_)
    have tx_16 : x_16.toInt = ((v 24).toInt / 2) := by rw [ex_16]; exact div_ti (a := (v 24).toInt) (b := 2) rfl (by decide) (by omega) (by omega) (by decide) (by decide)
    refine lv_i2l hx hb dX7_worth_106 rfl ?_
    exact W.lret (v := x_16.toInt64) hx hb hr (fun t ht hW => ⟨_, rfl, trivial, ht⟩) (fun _ h => by cases h) dX7_worth_107
  by_cases k_17 : i_a1 = 118
  · have ek_17 : a1.toInt = 118 := hi_a1.trans k_17
    refine lv_tableIn (tgt := 108) hx hb dX7_worth_1 (by rw [ek_17]; decide) (by rw [ek_17]; decide) (by rw [ek_17]; rfl) (by decide) ?_
    refine lv_aload_n hx hb dX7_worth_108 rfl (lv_at hl 0 rfl) ?_
    refine va_get (D := D) (ci := 7) (v := .ref (q 36)) (C := RX7) (T := TX7) (N := 56) hx hb hts (fun _ h => List.mem_cons_of_mem _ (List.mem_append_right _ h)) hown hK hP 0 rfl rfl 36 (by decide) (hts (.fieldLink RX7 75 "CrownTableModel" "held" "[Z") (mem_i 6 rfl)) (fun _ h9 => h9) rfl dX7_worth_109 ?_
    refine lv_aload_n hx hb dX7_worth_112 rfl (lv_at hl 0 rfl) ?_
    refine va_get (D := D) (ci := 7) (v := .ref (q 28)) (C := RX7) (T := TX7) (N := 56) hx hb hts (fun _ h => List.mem_cons_of_mem _ (List.mem_append_right _ h)) hown hK hP 0 rfl rfl 28 (by decide) (hts (.fieldLink RX7 50 "CrownTableModel" "debtor" "[I") (mem_i 2 rfl)) (fun _ h9 => h9) rfl dX7_worth_113 ?_
    refine lv_iload_n hx hb dX7_worth_116 rfl (lv_at hl 2 rfl) ?_
    refine va_iald hx hb hK hP 2 1 rfl rfl (vin (a := i_a2) hi_a2 (by omega) (by omega)) dX7_worth_117 ?_
    refine lv_topi (fun x_18 ex_18 => ?_)
    have ld_19 := hc_debtor (a2.toNatClampNeg)
    rw [← ex_18] at ld_19
    refine va_zald hx hb hK hP 5 3 rfl rfl (vin (a := x_18.toInt) rfl (by omega) (by omega)) dX7_worth_118 ?_
    refine lv_topi (fun x_20 ex_20 => ?_)
    refine iif_eq (a := x_20.toInt) (tgt := 126) hx hb rfl dX7_worth_119 (by decide) (fun k_21 => ?_) (fun k_21 => ?_)
    · skip
      refine lv_lconst (v := 0) hx hb dX7_worth_126 (by decide) ?_
      exact W.lret (v := 0) hx hb hr (fun t ht hW => ⟨_, rfl, trivial, ht⟩) (fun _ h => by cases h) dX7_worth_127
    · skip
      refine lv_lconst (v := 1) hx hb dX7_worth_122 (by decide) ?_
      refine lv_goto (tgt := 127) hx hb dX7_worth_123 (by decide) ?_
      exact W.lret (v := 1) hx hb hr (fun t ht hW => ⟨_, rfl, trivial, ht⟩) (fun _ h => by cases h) dX7_worth_127
  by_cases k_22 : i_a1 = 119
  · have ek_22 : a1.toInt = 119 := hi_a1.trans k_22
    refine lv_tableIn (tgt := 128) hx hb dX7_worth_1 (by rw [ek_22]; decide) (by rw [ek_22]; decide) (by rw [ek_22]; rfl) (by decide) ?_
    refine lv_lload hx hb dX7_worth_128 (lv_at hl 4 rfl) ?_
    exact W.lret (v := a4) hx hb hr (fun t ht hW => ⟨_, rfl, trivial, ht⟩) (fun _ h => by cases h) dX7_worth_130
  refine lv_tableOut (tgt := 131) hx hb dX7_worth_1 (by rw [hi_a1]; omega) (by decide) ?_
  refine lv_aload_n hx hb dX7_worth_131 rfl (lv_at hl 0 rfl) ?_
  refine va_get (D := D) (ci := 7) (v := .ref (q 33)) (C := RX7) (T := TX7) (N := 56) hx hb hts (fun _ h => List.mem_cons_of_mem _ (List.mem_append_right _ h)) hown hK hP 0 rfl rfl 33 (by decide) (hts (.fieldLink RX7 65 "CrownTableModel" "pledge" "[I") (mem_i 7 rfl)) (fun _ h9 => h9) rfl dX7_worth_132 ?_
  refine lv_iload_n hx hb dX7_worth_135 rfl (lv_at hl 2 rfl) ?_
  refine va_iald hx hb hK hP 6 1 rfl rfl (vin (a := i_a2) hi_a2 (by omega) (by omega)) dX7_worth_136 ?_
  refine lv_topi (fun x_23 ex_23 => ?_)
  have ld_24 := hc_pledge (a2.toNatClampNeg)
  rw [← ex_23] at ld_24
  refine iif_lt (a := x_23.toInt) (tgt := 144) hx hb rfl dX7_worth_137 (by decide) (fun k_25 => ?_) (fun k_25 => ?_)
  · skip
    refine lv_lconst (v := 0) hx hb dX7_worth_144 (by decide) ?_
    exact W.lret (v := 0) hx hb hr (fun t ht hW => ⟨_, rfl, trivial, ht⟩) (fun _ h => by cases h) dX7_worth_145
  · skip
    refine lv_lconst (v := 1) hx hb dX7_worth_140 (by decide) ?_
    refine lv_goto (tgt := 145) hx hb dX7_worth_141 (by decide) ?_
    exact W.lret (v := 1) hx hb hr (fun t ht hW => ⟨_, rfl, trivial, ht⟩) (fun _ h => by cases h) dX7_worth_145

set_option maxHeartbeats 4000000 in
set_option maxRecDepth 100000 in
theorem k_X7_holds (l : Launch) (D : va_G) (c : Nat → ClassId) (ts : Nat × Nat) (sz : Nat) (A_self : Nat) (q : Nat → Nat) (v : Nat → Int32) (w : Nat → Int64) (f_from : Nat → Int32) (f_to : Nat → Int32) (f_op : Nat → Int32) (f_number : Nat → Int32) (f_pile : Nat → Int64) (f_left : Nat → Int32) (f_debtor : Nat → Int32) (f_made : Nat → Int32) (f_kind : Nat → Int32) (f_held : Nat → Int32) (f_pledge : Nat → Int32) (a1 : Int32) (i_a1 : Int) (hi_a1 : a1.toInt = i_a1) (a2 : Int32) (i_a2 : Int) (hi_a2 : a2.toInt = i_a2) (a3 : Int64) (a4 : Int64) (hv_2 : 0 ≤ (v 2).toInt ∧ (v 2).toInt ≤ 800) (hv_8 : 0 ≤ (v 8).toInt ∧ (v 8).toInt ≤ 10) (hv_21 : 0 ≤ (v 21).toInt ∧ (v 21).toInt ≤ 40) (hv_24 : 0 ≤ (v 24).toInt ∧ (v 24).toInt ≤ 1000) (hv_27 : 0 ≤ (v 27).toInt ∧ (v 27).toInt ≤ 400) (hv_42 : 0 ≤ (v 42).toInt ∧ (v 42).toInt ≤ 4000) (hv_52 : 0 ≤ (v 52).toInt ∧ (v 52).toInt ≤ 2000) (hc_debtor : ∀ j : Nat, 0 ≤ (f_debtor j).toInt ∧ (f_debtor j).toInt ≤ 15) (hc_pledge : ∀ j : Nat, -1 ≤ (f_pledge j).toInt ∧ (f_pledge j).toInt ≤ 15) (hv_a1 : 0 ≤ i_a1 ∧ i_a1 ≤ 399) (hv_a2 : 0 ≤ i_a2 ∧ i_a2 ≤ 399) (hq0 : 0 ≤ (f_from i_a1.toNat).toInt ∧ (f_from i_a1.toNat).toInt ≤ (f_to i_a1.toNat).toInt ∧ (f_to i_a1.toNat).toInt ≤ 9000) (hq1 : (f_from i_a1.toNat).toInt = (f_to i_a1.toNat).toInt ∨ 1 ≤ dep f_op (f_from i_a1.toNat).toInt ((f_to i_a1.toNat).toInt - (f_from i_a1.toNat).toInt).toNat) : Met l yX7_holds wsX7_holds ({ frames := 2, cells := 0, slots := 0, locals := 50 }) (va_Pc [.ref A_self, .int a1, .int a2, .long a3, .long a4] (Pre0 D c ts [(A_self, .inr (7, o7 q v w)), (q 12, .inl (c 1, 400, .inl f_from)), (q 13, .inl (c 1, 400, .inl f_to)), (q 14, .inl (c 1, 9000, .inl f_op)), (q 15, .inl (c 1, 9000, .inl f_number)), (q 40, .inl (c 2, 400, .inr (.inl f_pile))), (q 31, .inl (c 1, 400, .inl f_left)), (q 28, .inl (c 1, 400, .inl f_debtor)), (q 32, .inl (c 1, 400, .inl f_made)), (q 29, .inl (c 1, 400, .inl f_kind)), (q 36, .inl (c 3, 16, .inl f_held)), (q 33, .inl (c 1, 400, .inl f_pledge))] sz)) (va_Qi (fun (r : Int32) (u : Int32 × (Nat → Int64) × Unit) => (((True) ∧ r = 1) ∨ ((True) ∧ r = 0))) (fun u t => va_P D vwCl [(A_self, .inr (7, o7 q (upd v 41 u.1) w)), (q 12, .inl (c 1, 400, .inl f_from)), (q 13, .inl (c 1, 400, .inl f_to)), (q 14, .inl (c 1, 9000, .inl f_op)), (q 15, .inl (c 1, 9000, .inl f_number)), (q 40, .inl (c 2, 400, .inr (.inl u.2.1))), (q 31, .inl (c 1, 400, .inl f_left)), (q 28, .inl (c 1, 400, .inl f_debtor)), (q 32, .inl (c 1, 400, .inl f_made)), (q 29, .inl (c 1, 400, .inl f_kind)), (q 36, .inl (c 3, 16, .inl f_held)), (q 33, .inl (c 1, 400, .inl f_pledge))] t.heap ∧ va_D (va_A [(A_self, .inr (7, o7 q v w)), (q 12, .inl (c 1, 400, .inl f_from)), (q 13, .inl (c 1, 400, .inl f_to)), (q 14, .inl (c 1, 9000, .inl f_op)), (q 15, .inl (c 1, 9000, .inl f_number)), (q 40, .inl (c 2, 400, .inr (.inl f_pile))), (q 31, .inl (c 1, 400, .inl f_left)), (q 28, .inl (c 1, 400, .inl f_debtor)), (q 32, .inl (c 1, 400, .inl f_made)), (q 29, .inl (c 1, 400, .inl f_kind)), (q 36, .inl (c 3, 16, .inl f_held)), (q 33, .inl (c 1, 400, .inl f_pledge))] sz) [(A_self, .inr (7, o7 q (upd v 41 u.1) w)), (q 12, .inl (c 1, 400, .inl f_from)), (q 13, .inl (c 1, 400, .inl f_to)), (q 14, .inl (c 1, 9000, .inl f_op)), (q 15, .inl (c 1, 9000, .inl f_number)), (q 40, .inl (c 2, 400, .inr (.inl u.2.1))), (q 31, .inl (c 1, 400, .inl f_left)), (q 28, .inl (c 1, 400, .inl f_debtor)), (q 32, .inl (c 1, 400, .inl f_made)), (q 29, .inl (c 1, 400, .inl f_kind)), (q 36, .inl (c 3, 16, .inl f_held)), (q 33, .inl (c 1, 400, .inl f_pledge))]) (va_A [(A_self, .inr (7, o7 q v w)), (q 12, .inl (c 1, 400, .inl f_from)), (q 13, .inl (c 1, 400, .inl f_to)), (q 14, .inl (c 1, 9000, .inl f_op)), (q 15, .inl (c 1, 9000, .inl f_number)), (q 40, .inl (c 2, 400, .inr (.inl f_pile))), (q 31, .inl (c 1, 400, .inl f_left)), (q 28, .inl (c 1, 400, .inl f_debtor)), (q 32, .inl (c 1, 400, .inl f_made)), (q 29, .inl (c 1, 400, .inl f_kind)), (q 36, .inl (c 3, 16, .inl f_held)), (q 33, .inl (c 1, 400, .inl f_pledge))] sz)) 0 0 (va_A [(A_self, .inr (7, o7 q v w)), (q 12, .inl (c 1, 400, .inl f_from)), (q 13, .inl (c 1, 400, .inl f_to)), (q 14, .inl (c 1, 9000, .inl f_op)), (q 15, .inl (c 1, 9000, .inl f_number)), (q 40, .inl (c 2, 400, .inr (.inl f_pile))), (q 31, .inl (c 1, 400, .inl f_left)), (q 28, .inl (c 1, 400, .inl f_debtor)), (q 32, .inl (c 1, 400, .inl f_made)), (q 29, .inl (c 1, 400, .inl f_kind)), (q 36, .inl (c 3, 16, .inl f_held)), (q 33, .inl (c 1, 400, .inl f_pledge))] sz) := by
  refine Met.ofW (cc := cX7_holds) (maxL := 8) (ret := (some .boolean)) (by decide) rfl ?_
  intro p e s m args below meth cd s₁ B hml hv
  obtain ⟨rfl, hsz, hP, hD0, hAm, hSt⟩ := hv
  have hx := B.exec
  have hb := B.bytes
  have hr := B.returns
  have hts := atoms_spec (ws := wsX7_holds) B.pre
  have hown : s.vm.findClass RX7 = some m.cls := findClass_of_methodNamed B.named
  have hlocks := B.notSynchronized
  have hK := hAm.1
  subst hsz
  have hD := hD0.self (sz := s.heap.size)
  generalize hAe : va_A [(A_self, .inr (7, o7 q v w)), (q 12, .inl (c 1, 400, .inl f_from)), (q 13, .inl (c 1, 400, .inl f_to)), (q 14, .inl (c 1, 9000, .inl f_op)), (q 15, .inl (c 1, 9000, .inl f_number)), (q 40, .inl (c 2, 400, .inr (.inl f_pile))), (q 31, .inl (c 1, 400, .inl f_left)), (q 28, .inl (c 1, 400, .inl f_debtor)), (q 32, .inl (c 1, 400, .inl f_made)), (q 29, .inl (c 1, 400, .inl f_kind)), (q 36, .inl (c 3, 16, .inl f_held)), (q 33, .inl (c 1, 400, .inl f_pledge))] s.heap.size = A at hD hSt ⊢
  have hA : ∀ q : Nat, s.heap.size ≤ q → A q := fun q h => by rw [← hAe]; exact Or.inr h
  have hS : va_S A s.heap s.heap [] := va_S.rf
  clear hD0 hAe
  have hl := lv_entry ([.ref A_self, .int a1, .int a2, .long a3, .long a4]) (n := 8) (Nat.le_of_ble_eq_true rfl)
  rw [lg_entry_eq]
  generalize (lg_sl ([.ref A_self, .int a1, .int a2, .long a3, .long a4]) ++ List.replicate (8 - (lg_sl ([.ref A_self, .int a1, .int a2, .long a3, .long a4])).length) Slot.unset).toArray = ls at hl ⊢
  have hl : lv_has ls 8 [(0, .ref A_self), (1, .int a1), (2, .int a2), (3, .long a3), (5, .long a4)] := hl
  refine lv_aload_n hx hb dX7_holds_0 rfl (lv_at hl 0 rfl) ?_
  refine va_get (D := D) (ci := 7) (v := .ref (q 12)) (C := RX7) (T := TX7) (N := 56) hx hb hts (fun _ h => List.mem_cons_of_mem _ (List.mem_append_right _ h)) hown hK hP 0 rfl rfl 12 (by decide) (hts (.fieldLink RX7 23 "CrownTableModel" "from" "[I") (mem_i 1 rfl)) (fun _ h9 => h9) rfl dX7_holds_1 ?_
  refine lv_iload_n hx hb dX7_holds_4 rfl (lv_at hl 1 rfl) ?_
  refine va_iald hx hb hK hP 1 1 rfl rfl (vin (a := i_a1) hi_a1 (by omega) (by omega)) dX7_holds_5 ?_
  refine lv_topi (fun x_1 ex_1 => ?_)
  have lf_2 : (f_from i_a1.toNat).toInt = x_1.toInt := by rw [ex_1, clampN (x := a1) hi_a1]
  refine lv_aload_n hx hb dX7_holds_6 rfl (lv_at hl 0 rfl) ?_
  refine va_get (D := D) (ci := 7) (v := .ref (q 13)) (C := RX7) (T := TX7) (N := 56) hx hb hts (fun _ h => List.mem_cons_of_mem _ (List.mem_append_right _ h)) hown hK hP 0 rfl rfl 13 (by decide) (hts (.fieldLink RX7 26 "CrownTableModel" "to" "[I") (mem_i 2 rfl)) (fun _ h9 => h9) rfl dX7_holds_7 ?_
  refine lv_iload_n hx hb dX7_holds_10 rfl (lv_at hl 1 rfl) ?_
  refine va_iald hx hb hK hP 2 1 rfl rfl (vin (a := i_a1) hi_a1 (by omega) (by omega)) dX7_holds_11 ?_
  refine lv_topi (fun x_3 ex_3 => ?_)
  have lf_4 : (f_to i_a1.toNat).toInt = x_3.toInt := by rw [ex_3, clampN (x := a1) hi_a1]
  refine iicmp_ne (a := x_1.toInt) (b := x_3.toInt) (tgt := 17) hx hb rfl rfl dX7_holds_12 (by decide) (fun k_5 => ?_) (fun k_5 => ?_)
  · skip
    refine lv_aload_n hx hb dX7_holds_17 rfl (lv_at hl 0 rfl) ?_
    refine lv_iconst (v := 0) hx hb dX7_holds_18 (by decide) ?_
    refine va_put (D := D) (ci := 7) (v := .int 0) (ty := .int) (C := RX7) (T := TX7) (N := 56) hx hb hts (fun _ h => List.mem_cons_of_mem _ (List.mem_append_right _ h)) tyX7 tyX7_ok nmX7 hown hK hP hD hS 0 rfl rfl 41 (by decide) (hts (.fieldLink RX7 293 "CrownTableModel" "piled" "I") (mem_i 3 rfl)) (fun _ h9 => h9) rfl (by decide +kernel) rfl rfl (Nat.le_of_ble_eq_true rfl) dX7_holds_19 (fun H locs hP hD hS => ?_)
    have hP : va_P D vwCl [(A_self, .inr (7, o7 q (upd v 41 0) w)), (q 12, .inl (c 1, 400, .inl f_from)), (q 13, .inl (c 1, 400, .inl f_to)), (q 14, .inl (c 1, 9000, .inl f_op)), (q 15, .inl (c 1, 9000, .inl f_number)), (q 40, .inl (c 2, 400, .inr (.inl f_pile))), (q 31, .inl (c 1, 400, .inl f_left)), (q 28, .inl (c 1, 400, .inl f_debtor)), (q 32, .inl (c 1, 400, .inl f_made)), (q 29, .inl (c 1, 400, .inl f_kind)), (q 36, .inl (c 3, 16, .inl f_held)), (q 33, .inl (c 1, 400, .inl f_pledge))] H := hP
    have hD : va_D A [(A_self, .inr (7, o7 q (upd v 41 0) w)), (q 12, .inl (c 1, 400, .inl f_from)), (q 13, .inl (c 1, 400, .inl f_to)), (q 14, .inl (c 1, 9000, .inl f_op)), (q 15, .inl (c 1, 9000, .inl f_number)), (q 40, .inl (c 2, 400, .inr (.inl f_pile))), (q 31, .inl (c 1, 400, .inl f_left)), (q 28, .inl (c 1, 400, .inl f_debtor)), (q 32, .inl (c 1, 400, .inl f_made)), (q 29, .inl (c 1, 400, .inl f_kind)), (q 36, .inl (c 3, 16, .inl f_held)), (q 33, .inl (c 1, 400, .inl f_pledge))] := hD
    refine lv_aload_n hx hb dX7_holds_22 rfl (lv_at hl 0 rfl) ?_
    refine va_get (D := D) (ci := 7) (v := .ref (q 12)) (C := RX7) (T := TX7) (N := 56) hx hb hts (fun _ h => List.mem_cons_of_mem _ (List.mem_append_right _ h)) hown hK hP 0 rfl rfl 12 (by decide) (hts (.fieldLink RX7 23 "CrownTableModel" "from" "[I") (mem_i 1 rfl)) (fun _ h9 => h9) rfl dX7_holds_23 ?_
    refine lv_iload_n hx hb dX7_holds_26 rfl (lv_at hl 1 rfl) ?_
    refine va_iald hx hb hK hP 1 1 rfl rfl (vin (a := i_a1) hi_a1 (by omega) (by omega)) dX7_holds_27 ?_
    refine lv_topi (fun x_6 ex_6 => ?_)
    have lf_7 : (f_from i_a1.toNat).toInt = x_6.toInt := by rw [ex_6, clampN (x := a1) hi_a1]
    refine lv_istore (lv' := [(7, .int x_6), (0, .ref A_self), (1, .int a1), (2, .int a2), (3, .long a3), (5, .long a4)]) hx hb dX7_holds_28 hl (by decide) rfl (fun ls hl => ?_)
    have lp_30 : ∀ (N : Nat) (L7 : Int32) (M_self_piled : Int32) (M_pile : Nat → Int64) (hf30_0 : 0 ≤ L7.toInt) (hf30_1 : L7.toInt ≤ 9000) (hf30_2 : (f_from i_a1.toNat).toInt ≤ L7.toInt ∧ L7.toInt ≤ (f_to i_a1.toNat).toInt) (hf30_3 : M_self_piled.toInt = dep f_op (f_from i_a1.toNat).toInt (L7.toInt - (f_from i_a1.toNat).toInt).toNat) (hf30_4 : 0 ≤ M_self_piled.toInt ∧ M_self_piled.toInt ≤ 399) (hN30 : (9000 - L7.toInt).toNat = N) (H : Heap) (locs : List Loc) (ls : Array Slot), va_P D vwCl [(A_self, .inr (7, o7 q (upd v 41 M_self_piled) w)), (q 12, .inl (c 1, 400, .inl f_from)), (q 13, .inl (c 1, 400, .inl f_to)), (q 14, .inl (c 1, 9000, .inl f_op)), (q 15, .inl (c 1, 9000, .inl f_number)), (q 40, .inl (c 2, 400, .inr (.inl M_pile))), (q 31, .inl (c 1, 400, .inl f_left)), (q 28, .inl (c 1, 400, .inl f_debtor)), (q 32, .inl (c 1, 400, .inl f_made)), (q 29, .inl (c 1, 400, .inl f_kind)), (q 36, .inl (c 3, 16, .inl f_held)), (q 33, .inl (c 1, 400, .inl f_pledge))] H → va_D A [(A_self, .inr (7, o7 q (upd v 41 M_self_piled) w)), (q 12, .inl (c 1, 400, .inl f_from)), (q 13, .inl (c 1, 400, .inl f_to)), (q 14, .inl (c 1, 9000, .inl f_op)), (q 15, .inl (c 1, 9000, .inl f_number)), (q 40, .inl (c 2, 400, .inr (.inl M_pile))), (q 31, .inl (c 1, 400, .inl f_left)), (q 28, .inl (c 1, 400, .inl f_debtor)), (q 32, .inl (c 1, 400, .inl f_made)), (q 29, .inl (c 1, 400, .inl f_kind)), (q 36, .inl (c 3, 16, .inl f_held)), (q 33, .inl (c 1, 400, .inl f_pledge))] → va_S A s.heap H locs → lv_has ls 8 [(0, .ref A_self), (1, .int a1), (2, .int a2), (3, .long a3), (5, .long a4), (7, .int L7)] → W p l e (headSpec wsX7_holds ({ frames := 2, cells := 0, slots := 0, locals := 50 })).room s m (([.ref A_self, .int a1, .int a2, .long a3, .long a4] : List Value).toArray) below meth cd H locs 0 0 (MQ below (va_Qi (fun (r : Int32) (u : Int32 × (Nat → Int64) × Unit) => (((True) ∧ r = 1) ∨ ((True) ∧ r = 0))) (fun u t => va_P D vwCl [(A_self, .inr (7, o7 q (upd v 41 u.1) w)), (q 12, .inl (c 1, 400, .inl f_from)), (q 13, .inl (c 1, 400, .inl f_to)), (q 14, .inl (c 1, 9000, .inl f_op)), (q 15, .inl (c 1, 9000, .inl f_number)), (q 40, .inl (c 2, 400, .inr (.inl u.2.1))), (q 31, .inl (c 1, 400, .inl f_left)), (q 28, .inl (c 1, 400, .inl f_debtor)), (q 32, .inl (c 1, 400, .inl f_made)), (q 29, .inl (c 1, 400, .inl f_kind)), (q 36, .inl (c 3, 16, .inl f_held)), (q 33, .inl (c 1, 400, .inl f_pledge))] t.heap ∧ va_D A [(A_self, .inr (7, o7 q (upd v 41 u.1) w)), (q 12, .inl (c 1, 400, .inl f_from)), (q 13, .inl (c 1, 400, .inl f_to)), (q 14, .inl (c 1, 9000, .inl f_op)), (q 15, .inl (c 1, 9000, .inl f_number)), (q 40, .inl (c 2, 400, .inr (.inl u.2.1))), (q 31, .inl (c 1, 400, .inl f_left)), (q 28, .inl (c 1, 400, .inl f_debtor)), (q 32, .inl (c 1, 400, .inl f_made)), (q 29, .inl (c 1, 400, .inl f_kind)), (q 36, .inl (c 3, 16, .inl f_held)), (q 33, .inl (c 1, 400, .inl f_pledge))]) A) ([.ref A_self, .int a1, .int a2, .long a3, .long a4] : List Value).toArray s 0 0 A) (F0 m 30 ls []) := by
      refine st_ind (fun N ih30 => ?_)
      intro L7 M_self_piled M_pile hf30_0 hf30_1 hf30_2 hf30_3 hf30_4 hN30 H locs ls hP hD hS hl
      have rg_M_self_piled := i32r M_self_piled
      refine lv_iload hx hb dX7_holds_30 (lv_at hl 5 rfl) ?_
      refine lv_aload_n hx hb dX7_holds_32 rfl (lv_at hl 0 rfl) ?_
      refine va_get (D := D) (ci := 7) (v := .ref (q 13)) (C := RX7) (T := TX7) (N := 56) hx hb hts (fun _ h => List.mem_cons_of_mem _ (List.mem_append_right _ h)) hown hK hP 0 rfl rfl 13 (by decide) (hts (.fieldLink RX7 26 "CrownTableModel" "to" "[I") (mem_i 2 rfl)) (fun _ h9 => h9) rfl dX7_holds_33 ?_
      refine lv_iload_n hx hb dX7_holds_36 rfl (lv_at hl 1 rfl) ?_
      refine va_iald hx hb hK hP 2 1 rfl rfl (vin (a := i_a1) hi_a1 (by omega) (by omega)) dX7_holds_37 ?_
      refine lv_topi (fun x_8 ex_8 => ?_)
      have lf_9 : (f_to i_a1.toNat).toInt = x_8.toInt := by rw [ex_8, clampN (x := a1) hi_a1]
      refine iicmp_ge (a := L7.toInt) (b := x_8.toInt) (tgt := 226) hx hb rfl rfl dX7_holds_38 (by decide) (fun k_10 => ?_) (fun k_10 => ?_)
      · skip
        refine lv_aload_n hx hb dX7_holds_226 rfl (lv_at hl 0 rfl) ?_
        refine va_get (D := D) (ci := 7) (v := .ref (q 40)) (C := RX7) (T := TX7) (N := 56) hx hb hts (fun _ h => List.mem_cons_of_mem _ (List.mem_append_right _ h)) hown hK hP 0 rfl rfl 40 (by decide) (hts (.fieldLink RX7 82 "CrownTableModel" "pile" "[J") (mem_i 5 rfl)) (fun _ h9 => h9) rfl dX7_holds_227 ?_
        refine lv_iconst (v := 0) hx hb dX7_holds_230 (by decide) ?_
        refine va_lald hx hb hK hP 5 2 rfl rfl (vin (a := 0) (by decide) (by decide) (by decide)) dX7_holds_231 ?_
        refine lv_topl (fun x_11 ex_11 => ?_)
        refine lv_lconst (v := 0) hx hb dX7_holds_232 (by decide) ?_
        refine W.lcmp hx hb dX7_holds_233 ?_
        refine lv_topi (fun x_12 ex_12 => ?_)
        have tx_12 := lcg_fact (n := x_12) ex_12 (show (x_11 : Int64).toInt = x_11.toInt from rfl) (show (0 : Int64).toInt = 0 from (by decide))
        refine iif_eq (a := x_12.toInt) (tgt := 241) hx hb rfl dX7_holds_234 (by decide) (fun k_13 => ?_) (fun k_13 => ?_)
        · skip
          refine lv_iconst (v := 0) hx hb dX7_holds_241 (by decide) ?_
          have kzz_14 : (0 : Int32).toInt = 0 := by decide
          have hP9 := hP.sub (ws' := [(A_self, .inr (7, o7 q (upd v 41 M_self_piled) w)), (q 12, .inl (c 1, 400, .inl f_from)), (q 13, .inl (c 1, 400, .inl f_to)), (q 14, .inl (c 1, 9000, .inl f_op)), (q 15, .inl (c 1, 9000, .inl f_number)), (q 40, .inl (c 2, 400, .inr (.inl M_pile))), (q 31, .inl (c 1, 400, .inl f_left)), (q 28, .inl (c 1, 400, .inl f_debtor)), (q 32, .inl (c 1, 400, .inl f_made)), (q 29, .inl (c 1, 400, .inl f_kind)), (q 36, .inl (c 3, 16, .inl f_held)), (q 33, .inl (c 1, 400, .inl f_pledge))]) [0, 1, 2, 3, 4, 5, 6, 7, 8, 9, 10, 11] rfl
          have hD9 := hD.sub (ws' := [(A_self, .inr (7, o7 q (upd v 41 M_self_piled) w)), (q 12, .inl (c 1, 400, .inl f_from)), (q 13, .inl (c 1, 400, .inl f_to)), (q 14, .inl (c 1, 9000, .inl f_op)), (q 15, .inl (c 1, 9000, .inl f_number)), (q 40, .inl (c 2, 400, .inr (.inl M_pile))), (q 31, .inl (c 1, 400, .inl f_left)), (q 28, .inl (c 1, 400, .inl f_debtor)), (q 32, .inl (c 1, 400, .inl f_made)), (q 29, .inl (c 1, 400, .inl f_kind)), (q 36, .inl (c 3, 16, .inl f_held)), (q 33, .inl (c 1, 400, .inl f_pledge))]) [0, 1, 2, 3, 4, 5, 6, 7, 8, 9, 10, 11] (by decide) rfl
          refine W.widen (k := 0) (n := 0) (by omega) (by omega) ?_
          exact W.zret (v := 0) hx hb hr (by decide) (fun t ht hW => ⟨⟨_, (M_self_piled, M_pile, ()), rfl, Or.inr (⟨trivial, rfl⟩), ⟨by rw [ht]; exact hP9, hD9⟩⟩, hS.F ht⟩) hS.2.2 dX7_holds_242
        · skip
          refine lv_iconst (v := 1) hx hb dX7_holds_237 (by decide) ?_
          refine lv_goto (tgt := 242) hx hb dX7_holds_238 (by decide) ?_
          have kzz_15 : (1 : Int32).toInt = 1 := by decide
          have hP9 := hP.sub (ws' := [(A_self, .inr (7, o7 q (upd v 41 M_self_piled) w)), (q 12, .inl (c 1, 400, .inl f_from)), (q 13, .inl (c 1, 400, .inl f_to)), (q 14, .inl (c 1, 9000, .inl f_op)), (q 15, .inl (c 1, 9000, .inl f_number)), (q 40, .inl (c 2, 400, .inr (.inl M_pile))), (q 31, .inl (c 1, 400, .inl f_left)), (q 28, .inl (c 1, 400, .inl f_debtor)), (q 32, .inl (c 1, 400, .inl f_made)), (q 29, .inl (c 1, 400, .inl f_kind)), (q 36, .inl (c 3, 16, .inl f_held)), (q 33, .inl (c 1, 400, .inl f_pledge))]) [0, 1, 2, 3, 4, 5, 6, 7, 8, 9, 10, 11] rfl
          have hD9 := hD.sub (ws' := [(A_self, .inr (7, o7 q (upd v 41 M_self_piled) w)), (q 12, .inl (c 1, 400, .inl f_from)), (q 13, .inl (c 1, 400, .inl f_to)), (q 14, .inl (c 1, 9000, .inl f_op)), (q 15, .inl (c 1, 9000, .inl f_number)), (q 40, .inl (c 2, 400, .inr (.inl M_pile))), (q 31, .inl (c 1, 400, .inl f_left)), (q 28, .inl (c 1, 400, .inl f_debtor)), (q 32, .inl (c 1, 400, .inl f_made)), (q 29, .inl (c 1, 400, .inl f_kind)), (q 36, .inl (c 3, 16, .inl f_held)), (q 33, .inl (c 1, 400, .inl f_pledge))]) [0, 1, 2, 3, 4, 5, 6, 7, 8, 9, 10, 11] (by decide) rfl
          refine W.widen (k := 0) (n := 0) (by omega) (by omega) ?_
          exact W.zret (v := 1) hx hb hr (by decide) (fun t ht hW => ⟨⟨_, (M_self_piled, M_pile, ()), rfl, Or.inl ⟨trivial, rfl⟩, ⟨by rw [ht]; exact hP9, hD9⟩⟩, hS.F ht⟩) hS.2.2 dX7_holds_242
      · skip
        have dpr := dep_pre (o := f_op) (a := (f_from i_a1.toNat).toInt) (m := (L7.toInt + 1 - (f_from i_a1.toNat).toInt).toNat) ((f_to i_a1.toNat).toInt - (f_from i_a1.toNat).toInt).toNat (by omega) (by omega)
        have dpa := dep_at (o := f_op) (a := (f_from i_a1.toNat).toInt) (k := L7.toInt) (by omega) (by omega)
        rw [dpa, ← hf30_3] at dpr
        have dpi := stp_inv (by omega) dpr
        rw [← hf30_3] at dpa
        refine lv_aload_n hx hb dX7_holds_41 rfl (lv_at hl 0 rfl) ?_
        refine va_get (D := D) (ci := 7) (v := .ref (q 14)) (C := RX7) (T := TX7) (N := 56) hx hb hts (fun _ h => List.mem_cons_of_mem _ (List.mem_append_right _ h)) hown hK hP 0 rfl rfl 14 (by decide) (hts (.fieldLink RX7 29 "CrownTableModel" "op" "[I") (mem_i 4 rfl)) (fun _ h9 => h9) rfl dX7_holds_42 ?_
        refine lv_iload hx hb dX7_holds_45 (lv_at hl 5 rfl) ?_
        refine va_iald hx hb hK hP 3 1 rfl rfl (vin (a := L7.toInt) rfl (by omega) (by omega)) dX7_holds_47 ?_
        refine lv_topi (fun x_16 ex_16 => ?_)
        have lf_17 : (f_op L7.toInt.toNat).toInt = x_16.toInt := by rw [ex_16, clampN (x := L7) rfl]
        refine lv_iconst (v := 1) hx hb dX7_holds_48 (by decide) ?_
        refine iicmp_eq (a := x_16.toInt) (b := 1) (tgt := 64) hx hb rfl (by decide) dX7_holds_49 (by decide) (fun k_18 => ?_) (fun k_18 => ?_)
        · skip
          refine lv_aload_n hx hb dX7_holds_64 rfl (lv_at hl 0 rfl) ?_
          refine va_get (D := D) (ci := 7) (v := .ref (q 40)) (C := RX7) (T := TX7) (N := 56) hx hb hts (fun _ h => List.mem_cons_of_mem _ (List.mem_append_right _ h)) hown hK hP 0 rfl rfl 40 (by decide) (hts (.fieldLink RX7 82 "CrownTableModel" "pile" "[J") (mem_i 5 rfl)) (fun _ h9 => h9) rfl dX7_holds_65 ?_
          refine lv_aload_n hx hb dX7_holds_68 rfl (lv_at hl 0 rfl) ?_
          refine va_get (D := D) (ci := 7) (v := .int M_self_piled) (C := RX7) (T := TX7) (N := 56) hx hb hts (fun _ h => List.mem_cons_of_mem _ (List.mem_append_right _ h)) hown hK hP 0 rfl rfl 41 (by decide) (hts (.fieldLink RX7 293 "CrownTableModel" "piled" "I") (mem_i 3 rfl)) (fun _ h9 => h9) rfl dX7_holds_69 ?_
          refine lv_aload_n hx hb dX7_holds_72 rfl (lv_at hl 0 rfl) ?_
          refine va_get (D := D) (ci := 7) (v := .ref (q 14)) (C := RX7) (T := TX7) (N := 56) hx hb hts (fun _ h => List.mem_cons_of_mem _ (List.mem_append_right _ h)) hown hK hP 0 rfl rfl 14 (by decide) (hts (.fieldLink RX7 29 "CrownTableModel" "op" "[I") (mem_i 4 rfl)) (fun _ h9 => h9) rfl dX7_holds_73 ?_
          refine lv_iload hx hb dX7_holds_76 (lv_at hl 5 rfl) ?_
          refine va_iald hx hb hK hP 3 1 rfl rfl (vin (a := L7.toInt) rfl (by omega) (by omega)) dX7_holds_78 ?_
          refine lv_topi (fun x_19 ex_19 => ?_)
          have lf_20 : (f_op L7.toInt.toNat).toInt = x_19.toInt := by rw [ex_19, clampN (x := L7) rfl]
          refine lv_iconst (v := 1) hx hb dX7_holds_79 (by decide) ?_
          refine iicmp_ne (a := x_19.toInt) (b := 1) (tgt := 94) hx hb rfl (by decide) dX7_holds_80 (by decide) (fun k_21 => ?_) (fun k_21 => ?_)
          · skip
            refine lv_aload_n hx hb dX7_holds_94 rfl (lv_at hl 0 rfl) ?_
            refine lv_aload_n hx hb dX7_holds_95 rfl (lv_at hl 0 rfl) ?_
            refine va_get (D := D) (ci := 7) (v := .ref (q 14)) (C := RX7) (T := TX7) (N := 56) hx hb hts (fun _ h => List.mem_cons_of_mem _ (List.mem_append_right _ h)) hown hK hP 0 rfl rfl 14 (by decide) (hts (.fieldLink RX7 29 "CrownTableModel" "op" "[I") (mem_i 4 rfl)) (fun _ h9 => h9) rfl dX7_holds_96 ?_
            refine lv_iload hx hb dX7_holds_99 (lv_at hl 5 rfl) ?_
            refine va_iald hx hb hK hP 3 1 rfl rfl (vin (a := L7.toInt) rfl (by omega) (by omega)) dX7_holds_101 ?_
            refine lv_topi (fun x_22 ex_22 => ?_)
            have lf_23 : (f_op L7.toInt.toNat).toInt = x_22.toInt := by rw [ex_22, clampN (x := L7) rfl]
            refine lv_iload_n hx hb dX7_holds_102 rfl (lv_at hl 2 rfl) ?_
            refine lv_lload_n hx hb dX7_holds_103 rfl (lv_at hl 3 rfl) ?_
            refine lv_lload hx hb dX7_holds_104 (lv_at hl 4 rfl) ?_
            have hPc := hP.sub (ws' := [(A_self, .inr (7, o7 q (upd v 41 M_self_piled) w)), (q 31, .inl (c 1, 400, .inl f_left)), (q 28, .inl (c 1, 400, .inl f_debtor)), (q 32, .inl (c 1, 400, .inl f_made)), (q 29, .inl (c 1, 400, .inl f_kind)), (q 36, .inl (c 3, 16, .inl f_held)), (q 33, .inl (c 1, 400, .inl f_pledge))]) [0, 6, 7, 8, 9, 10, 11] rfl
            have hDc := hD.sub (ws' := [(A_self, .inr (7, o7 q (upd v 41 M_self_piled) w)), (q 31, .inl (c 1, 400, .inl f_left)), (q 28, .inl (c 1, 400, .inl f_debtor)), (q 32, .inl (c 1, 400, .inl f_made)), (q 29, .inl (c 1, 400, .inl f_kind)), (q 36, .inl (c 3, 16, .inl f_held)), (q 33, .inl (c 1, 400, .inl f_pledge))]) [0, 6, 7, 8, 9, 10, 11] (by decide) rfl
            have hFc := va_free (wc := [(A_self, .inr (7, o7 q (upd v 41 M_self_piled) w)), (q 31, .inl (c 1, 400, .inl f_left)), (q 28, .inl (c 1, 400, .inl f_debtor)), (q 32, .inl (c 1, 400, .inl f_made)), (q 29, .inl (c 1, 400, .inl f_kind)), (q 36, .inl (c 3, 16, .inl f_held)), (q 33, .inl (c 1, 400, .inl f_pledge))]) hD hS hA [0, 6, 7, 8, 9, 10, 11] rfl
            refine va_csl (va_runV (As := [.int x_22, .int a2, .long a3, .long a4]) (rest := [.int M_self_piled, .ref (q 40)]) ⟨hx, hb, hml, hown, hts⟩ (k_X7_worth l D c ts H.size A_self q (upd v 41 M_self_piled) w f_left f_debtor f_made f_kind f_held f_pledge x_22 x_22.toInt rfl a2 i_a2 hi_a2 a3 a4 (show 0 ≤ (v 2).toInt ∧ (v 2).toInt ≤ 800 by omega) (show 0 ≤ (v 8).toInt ∧ (v 8).toInt ≤ 10 by omega) (show 0 ≤ (v 21).toInt ∧ (v 21).toInt ≤ 40 by omega) (show 0 ≤ (v 24).toInt ∧ (v 24).toInt ≤ 1000 by omega) (show 0 ≤ (v 27).toInt ∧ (v 27).toInt ≤ 400 by omega) (show 0 ≤ (v 42).toInt ∧ (v 42).toInt ≤ 4000 by omega) (show 0 ≤ (v 52).toInt ∧ (v 52).toInt ≤ 2000 by omega) hc_debtor hc_pledge (show 0 ≤ i_a2 ∧ i_a2 ≤ 399 by omega)) (cwV 4 hts gX7_holds_X7_worth rfl rfl rfl ⟨rfl, hdX7_worth⟩ ⟨(show 1 + 1 ≤ 2 by decide), (show 8 + (7 + 11) + 24 ≤ 50 by decide)⟩) ⟨Pre0.blind, va_recv hK hPc (ci := 7) (q0 := 0) rfl rfl, Pre0.at hPc hDc hAm hSt hS hFc⟩ rfl rfl hl.1 rfl (lv_room (Nat.le_of_ble_eq_true rfl)) dX7_holds_106 ⟨(show 0 + 0 ≤ 0 by decide), (show 0 + 0 ≤ 0 by decide)⟩) (fun r_25 hw_24 => ?_)
            refine va_last hx hb hK hP hD hS 5 2 rfl rfl (vin (a := M_self_piled.toInt) rfl (by omega) (by omega)) dX7_holds_109 (fun H locs hP hD hS => ?_)
            obtain ⟨g_26, eg_26, hP, hD⟩ : ∃ g_26 : Nat → Int64, g_26 = vp_updL M_pile M_self_piled.toNatClampNeg r_25 ∧ va_P D vwCl [(A_self, .inr (7, o7 q (upd v 41 M_self_piled) w)), (q 12, .inl (c 1, 400, .inl f_from)), (q 13, .inl (c 1, 400, .inl f_to)), (q 14, .inl (c 1, 9000, .inl f_op)), (q 15, .inl (c 1, 9000, .inl f_number)), (q 40, .inl (c 2, 400, .inr (.inl g_26))), (q 31, .inl (c 1, 400, .inl f_left)), (q 28, .inl (c 1, 400, .inl f_debtor)), (q 32, .inl (c 1, 400, .inl f_made)), (q 29, .inl (c 1, 400, .inl f_kind)), (q 36, .inl (c 3, 16, .inl f_held)), (q 33, .inl (c 1, 400, .inl f_pledge))] H ∧ va_D A [(A_self, .inr (7, o7 q (upd v 41 M_self_piled) w)), (q 12, .inl (c 1, 400, .inl f_from)), (q 13, .inl (c 1, 400, .inl f_to)), (q 14, .inl (c 1, 9000, .inl f_op)), (q 15, .inl (c 1, 9000, .inl f_number)), (q 40, .inl (c 2, 400, .inr (.inl g_26))), (q 31, .inl (c 1, 400, .inl f_left)), (q 28, .inl (c 1, 400, .inl f_debtor)), (q 32, .inl (c 1, 400, .inl f_made)), (q 29, .inl (c 1, 400, .inl f_kind)), (q 36, .inl (c 3, 16, .inl f_held)), (q 33, .inl (c 1, 400, .inl f_pledge))] := ⟨_, rfl, hP, hD⟩
            refine lv_aload_n hx hb dX7_holds_110 rfl (lv_at hl 0 rfl) ?_
            refine lv_dup hx hb dX7_holds_111 rfl ?_
            refine va_get (D := D) (ci := 7) (v := .int M_self_piled) (C := RX7) (T := TX7) (N := 56) hx hb hts (fun _ h => List.mem_cons_of_mem _ (List.mem_append_right _ h)) hown hK hP 0 rfl rfl 41 (by decide) (hts (.fieldLink RX7 293 "CrownTableModel" "piled" "I") (mem_i 3 rfl)) (fun _ h9 => h9) rfl dX7_holds_112 ?_
            refine lv_iconst (v := 1) hx hb dX7_holds_115 (by decide) ?_
            refine lv_iadd hx hb dX7_holds_116 ?_
            refine lv_topi (fun x_27 ex_27 => ?_)
            have tx_27 : x_27.toInt = (M_self_piled.toInt + 1) := by rw [ex_27]; exact add_ti (a := M_self_piled.toInt) (b := 1) rfl (by decide) (by omega) (by omega)
            refine va_put (D := D) (ci := 7) (v := .int x_27) (ty := .int) (C := RX7) (T := TX7) (N := 56) hx hb hts (fun _ h => List.mem_cons_of_mem _ (List.mem_append_right _ h)) tyX7 tyX7_ok nmX7 hown hK hP hD hS 0 rfl rfl 41 (by decide) (hts (.fieldLink RX7 293 "CrownTableModel" "piled" "I") (mem_i 3 rfl)) (fun _ h9 => h9) rfl (by decide +kernel) rfl rfl (Nat.le_of_ble_eq_true rfl) dX7_holds_117 (fun H locs hP hD hS => ?_)
            have hP : va_P D vwCl [(A_self, .inr (7, o7 q (upd v 41 x_27) w)), (q 12, .inl (c 1, 400, .inl f_from)), (q 13, .inl (c 1, 400, .inl f_to)), (q 14, .inl (c 1, 9000, .inl f_op)), (q 15, .inl (c 1, 9000, .inl f_number)), (q 40, .inl (c 2, 400, .inr (.inl g_26))), (q 31, .inl (c 1, 400, .inl f_left)), (q 28, .inl (c 1, 400, .inl f_debtor)), (q 32, .inl (c 1, 400, .inl f_made)), (q 29, .inl (c 1, 400, .inl f_kind)), (q 36, .inl (c 3, 16, .inl f_held)), (q 33, .inl (c 1, 400, .inl f_pledge))] H := hP
            have hD : va_D A [(A_self, .inr (7, o7 q (upd v 41 x_27) w)), (q 12, .inl (c 1, 400, .inl f_from)), (q 13, .inl (c 1, 400, .inl f_to)), (q 14, .inl (c 1, 9000, .inl f_op)), (q 15, .inl (c 1, 9000, .inl f_number)), (q 40, .inl (c 2, 400, .inr (.inl g_26))), (q 31, .inl (c 1, 400, .inl f_left)), (q 28, .inl (c 1, 400, .inl f_debtor)), (q 32, .inl (c 1, 400, .inl f_made)), (q 29, .inl (c 1, 400, .inl f_kind)), (q 36, .inl (c 3, 16, .inl f_held)), (q 33, .inl (c 1, 400, .inl f_pledge))] := hD
            refine lv_goto (tgt := 220) hx hb dX7_holds_120 (by decide) ?_
            obtain ⟨x_28, ex_28⟩ : ∃ y : Int32, y = L7 + 1 := ⟨_, rfl⟩
            have tx_28 : x_28.toInt = L7.toInt + 1 := by rw [ex_28]; exact add_ti (a := L7.toInt) (b := 1) rfl (by decide) (by omega) (by omega)
            refine lv_iinc (v := x_28) (lv' := [(7, .int x_28), (0, .ref A_self), (1, .int a1), (2, .int a2), (3, .long a3), (5, .long a4)]) hx hb dX7_holds_220 hl (k := 5) rfl (by rw [ex_28]; rfl) (by decide) rfl (fun ls hl => ?_)
            refine lv_goto (tgt := 30) hx hb dX7_holds_223 (by decide) ?_
            have hl := lv_sub hl [1, 2, 3, 4, 5, 0] rfl
            exact (ih30 ((9000 - x_28.toInt).toNat) (by omega) x_28 x_27 g_26 (by omega) (by omega) (by omega) (by rw [show x_28.toInt = L7.toInt + 1 from tx_28, dpa]; omega) (by omega) rfl _ _ _ hP hD hS hl)
          · skip
            refine lv_aload_n hx hb dX7_holds_83 rfl (lv_at hl 0 rfl) ?_
            refine va_get (D := D) (ci := 7) (v := .ref (q 15)) (C := RX7) (T := TX7) (N := 56) hx hb hts (fun _ h => List.mem_cons_of_mem _ (List.mem_append_right _ h)) hown hK hP 0 rfl rfl 15 (by decide) (hts (.fieldLink RX7 32 "CrownTableModel" "number" "[I") (mem_i 6 rfl)) (fun _ h9 => h9) rfl dX7_holds_84 ?_
            refine lv_iload hx hb dX7_holds_87 (lv_at hl 5 rfl) ?_
            refine va_iald hx hb hK hP 4 1 rfl rfl (vin (a := L7.toInt) rfl (by omega) (by omega)) dX7_holds_89 ?_
            refine lv_topi (fun x_29 ex_29 => ?_)
            refine lv_i2l hx hb dX7_holds_90 rfl ?_
            refine lv_goto (tgt := 109) hx hb dX7_holds_91 (by decide) ?_
            refine va_last hx hb hK hP hD hS 5 2 rfl rfl (vin (a := M_self_piled.toInt) rfl (by omega) (by omega)) dX7_holds_109 (fun H locs hP hD hS => ?_)
            obtain ⟨g_30, eg_30, hP, hD⟩ : ∃ g_30 : Nat → Int64, g_30 = vp_updL M_pile M_self_piled.toNatClampNeg x_29.toInt64 ∧ va_P D vwCl [(A_self, .inr (7, o7 q (upd v 41 M_self_piled) w)), (q 12, .inl (c 1, 400, .inl f_from)), (q 13, .inl (c 1, 400, .inl f_to)), (q 14, .inl (c 1, 9000, .inl f_op)), (q 15, .inl (c 1, 9000, .inl f_number)), (q 40, .inl (c 2, 400, .inr (.inl g_30))), (q 31, .inl (c 1, 400, .inl f_left)), (q 28, .inl (c 1, 400, .inl f_debtor)), (q 32, .inl (c 1, 400, .inl f_made)), (q 29, .inl (c 1, 400, .inl f_kind)), (q 36, .inl (c 3, 16, .inl f_held)), (q 33, .inl (c 1, 400, .inl f_pledge))] H ∧ va_D A [(A_self, .inr (7, o7 q (upd v 41 M_self_piled) w)), (q 12, .inl (c 1, 400, .inl f_from)), (q 13, .inl (c 1, 400, .inl f_to)), (q 14, .inl (c 1, 9000, .inl f_op)), (q 15, .inl (c 1, 9000, .inl f_number)), (q 40, .inl (c 2, 400, .inr (.inl g_30))), (q 31, .inl (c 1, 400, .inl f_left)), (q 28, .inl (c 1, 400, .inl f_debtor)), (q 32, .inl (c 1, 400, .inl f_made)), (q 29, .inl (c 1, 400, .inl f_kind)), (q 36, .inl (c 3, 16, .inl f_held)), (q 33, .inl (c 1, 400, .inl f_pledge))] := ⟨_, rfl, hP, hD⟩
            refine lv_aload_n hx hb dX7_holds_110 rfl (lv_at hl 0 rfl) ?_
            refine lv_dup hx hb dX7_holds_111 rfl ?_
            refine va_get (D := D) (ci := 7) (v := .int M_self_piled) (C := RX7) (T := TX7) (N := 56) hx hb hts (fun _ h => List.mem_cons_of_mem _ (List.mem_append_right _ h)) hown hK hP 0 rfl rfl 41 (by decide) (hts (.fieldLink RX7 293 "CrownTableModel" "piled" "I") (mem_i 3 rfl)) (fun _ h9 => h9) rfl dX7_holds_112 ?_
            refine lv_iconst (v := 1) hx hb dX7_holds_115 (by decide) ?_
            refine lv_iadd hx hb dX7_holds_116 ?_
            refine lv_topi (fun x_31 ex_31 => ?_)
            have tx_31 : x_31.toInt = (M_self_piled.toInt + 1) := by rw [ex_31]; exact add_ti (a := M_self_piled.toInt) (b := 1) rfl (by decide) (by omega) (by omega)
            refine va_put (D := D) (ci := 7) (v := .int x_31) (ty := .int) (C := RX7) (T := TX7) (N := 56) hx hb hts (fun _ h => List.mem_cons_of_mem _ (List.mem_append_right _ h)) tyX7 tyX7_ok nmX7 hown hK hP hD hS 0 rfl rfl 41 (by decide) (hts (.fieldLink RX7 293 "CrownTableModel" "piled" "I") (mem_i 3 rfl)) (fun _ h9 => h9) rfl (by decide +kernel) rfl rfl (Nat.le_of_ble_eq_true rfl) dX7_holds_117 (fun H locs hP hD hS => ?_)
            have hP : va_P D vwCl [(A_self, .inr (7, o7 q (upd v 41 x_31) w)), (q 12, .inl (c 1, 400, .inl f_from)), (q 13, .inl (c 1, 400, .inl f_to)), (q 14, .inl (c 1, 9000, .inl f_op)), (q 15, .inl (c 1, 9000, .inl f_number)), (q 40, .inl (c 2, 400, .inr (.inl g_30))), (q 31, .inl (c 1, 400, .inl f_left)), (q 28, .inl (c 1, 400, .inl f_debtor)), (q 32, .inl (c 1, 400, .inl f_made)), (q 29, .inl (c 1, 400, .inl f_kind)), (q 36, .inl (c 3, 16, .inl f_held)), (q 33, .inl (c 1, 400, .inl f_pledge))] H := hP
            have hD : va_D A [(A_self, .inr (7, o7 q (upd v 41 x_31) w)), (q 12, .inl (c 1, 400, .inl f_from)), (q 13, .inl (c 1, 400, .inl f_to)), (q 14, .inl (c 1, 9000, .inl f_op)), (q 15, .inl (c 1, 9000, .inl f_number)), (q 40, .inl (c 2, 400, .inr (.inl g_30))), (q 31, .inl (c 1, 400, .inl f_left)), (q 28, .inl (c 1, 400, .inl f_debtor)), (q 32, .inl (c 1, 400, .inl f_made)), (q 29, .inl (c 1, 400, .inl f_kind)), (q 36, .inl (c 3, 16, .inl f_held)), (q 33, .inl (c 1, 400, .inl f_pledge))] := hD
            refine lv_goto (tgt := 220) hx hb dX7_holds_120 (by decide) ?_
            obtain ⟨x_32, ex_32⟩ : ∃ y : Int32, y = L7 + 1 := ⟨_, rfl⟩
            have tx_32 : x_32.toInt = L7.toInt + 1 := by rw [ex_32]; exact add_ti (a := L7.toInt) (b := 1) rfl (by decide) (by omega) (by omega)
            refine lv_iinc (v := x_32) (lv' := [(7, .int x_32), (0, .ref A_self), (1, .int a1), (2, .int a2), (3, .long a3), (5, .long a4)]) hx hb dX7_holds_220 hl (k := 5) rfl (by rw [ex_32]; rfl) (by decide) rfl (fun ls hl => ?_)
            refine lv_goto (tgt := 30) hx hb dX7_holds_223 (by decide) ?_
            have hl := lv_sub hl [1, 2, 3, 4, 5, 0] rfl
            exact (ih30 ((9000 - x_32.toInt).toNat) (by omega) x_32 x_31 g_30 (by omega) (by omega) (by omega) (by rw [show x_32.toInt = L7.toInt + 1 from tx_32, dpa]; omega) (by omega) rfl _ _ _ hP hD hS hl)
        · skip
          refine lv_aload_n hx hb dX7_holds_52 rfl (lv_at hl 0 rfl) ?_
          refine va_get (D := D) (ci := 7) (v := .ref (q 14)) (C := RX7) (T := TX7) (N := 56) hx hb hts (fun _ h => List.mem_cons_of_mem _ (List.mem_append_right _ h)) hown hK hP 0 rfl rfl 14 (by decide) (hts (.fieldLink RX7 29 "CrownTableModel" "op" "[I") (mem_i 4 rfl)) (fun _ h9 => h9) rfl dX7_holds_53 ?_
          refine lv_iload hx hb dX7_holds_56 (lv_at hl 5 rfl) ?_
          refine va_iald hx hb hK hP 3 1 rfl rfl (vin (a := L7.toInt) rfl (by omega) (by omega)) dX7_holds_58 ?_
          refine lv_topi (fun x_33 ex_33 => ?_)
          have lf_34 : (f_op L7.toInt.toNat).toInt = x_33.toInt := by rw [ex_33, clampN (x := L7) rfl]
          refine lv_bipush (v := 111) hx hb dX7_holds_59 (by decide) ?_
          refine iicmp_lt (a := x_33.toInt) (b := 111) (tgt := 123) hx hb rfl (by decide) dX7_holds_61 (by decide) (fun k_35 => ?_) (fun k_35 => ?_)
          · skip
            refine lv_aload_n hx hb dX7_holds_123 rfl (lv_at hl 0 rfl) ?_
            refine va_get (D := D) (ci := 7) (v := .ref (q 14)) (C := RX7) (T := TX7) (N := 56) hx hb hts (fun _ h => List.mem_cons_of_mem _ (List.mem_append_right _ h)) hown hK hP 0 rfl rfl 14 (by decide) (hts (.fieldLink RX7 29 "CrownTableModel" "op" "[I") (mem_i 4 rfl)) (fun _ h9 => h9) rfl dX7_holds_124 ?_
            refine lv_iload hx hb dX7_holds_127 (lv_at hl 5 rfl) ?_
            refine va_iald hx hb hK hP 3 1 rfl rfl (vin (a := L7.toInt) rfl (by omega) (by omega)) dX7_holds_129 ?_
            refine lv_topi (fun x_36 ex_36 => ?_)
            have lf_37 : (f_op L7.toInt.toNat).toInt = x_36.toInt := by rw [ex_36, clampN (x := L7) rfl]
            refine lv_iconst (v := 2) hx hb dX7_holds_130 (by decide) ?_
            refine iicmp_ne (a := x_36.toInt) (b := 2) (tgt := 169) hx hb rfl (by decide) dX7_holds_131 (by decide) (fun k_38 => ?_) (fun k_38 => ?_)
            · skip
              refine lv_aload_n hx hb dX7_holds_169 rfl (lv_at hl 0 rfl) ?_
              refine lv_dup hx hb dX7_holds_170 rfl ?_
              refine va_get (D := D) (ci := 7) (v := .int M_self_piled) (C := RX7) (T := TX7) (N := 56) hx hb hts (fun _ h => List.mem_cons_of_mem _ (List.mem_append_right _ h)) hown hK hP 0 rfl rfl 41 (by decide) (hts (.fieldLink RX7 293 "CrownTableModel" "piled" "I") (mem_i 3 rfl)) (fun _ h9 => h9) rfl dX7_holds_171 ?_
              refine lv_iconst (v := 1) hx hb dX7_holds_174 (by decide) ?_
              refine lv_isub hx hb dX7_holds_175 ?_
              refine lv_topi (fun x_39 ex_39 => ?_)
              have tx_39 : x_39.toInt = (M_self_piled.toInt - 1) := by rw [ex_39]; exact sub_ti (a := M_self_piled.toInt) (b := 1) rfl (by decide) (by omega) (by omega)
              refine va_put (D := D) (ci := 7) (v := .int x_39) (ty := .int) (C := RX7) (T := TX7) (N := 56) hx hb hts (fun _ h => List.mem_cons_of_mem _ (List.mem_append_right _ h)) tyX7 tyX7_ok nmX7 hown hK hP hD hS 0 rfl rfl 41 (by decide) (hts (.fieldLink RX7 293 "CrownTableModel" "piled" "I") (mem_i 3 rfl)) (fun _ h9 => h9) rfl (by decide +kernel) rfl rfl (Nat.le_of_ble_eq_true rfl) dX7_holds_176 (fun H locs hP hD hS => ?_)
              have hP : va_P D vwCl [(A_self, .inr (7, o7 q (upd v 41 x_39) w)), (q 12, .inl (c 1, 400, .inl f_from)), (q 13, .inl (c 1, 400, .inl f_to)), (q 14, .inl (c 1, 9000, .inl f_op)), (q 15, .inl (c 1, 9000, .inl f_number)), (q 40, .inl (c 2, 400, .inr (.inl M_pile))), (q 31, .inl (c 1, 400, .inl f_left)), (q 28, .inl (c 1, 400, .inl f_debtor)), (q 32, .inl (c 1, 400, .inl f_made)), (q 29, .inl (c 1, 400, .inl f_kind)), (q 36, .inl (c 3, 16, .inl f_held)), (q 33, .inl (c 1, 400, .inl f_pledge))] H := hP
              have hD : va_D A [(A_self, .inr (7, o7 q (upd v 41 x_39) w)), (q 12, .inl (c 1, 400, .inl f_from)), (q 13, .inl (c 1, 400, .inl f_to)), (q 14, .inl (c 1, 9000, .inl f_op)), (q 15, .inl (c 1, 9000, .inl f_number)), (q 40, .inl (c 2, 400, .inr (.inl M_pile))), (q 31, .inl (c 1, 400, .inl f_left)), (q 28, .inl (c 1, 400, .inl f_debtor)), (q 32, .inl (c 1, 400, .inl f_made)), (q 29, .inl (c 1, 400, .inl f_kind)), (q 36, .inl (c 3, 16, .inl f_held)), (q 33, .inl (c 1, 400, .inl f_pledge))] := hD
              refine lv_aload_n hx hb dX7_holds_179 rfl (lv_at hl 0 rfl) ?_
              refine va_get (D := D) (ci := 7) (v := .ref (q 40)) (C := RX7) (T := TX7) (N := 56) hx hb hts (fun _ h => List.mem_cons_of_mem _ (List.mem_append_right _ h)) hown hK hP 0 rfl rfl 40 (by decide) (hts (.fieldLink RX7 82 "CrownTableModel" "pile" "[J") (mem_i 5 rfl)) (fun _ h9 => h9) rfl dX7_holds_180 ?_
              refine lv_aload_n hx hb dX7_holds_183 rfl (lv_at hl 0 rfl) ?_
              refine va_get (D := D) (ci := 7) (v := .int x_39) (C := RX7) (T := TX7) (N := 56) hx hb hts (fun _ h => List.mem_cons_of_mem _ (List.mem_append_right _ h)) hown hK hP 0 rfl rfl 41 (by decide) (hts (.fieldLink RX7 293 "CrownTableModel" "piled" "I") (mem_i 3 rfl)) (fun _ h9 => h9) rfl dX7_holds_184 ?_
              refine lv_iconst (v := 1) hx hb dX7_holds_187 (by decide) ?_
              refine lv_isub hx hb dX7_holds_188 ?_
              refine lv_topi (fun x_40 ex_40 => ?_)
              have tx_40 : x_40.toInt = ((M_self_piled.toInt - 1) - 1) := by rw [ex_40]; exact sub_ti (a := (M_self_piled.toInt - 1)) (b := 1) tx_39 (by decide) (by omega) (by omega)
              refine lv_aload_n hx hb dX7_holds_189 rfl (lv_at hl 0 rfl) ?_
              refine va_get (D := D) (ci := 7) (v := .ref (q 14)) (C := RX7) (T := TX7) (N := 56) hx hb hts (fun _ h => List.mem_cons_of_mem _ (List.mem_append_right _ h)) hown hK hP 0 rfl rfl 14 (by decide) (hts (.fieldLink RX7 29 "CrownTableModel" "op" "[I") (mem_i 4 rfl)) (fun _ h9 => h9) rfl dX7_holds_190 ?_
              refine lv_iload hx hb dX7_holds_193 (lv_at hl 5 rfl) ?_
              refine va_iald hx hb hK hP 3 1 rfl rfl (vin (a := L7.toInt) rfl (by omega) (by omega)) dX7_holds_195 ?_
              refine lv_topi (fun x_41 ex_41 => ?_)
              have lf_42 : (f_op L7.toInt.toNat).toInt = x_41.toInt := by rw [ex_41, clampN (x := L7) rfl]
              refine lv_aload_n hx hb dX7_holds_196 rfl (lv_at hl 0 rfl) ?_
              refine va_get (D := D) (ci := 7) (v := .ref (q 40)) (C := RX7) (T := TX7) (N := 56) hx hb hts (fun _ h => List.mem_cons_of_mem _ (List.mem_append_right _ h)) hown hK hP 0 rfl rfl 40 (by decide) (hts (.fieldLink RX7 82 "CrownTableModel" "pile" "[J") (mem_i 5 rfl)) (fun _ h9 => h9) rfl dX7_holds_197 ?_
              refine lv_aload_n hx hb dX7_holds_200 rfl (lv_at hl 0 rfl) ?_
              refine va_get (D := D) (ci := 7) (v := .int x_39) (C := RX7) (T := TX7) (N := 56) hx hb hts (fun _ h => List.mem_cons_of_mem _ (List.mem_append_right _ h)) hown hK hP 0 rfl rfl 41 (by decide) (hts (.fieldLink RX7 293 "CrownTableModel" "piled" "I") (mem_i 3 rfl)) (fun _ h9 => h9) rfl dX7_holds_201 ?_
              refine lv_iconst (v := 1) hx hb dX7_holds_204 (by decide) ?_
              refine lv_isub hx hb dX7_holds_205 ?_
              refine lv_topi (fun x_43 ex_43 => ?_)
              have tx_43 : x_43.toInt = ((M_self_piled.toInt - 1) - 1) := by rw [ex_43]; exact sub_ti (a := (M_self_piled.toInt - 1)) (b := 1) tx_39 (by decide) (by omega) (by omega)
              refine va_lald hx hb hK hP 5 2 rfl rfl (vin (a := ((M_self_piled.toInt - 1) - 1)) tx_43 (by omega) (by omega)) dX7_holds_206 ?_
              refine lv_topl (fun x_44 ex_44 => ?_)
              refine lv_aload_n hx hb dX7_holds_207 rfl (lv_at hl 0 rfl) ?_
              refine va_get (D := D) (ci := 7) (v := .ref (q 40)) (C := RX7) (T := TX7) (N := 56) hx hb hts (fun _ h => List.mem_cons_of_mem _ (List.mem_append_right _ h)) hown hK hP 0 rfl rfl 40 (by decide) (hts (.fieldLink RX7 82 "CrownTableModel" "pile" "[J") (mem_i 5 rfl)) (fun _ h9 => h9) rfl dX7_holds_208 ?_
              refine lv_aload_n hx hb dX7_holds_211 rfl (lv_at hl 0 rfl) ?_
              refine va_get (D := D) (ci := 7) (v := .int x_39) (C := RX7) (T := TX7) (N := 56) hx hb hts (fun _ h => List.mem_cons_of_mem _ (List.mem_append_right _ h)) hown hK hP 0 rfl rfl 41 (by decide) (hts (.fieldLink RX7 293 "CrownTableModel" "piled" "I") (mem_i 3 rfl)) (fun _ h9 => h9) rfl dX7_holds_212 ?_
              refine va_lald hx hb hK hP 5 2 rfl rfl (vin (a := (M_self_piled.toInt - 1)) tx_39 (by omega) (by omega)) dX7_holds_215 ?_
              refine lv_topl (fun x_45 ex_45 => ?_)
              have hPc := hP.sub (ws' := []) [] rfl
              have hDc := hD.sub (ws' := []) [] (by decide) rfl
              have hFc := va_free (wc := []) hD hS hA [] rfl
              refine va_csl (va_runS (As := [.int x_41, .long x_44, .long x_45]) (rest := [.int x_40, .ref (q 40)]) ⟨hx, hb, hml, hown, hts⟩ (k_X7_both l D c ts H.size x_41 x_41.toInt rfl x_44 x_45) (cwS 3 hts gX7_holds_X7_both rfl rfl rfl ⟨rfl, hdX7_both⟩ ⟨(show 0 + 1 ≤ 2 by decide), (show 8 + (5 + 11) + 0 ≤ 50 by decide)⟩) ⟨Pre0.blind, Pre0.at hPc hDc hAm hSt hS hFc⟩ rfl rfl hl.1 rfl (lv_room (Nat.le_of_ble_eq_true rfl)) dX7_holds_216 ⟨(show 0 + 0 ≤ 0 by decide), (show 0 + 0 ≤ 0 by decide)⟩) (fun r_47 hw_46 => ?_)
              refine va_last hx hb hK hP hD hS 5 2 rfl rfl (vin (a := ((M_self_piled.toInt - 1) - 1)) tx_40 (by omega) (by omega)) dX7_holds_219 (fun H locs hP hD hS => ?_)
              obtain ⟨g_48, eg_48, hP, hD⟩ : ∃ g_48 : Nat → Int64, g_48 = vp_updL M_pile x_40.toNatClampNeg r_47 ∧ va_P D vwCl [(A_self, .inr (7, o7 q (upd v 41 x_39) w)), (q 12, .inl (c 1, 400, .inl f_from)), (q 13, .inl (c 1, 400, .inl f_to)), (q 14, .inl (c 1, 9000, .inl f_op)), (q 15, .inl (c 1, 9000, .inl f_number)), (q 40, .inl (c 2, 400, .inr (.inl g_48))), (q 31, .inl (c 1, 400, .inl f_left)), (q 28, .inl (c 1, 400, .inl f_debtor)), (q 32, .inl (c 1, 400, .inl f_made)), (q 29, .inl (c 1, 400, .inl f_kind)), (q 36, .inl (c 3, 16, .inl f_held)), (q 33, .inl (c 1, 400, .inl f_pledge))] H ∧ va_D A [(A_self, .inr (7, o7 q (upd v 41 x_39) w)), (q 12, .inl (c 1, 400, .inl f_from)), (q 13, .inl (c 1, 400, .inl f_to)), (q 14, .inl (c 1, 9000, .inl f_op)), (q 15, .inl (c 1, 9000, .inl f_number)), (q 40, .inl (c 2, 400, .inr (.inl g_48))), (q 31, .inl (c 1, 400, .inl f_left)), (q 28, .inl (c 1, 400, .inl f_debtor)), (q 32, .inl (c 1, 400, .inl f_made)), (q 29, .inl (c 1, 400, .inl f_kind)), (q 36, .inl (c 3, 16, .inl f_held)), (q 33, .inl (c 1, 400, .inl f_pledge))] := ⟨_, rfl, hP, hD⟩
              obtain ⟨x_49, ex_49⟩ : ∃ y : Int32, y = L7 + 1 := ⟨_, rfl⟩
              have tx_49 : x_49.toInt = L7.toInt + 1 := by rw [ex_49]; exact add_ti (a := L7.toInt) (b := 1) rfl (by decide) (by omega) (by omega)
              refine lv_iinc (v := x_49) (lv' := [(7, .int x_49), (0, .ref A_self), (1, .int a1), (2, .int a2), (3, .long a3), (5, .long a4)]) hx hb dX7_holds_220 hl (k := 5) rfl (by rw [ex_49]; rfl) (by decide) rfl (fun ls hl => ?_)
              refine lv_goto (tgt := 30) hx hb dX7_holds_223 (by decide) ?_
              have hl := lv_sub hl [1, 2, 3, 4, 5, 0] rfl
              exact (ih30 ((9000 - x_49.toInt).toNat) (by omega) x_49 x_39 g_48 (by omega) (by omega) (by omega) (by rw [show x_49.toInt = L7.toInt + 1 from tx_49, dpa]; omega) (by omega) rfl _ _ _ hP hD hS hl)
            · skip
              refine lv_aload_n hx hb dX7_holds_134 rfl (lv_at hl 0 rfl) ?_
              refine va_get (D := D) (ci := 7) (v := .ref (q 40)) (C := RX7) (T := TX7) (N := 56) hx hb hts (fun _ h => List.mem_cons_of_mem _ (List.mem_append_right _ h)) hown hK hP 0 rfl rfl 40 (by decide) (hts (.fieldLink RX7 82 "CrownTableModel" "pile" "[J") (mem_i 5 rfl)) (fun _ h9 => h9) rfl dX7_holds_135 ?_
              refine lv_aload_n hx hb dX7_holds_138 rfl (lv_at hl 0 rfl) ?_
              refine va_get (D := D) (ci := 7) (v := .int M_self_piled) (C := RX7) (T := TX7) (N := 56) hx hb hts (fun _ h => List.mem_cons_of_mem _ (List.mem_append_right _ h)) hown hK hP 0 rfl rfl 41 (by decide) (hts (.fieldLink RX7 293 "CrownTableModel" "piled" "I") (mem_i 3 rfl)) (fun _ h9 => h9) rfl dX7_holds_139 ?_
              refine lv_iconst (v := 1) hx hb dX7_holds_142 (by decide) ?_
              refine lv_isub hx hb dX7_holds_143 ?_
              refine lv_topi (fun x_50 ex_50 => ?_)
              have tx_50 : x_50.toInt = (M_self_piled.toInt - 1) := by rw [ex_50]; exact sub_ti (a := M_self_piled.toInt) (b := 1) rfl (by decide) (by omega) (by omega)
              refine lv_aload_n hx hb dX7_holds_144 rfl (lv_at hl 0 rfl) ?_
              refine va_get (D := D) (ci := 7) (v := .ref (q 40)) (C := RX7) (T := TX7) (N := 56) hx hb hts (fun _ h => List.mem_cons_of_mem _ (List.mem_append_right _ h)) hown hK hP 0 rfl rfl 40 (by decide) (hts (.fieldLink RX7 82 "CrownTableModel" "pile" "[J") (mem_i 5 rfl)) (fun _ h9 => h9) rfl dX7_holds_145 ?_
              refine lv_aload_n hx hb dX7_holds_148 rfl (lv_at hl 0 rfl) ?_
              refine va_get (D := D) (ci := 7) (v := .int M_self_piled) (C := RX7) (T := TX7) (N := 56) hx hb hts (fun _ h => List.mem_cons_of_mem _ (List.mem_append_right _ h)) hown hK hP 0 rfl rfl 41 (by decide) (hts (.fieldLink RX7 293 "CrownTableModel" "piled" "I") (mem_i 3 rfl)) (fun _ h9 => h9) rfl dX7_holds_149 ?_
              refine lv_iconst (v := 1) hx hb dX7_holds_152 (by decide) ?_
              refine lv_isub hx hb dX7_holds_153 ?_
              refine lv_topi (fun x_51 ex_51 => ?_)
              have tx_51 : x_51.toInt = (M_self_piled.toInt - 1) := by rw [ex_51]; exact sub_ti (a := M_self_piled.toInt) (b := 1) rfl (by decide) (by omega) (by omega)
              refine va_lald hx hb hK hP 5 2 rfl rfl (vin (a := (M_self_piled.toInt - 1)) tx_51 (by omega) (by omega)) dX7_holds_154 ?_
              refine lv_topl (fun x_52 ex_52 => ?_)
              refine lv_lconst (v := 0) hx hb dX7_holds_155 (by decide) ?_
              refine W.lcmp hx hb dX7_holds_156 ?_
              refine lv_topi (fun x_53 ex_53 => ?_)
              have tx_53 := lcg_fact (n := x_53) ex_53 (show (x_52 : Int64).toInt = x_52.toInt from rfl) (show (0 : Int64).toInt = 0 from (by decide))
              refine iif_ne (a := x_53.toInt) (tgt := 164) hx hb rfl dX7_holds_157 (by decide) (fun k_54 => ?_) (fun k_54 => ?_)
              · skip
                refine lv_lconst (v := 0) hx hb dX7_holds_164 (by decide) ?_
                refine va_last hx hb hK hP hD hS 5 2 rfl rfl (vin (a := (M_self_piled.toInt - 1)) tx_50 (by omega) (by omega)) dX7_holds_165 (fun H locs hP hD hS => ?_)
                obtain ⟨g_55, eg_55, hP, hD⟩ : ∃ g_55 : Nat → Int64, g_55 = vp_updL M_pile x_50.toNatClampNeg 0 ∧ va_P D vwCl [(A_self, .inr (7, o7 q (upd v 41 M_self_piled) w)), (q 12, .inl (c 1, 400, .inl f_from)), (q 13, .inl (c 1, 400, .inl f_to)), (q 14, .inl (c 1, 9000, .inl f_op)), (q 15, .inl (c 1, 9000, .inl f_number)), (q 40, .inl (c 2, 400, .inr (.inl g_55))), (q 31, .inl (c 1, 400, .inl f_left)), (q 28, .inl (c 1, 400, .inl f_debtor)), (q 32, .inl (c 1, 400, .inl f_made)), (q 29, .inl (c 1, 400, .inl f_kind)), (q 36, .inl (c 3, 16, .inl f_held)), (q 33, .inl (c 1, 400, .inl f_pledge))] H ∧ va_D A [(A_self, .inr (7, o7 q (upd v 41 M_self_piled) w)), (q 12, .inl (c 1, 400, .inl f_from)), (q 13, .inl (c 1, 400, .inl f_to)), (q 14, .inl (c 1, 9000, .inl f_op)), (q 15, .inl (c 1, 9000, .inl f_number)), (q 40, .inl (c 2, 400, .inr (.inl g_55))), (q 31, .inl (c 1, 400, .inl f_left)), (q 28, .inl (c 1, 400, .inl f_debtor)), (q 32, .inl (c 1, 400, .inl f_made)), (q 29, .inl (c 1, 400, .inl f_kind)), (q 36, .inl (c 3, 16, .inl f_held)), (q 33, .inl (c 1, 400, .inl f_pledge))] := ⟨_, rfl, hP, hD⟩
                refine lv_goto (tgt := 220) hx hb dX7_holds_166 (by decide) ?_
                obtain ⟨x_56, ex_56⟩ : ∃ y : Int32, y = L7 + 1 := ⟨_, rfl⟩
                have tx_56 : x_56.toInt = L7.toInt + 1 := by rw [ex_56]; exact add_ti (a := L7.toInt) (b := 1) rfl (by decide) (by omega) (by omega)
                refine lv_iinc (v := x_56) (lv' := [(7, .int x_56), (0, .ref A_self), (1, .int a1), (2, .int a2), (3, .long a3), (5, .long a4)]) hx hb dX7_holds_220 hl (k := 5) rfl (by rw [ex_56]; rfl) (by decide) rfl (fun ls hl => ?_)
                refine lv_goto (tgt := 30) hx hb dX7_holds_223 (by decide) ?_
                have hl := lv_sub hl [1, 2, 3, 4, 5, 0] rfl
                exact (ih30 ((9000 - x_56.toInt).toNat) (by omega) x_56 M_self_piled g_55 (by omega) (by omega) (by omega) (by rw [show x_56.toInt = L7.toInt + 1 from tx_56, dpa]; omega) (by omega) rfl _ _ _ hP hD hS hl)
              · skip
                refine lv_lconst (v := 1) hx hb dX7_holds_160 (by decide) ?_
                refine lv_goto (tgt := 165) hx hb dX7_holds_161 (by decide) ?_
                refine va_last hx hb hK hP hD hS 5 2 rfl rfl (vin (a := (M_self_piled.toInt - 1)) tx_50 (by omega) (by omega)) dX7_holds_165 (fun H locs hP hD hS => ?_)
                obtain ⟨g_57, eg_57, hP, hD⟩ : ∃ g_57 : Nat → Int64, g_57 = vp_updL M_pile x_50.toNatClampNeg 1 ∧ va_P D vwCl [(A_self, .inr (7, o7 q (upd v 41 M_self_piled) w)), (q 12, .inl (c 1, 400, .inl f_from)), (q 13, .inl (c 1, 400, .inl f_to)), (q 14, .inl (c 1, 9000, .inl f_op)), (q 15, .inl (c 1, 9000, .inl f_number)), (q 40, .inl (c 2, 400, .inr (.inl g_57))), (q 31, .inl (c 1, 400, .inl f_left)), (q 28, .inl (c 1, 400, .inl f_debtor)), (q 32, .inl (c 1, 400, .inl f_made)), (q 29, .inl (c 1, 400, .inl f_kind)), (q 36, .inl (c 3, 16, .inl f_held)), (q 33, .inl (c 1, 400, .inl f_pledge))] H ∧ va_D A [(A_self, .inr (7, o7 q (upd v 41 M_self_piled) w)), (q 12, .inl (c 1, 400, .inl f_from)), (q 13, .inl (c 1, 400, .inl f_to)), (q 14, .inl (c 1, 9000, .inl f_op)), (q 15, .inl (c 1, 9000, .inl f_number)), (q 40, .inl (c 2, 400, .inr (.inl g_57))), (q 31, .inl (c 1, 400, .inl f_left)), (q 28, .inl (c 1, 400, .inl f_debtor)), (q 32, .inl (c 1, 400, .inl f_made)), (q 29, .inl (c 1, 400, .inl f_kind)), (q 36, .inl (c 3, 16, .inl f_held)), (q 33, .inl (c 1, 400, .inl f_pledge))] := ⟨_, rfl, hP, hD⟩
                refine lv_goto (tgt := 220) hx hb dX7_holds_166 (by decide) ?_
                obtain ⟨x_58, ex_58⟩ : ∃ y : Int32, y = L7 + 1 := ⟨_, rfl⟩
                have tx_58 : x_58.toInt = L7.toInt + 1 := by rw [ex_58]; exact add_ti (a := L7.toInt) (b := 1) rfl (by decide) (by omega) (by omega)
                refine lv_iinc (v := x_58) (lv' := [(7, .int x_58), (0, .ref A_self), (1, .int a1), (2, .int a2), (3, .long a3), (5, .long a4)]) hx hb dX7_holds_220 hl (k := 5) rfl (by rw [ex_58]; rfl) (by decide) rfl (fun ls hl => ?_)
                refine lv_goto (tgt := 30) hx hb dX7_holds_223 (by decide) ?_
                have hl := lv_sub hl [1, 2, 3, 4, 5, 0] rfl
                exact (ih30 ((9000 - x_58.toInt).toNat) (by omega) x_58 M_self_piled g_57 (by omega) (by omega) (by omega) (by rw [show x_58.toInt = L7.toInt + 1 from tx_58, dpa]; omega) (by omega) rfl _ _ _ hP hD hS hl)
          · skip
            refine lv_aload_n hx hb dX7_holds_64 rfl (lv_at hl 0 rfl) ?_
            refine va_get (D := D) (ci := 7) (v := .ref (q 40)) (C := RX7) (T := TX7) (N := 56) hx hb hts (fun _ h => List.mem_cons_of_mem _ (List.mem_append_right _ h)) hown hK hP 0 rfl rfl 40 (by decide) (hts (.fieldLink RX7 82 "CrownTableModel" "pile" "[J") (mem_i 5 rfl)) (fun _ h9 => h9) rfl dX7_holds_65 ?_
            refine lv_aload_n hx hb dX7_holds_68 rfl (lv_at hl 0 rfl) ?_
            refine va_get (D := D) (ci := 7) (v := .int M_self_piled) (C := RX7) (T := TX7) (N := 56) hx hb hts (fun _ h => List.mem_cons_of_mem _ (List.mem_append_right _ h)) hown hK hP 0 rfl rfl 41 (by decide) (hts (.fieldLink RX7 293 "CrownTableModel" "piled" "I") (mem_i 3 rfl)) (fun _ h9 => h9) rfl dX7_holds_69 ?_
            refine lv_aload_n hx hb dX7_holds_72 rfl (lv_at hl 0 rfl) ?_
            refine va_get (D := D) (ci := 7) (v := .ref (q 14)) (C := RX7) (T := TX7) (N := 56) hx hb hts (fun _ h => List.mem_cons_of_mem _ (List.mem_append_right _ h)) hown hK hP 0 rfl rfl 14 (by decide) (hts (.fieldLink RX7 29 "CrownTableModel" "op" "[I") (mem_i 4 rfl)) (fun _ h9 => h9) rfl dX7_holds_73 ?_
            refine lv_iload hx hb dX7_holds_76 (lv_at hl 5 rfl) ?_
            refine va_iald hx hb hK hP 3 1 rfl rfl (vin (a := L7.toInt) rfl (by omega) (by omega)) dX7_holds_78 ?_
            refine lv_topi (fun x_59 ex_59 => ?_)
            have lf_60 : (f_op L7.toInt.toNat).toInt = x_59.toInt := by rw [ex_59, clampN (x := L7) rfl]
            refine lv_iconst (v := 1) hx hb dX7_holds_79 (by decide) ?_
            refine iicmp_ne (a := x_59.toInt) (b := 1) (tgt := 94) hx hb rfl (by decide) dX7_holds_80 (by decide) (fun k_61 => ?_) (fun k_61 => ?_)
            · skip
              refine lv_aload_n hx hb dX7_holds_94 rfl (lv_at hl 0 rfl) ?_
              refine lv_aload_n hx hb dX7_holds_95 rfl (lv_at hl 0 rfl) ?_
              refine va_get (D := D) (ci := 7) (v := .ref (q 14)) (C := RX7) (T := TX7) (N := 56) hx hb hts (fun _ h => List.mem_cons_of_mem _ (List.mem_append_right _ h)) hown hK hP 0 rfl rfl 14 (by decide) (hts (.fieldLink RX7 29 "CrownTableModel" "op" "[I") (mem_i 4 rfl)) (fun _ h9 => h9) rfl dX7_holds_96 ?_
              refine lv_iload hx hb dX7_holds_99 (lv_at hl 5 rfl) ?_
              refine va_iald hx hb hK hP 3 1 rfl rfl (vin (a := L7.toInt) rfl (by omega) (by omega)) dX7_holds_101 ?_
              refine lv_topi (fun x_62 ex_62 => ?_)
              have lf_63 : (f_op L7.toInt.toNat).toInt = x_62.toInt := by rw [ex_62, clampN (x := L7) rfl]
              refine lv_iload_n hx hb dX7_holds_102 rfl (lv_at hl 2 rfl) ?_
              refine lv_lload_n hx hb dX7_holds_103 rfl (lv_at hl 3 rfl) ?_
              refine lv_lload hx hb dX7_holds_104 (lv_at hl 4 rfl) ?_
              have hPc := hP.sub (ws' := [(A_self, .inr (7, o7 q (upd v 41 M_self_piled) w)), (q 31, .inl (c 1, 400, .inl f_left)), (q 28, .inl (c 1, 400, .inl f_debtor)), (q 32, .inl (c 1, 400, .inl f_made)), (q 29, .inl (c 1, 400, .inl f_kind)), (q 36, .inl (c 3, 16, .inl f_held)), (q 33, .inl (c 1, 400, .inl f_pledge))]) [0, 6, 7, 8, 9, 10, 11] rfl
              have hDc := hD.sub (ws' := [(A_self, .inr (7, o7 q (upd v 41 M_self_piled) w)), (q 31, .inl (c 1, 400, .inl f_left)), (q 28, .inl (c 1, 400, .inl f_debtor)), (q 32, .inl (c 1, 400, .inl f_made)), (q 29, .inl (c 1, 400, .inl f_kind)), (q 36, .inl (c 3, 16, .inl f_held)), (q 33, .inl (c 1, 400, .inl f_pledge))]) [0, 6, 7, 8, 9, 10, 11] (by decide) rfl
              have hFc := va_free (wc := [(A_self, .inr (7, o7 q (upd v 41 M_self_piled) w)), (q 31, .inl (c 1, 400, .inl f_left)), (q 28, .inl (c 1, 400, .inl f_debtor)), (q 32, .inl (c 1, 400, .inl f_made)), (q 29, .inl (c 1, 400, .inl f_kind)), (q 36, .inl (c 3, 16, .inl f_held)), (q 33, .inl (c 1, 400, .inl f_pledge))]) hD hS hA [0, 6, 7, 8, 9, 10, 11] rfl
              refine va_csl (va_runV (As := [.int x_62, .int a2, .long a3, .long a4]) (rest := [.int M_self_piled, .ref (q 40)]) ⟨hx, hb, hml, hown, hts⟩ (k_X7_worth l D c ts H.size A_self q (upd v 41 M_self_piled) w f_left f_debtor f_made f_kind f_held f_pledge x_62 x_62.toInt rfl a2 i_a2 hi_a2 a3 a4 (show 0 ≤ (v 2).toInt ∧ (v 2).toInt ≤ 800 by omega) (show 0 ≤ (v 8).toInt ∧ (v 8).toInt ≤ 10 by omega) (show 0 ≤ (v 21).toInt ∧ (v 21).toInt ≤ 40 by omega) (show 0 ≤ (v 24).toInt ∧ (v 24).toInt ≤ 1000 by omega) (show 0 ≤ (v 27).toInt ∧ (v 27).toInt ≤ 400 by omega) (show 0 ≤ (v 42).toInt ∧ (v 42).toInt ≤ 4000 by omega) (show 0 ≤ (v 52).toInt ∧ (v 52).toInt ≤ 2000 by omega) hc_debtor hc_pledge (show 0 ≤ i_a2 ∧ i_a2 ≤ 399 by omega)) (cwV 4 hts gX7_holds_X7_worth rfl rfl rfl ⟨rfl, hdX7_worth⟩ ⟨(show 1 + 1 ≤ 2 by decide), (show 8 + (7 + 11) + 24 ≤ 50 by decide)⟩) ⟨Pre0.blind, va_recv hK hPc (ci := 7) (q0 := 0) rfl rfl, Pre0.at hPc hDc hAm hSt hS hFc⟩ rfl rfl hl.1 rfl (lv_room (Nat.le_of_ble_eq_true rfl)) dX7_holds_106 ⟨(show 0 + 0 ≤ 0 by decide), (show 0 + 0 ≤ 0 by decide)⟩) (fun r_65 hw_64 => ?_)
              refine va_last hx hb hK hP hD hS 5 2 rfl rfl (vin (a := M_self_piled.toInt) rfl (by omega) (by omega)) dX7_holds_109 (fun H locs hP hD hS => ?_)
              obtain ⟨g_66, eg_66, hP, hD⟩ : ∃ g_66 : Nat → Int64, g_66 = vp_updL M_pile M_self_piled.toNatClampNeg r_65 ∧ va_P D vwCl [(A_self, .inr (7, o7 q (upd v 41 M_self_piled) w)), (q 12, .inl (c 1, 400, .inl f_from)), (q 13, .inl (c 1, 400, .inl f_to)), (q 14, .inl (c 1, 9000, .inl f_op)), (q 15, .inl (c 1, 9000, .inl f_number)), (q 40, .inl (c 2, 400, .inr (.inl g_66))), (q 31, .inl (c 1, 400, .inl f_left)), (q 28, .inl (c 1, 400, .inl f_debtor)), (q 32, .inl (c 1, 400, .inl f_made)), (q 29, .inl (c 1, 400, .inl f_kind)), (q 36, .inl (c 3, 16, .inl f_held)), (q 33, .inl (c 1, 400, .inl f_pledge))] H ∧ va_D A [(A_self, .inr (7, o7 q (upd v 41 M_self_piled) w)), (q 12, .inl (c 1, 400, .inl f_from)), (q 13, .inl (c 1, 400, .inl f_to)), (q 14, .inl (c 1, 9000, .inl f_op)), (q 15, .inl (c 1, 9000, .inl f_number)), (q 40, .inl (c 2, 400, .inr (.inl g_66))), (q 31, .inl (c 1, 400, .inl f_left)), (q 28, .inl (c 1, 400, .inl f_debtor)), (q 32, .inl (c 1, 400, .inl f_made)), (q 29, .inl (c 1, 400, .inl f_kind)), (q 36, .inl (c 3, 16, .inl f_held)), (q 33, .inl (c 1, 400, .inl f_pledge))] := ⟨_, rfl, hP, hD⟩
              refine lv_aload_n hx hb dX7_holds_110 rfl (lv_at hl 0 rfl) ?_
              refine lv_dup hx hb dX7_holds_111 rfl ?_
              refine va_get (D := D) (ci := 7) (v := .int M_self_piled) (C := RX7) (T := TX7) (N := 56) hx hb hts (fun _ h => List.mem_cons_of_mem _ (List.mem_append_right _ h)) hown hK hP 0 rfl rfl 41 (by decide) (hts (.fieldLink RX7 293 "CrownTableModel" "piled" "I") (mem_i 3 rfl)) (fun _ h9 => h9) rfl dX7_holds_112 ?_
              refine lv_iconst (v := 1) hx hb dX7_holds_115 (by decide) ?_
              refine lv_iadd hx hb dX7_holds_116 ?_
              refine lv_topi (fun x_67 ex_67 => ?_)
              have tx_67 : x_67.toInt = (M_self_piled.toInt + 1) := by rw [ex_67]; exact add_ti (a := M_self_piled.toInt) (b := 1) rfl (by decide) (by omega) (by omega)
              refine va_put (D := D) (ci := 7) (v := .int x_67) (ty := .int) (C := RX7) (T := TX7) (N := 56) hx hb hts (fun _ h => List.mem_cons_of_mem _ (List.mem_append_right _ h)) tyX7 tyX7_ok nmX7 hown hK hP hD hS 0 rfl rfl 41 (by decide) (hts (.fieldLink RX7 293 "CrownTableModel" "piled" "I") (mem_i 3 rfl)) (fun _ h9 => h9) rfl (by decide +kernel) rfl rfl (Nat.le_of_ble_eq_true rfl) dX7_holds_117 (fun H locs hP hD hS => ?_)
              have hP : va_P D vwCl [(A_self, .inr (7, o7 q (upd v 41 x_67) w)), (q 12, .inl (c 1, 400, .inl f_from)), (q 13, .inl (c 1, 400, .inl f_to)), (q 14, .inl (c 1, 9000, .inl f_op)), (q 15, .inl (c 1, 9000, .inl f_number)), (q 40, .inl (c 2, 400, .inr (.inl g_66))), (q 31, .inl (c 1, 400, .inl f_left)), (q 28, .inl (c 1, 400, .inl f_debtor)), (q 32, .inl (c 1, 400, .inl f_made)), (q 29, .inl (c 1, 400, .inl f_kind)), (q 36, .inl (c 3, 16, .inl f_held)), (q 33, .inl (c 1, 400, .inl f_pledge))] H := hP
              have hD : va_D A [(A_self, .inr (7, o7 q (upd v 41 x_67) w)), (q 12, .inl (c 1, 400, .inl f_from)), (q 13, .inl (c 1, 400, .inl f_to)), (q 14, .inl (c 1, 9000, .inl f_op)), (q 15, .inl (c 1, 9000, .inl f_number)), (q 40, .inl (c 2, 400, .inr (.inl g_66))), (q 31, .inl (c 1, 400, .inl f_left)), (q 28, .inl (c 1, 400, .inl f_debtor)), (q 32, .inl (c 1, 400, .inl f_made)), (q 29, .inl (c 1, 400, .inl f_kind)), (q 36, .inl (c 3, 16, .inl f_held)), (q 33, .inl (c 1, 400, .inl f_pledge))] := hD
              refine lv_goto (tgt := 220) hx hb dX7_holds_120 (by decide) ?_
              obtain ⟨x_68, ex_68⟩ : ∃ y : Int32, y = L7 + 1 := ⟨_, rfl⟩
              have tx_68 : x_68.toInt = L7.toInt + 1 := by rw [ex_68]; exact add_ti (a := L7.toInt) (b := 1) rfl (by decide) (by omega) (by omega)
              refine lv_iinc (v := x_68) (lv' := [(7, .int x_68), (0, .ref A_self), (1, .int a1), (2, .int a2), (3, .long a3), (5, .long a4)]) hx hb dX7_holds_220 hl (k := 5) rfl (by rw [ex_68]; rfl) (by decide) rfl (fun ls hl => ?_)
              refine lv_goto (tgt := 30) hx hb dX7_holds_223 (by decide) ?_
              have hl := lv_sub hl [1, 2, 3, 4, 5, 0] rfl
              exact (ih30 ((9000 - x_68.toInt).toNat) (by omega) x_68 x_67 g_66 (by omega) (by omega) (by omega) (by rw [show x_68.toInt = L7.toInt + 1 from tx_68, dpa]; omega) (by omega) rfl _ _ _ hP hD hS hl)
            · skip
              refine lv_aload_n hx hb dX7_holds_83 rfl (lv_at hl 0 rfl) ?_
              refine va_get (D := D) (ci := 7) (v := .ref (q 15)) (C := RX7) (T := TX7) (N := 56) hx hb hts (fun _ h => List.mem_cons_of_mem _ (List.mem_append_right _ h)) hown hK hP 0 rfl rfl 15 (by decide) (hts (.fieldLink RX7 32 "CrownTableModel" "number" "[I") (mem_i 6 rfl)) (fun _ h9 => h9) rfl dX7_holds_84 ?_
              refine lv_iload hx hb dX7_holds_87 (lv_at hl 5 rfl) ?_
              refine va_iald hx hb hK hP 4 1 rfl rfl (vin (a := L7.toInt) rfl (by omega) (by omega)) dX7_holds_89 ?_
              refine lv_topi (fun x_69 ex_69 => ?_)
              refine lv_i2l hx hb dX7_holds_90 rfl ?_
              refine lv_goto (tgt := 109) hx hb dX7_holds_91 (by decide) ?_
              refine va_last hx hb hK hP hD hS 5 2 rfl rfl (vin (a := M_self_piled.toInt) rfl (by omega) (by omega)) dX7_holds_109 (fun H locs hP hD hS => ?_)
              obtain ⟨g_70, eg_70, hP, hD⟩ : ∃ g_70 : Nat → Int64, g_70 = vp_updL M_pile M_self_piled.toNatClampNeg x_69.toInt64 ∧ va_P D vwCl [(A_self, .inr (7, o7 q (upd v 41 M_self_piled) w)), (q 12, .inl (c 1, 400, .inl f_from)), (q 13, .inl (c 1, 400, .inl f_to)), (q 14, .inl (c 1, 9000, .inl f_op)), (q 15, .inl (c 1, 9000, .inl f_number)), (q 40, .inl (c 2, 400, .inr (.inl g_70))), (q 31, .inl (c 1, 400, .inl f_left)), (q 28, .inl (c 1, 400, .inl f_debtor)), (q 32, .inl (c 1, 400, .inl f_made)), (q 29, .inl (c 1, 400, .inl f_kind)), (q 36, .inl (c 3, 16, .inl f_held)), (q 33, .inl (c 1, 400, .inl f_pledge))] H ∧ va_D A [(A_self, .inr (7, o7 q (upd v 41 M_self_piled) w)), (q 12, .inl (c 1, 400, .inl f_from)), (q 13, .inl (c 1, 400, .inl f_to)), (q 14, .inl (c 1, 9000, .inl f_op)), (q 15, .inl (c 1, 9000, .inl f_number)), (q 40, .inl (c 2, 400, .inr (.inl g_70))), (q 31, .inl (c 1, 400, .inl f_left)), (q 28, .inl (c 1, 400, .inl f_debtor)), (q 32, .inl (c 1, 400, .inl f_made)), (q 29, .inl (c 1, 400, .inl f_kind)), (q 36, .inl (c 3, 16, .inl f_held)), (q 33, .inl (c 1, 400, .inl f_pledge))] := ⟨_, rfl, hP, hD⟩
              refine lv_aload_n hx hb dX7_holds_110 rfl (lv_at hl 0 rfl) ?_
              refine lv_dup hx hb dX7_holds_111 rfl ?_
              refine va_get (D := D) (ci := 7) (v := .int M_self_piled) (C := RX7) (T := TX7) (N := 56) hx hb hts (fun _ h => List.mem_cons_of_mem _ (List.mem_append_right _ h)) hown hK hP 0 rfl rfl 41 (by decide) (hts (.fieldLink RX7 293 "CrownTableModel" "piled" "I") (mem_i 3 rfl)) (fun _ h9 => h9) rfl dX7_holds_112 ?_
              refine lv_iconst (v := 1) hx hb dX7_holds_115 (by decide) ?_
              refine lv_iadd hx hb dX7_holds_116 ?_
              refine lv_topi (fun x_71 ex_71 => ?_)
              have tx_71 : x_71.toInt = (M_self_piled.toInt + 1) := by rw [ex_71]; exact add_ti (a := M_self_piled.toInt) (b := 1) rfl (by decide) (by omega) (by omega)
              refine va_put (D := D) (ci := 7) (v := .int x_71) (ty := .int) (C := RX7) (T := TX7) (N := 56) hx hb hts (fun _ h => List.mem_cons_of_mem _ (List.mem_append_right _ h)) tyX7 tyX7_ok nmX7 hown hK hP hD hS 0 rfl rfl 41 (by decide) (hts (.fieldLink RX7 293 "CrownTableModel" "piled" "I") (mem_i 3 rfl)) (fun _ h9 => h9) rfl (by decide +kernel) rfl rfl (Nat.le_of_ble_eq_true rfl) dX7_holds_117 (fun H locs hP hD hS => ?_)
              have hP : va_P D vwCl [(A_self, .inr (7, o7 q (upd v 41 x_71) w)), (q 12, .inl (c 1, 400, .inl f_from)), (q 13, .inl (c 1, 400, .inl f_to)), (q 14, .inl (c 1, 9000, .inl f_op)), (q 15, .inl (c 1, 9000, .inl f_number)), (q 40, .inl (c 2, 400, .inr (.inl g_70))), (q 31, .inl (c 1, 400, .inl f_left)), (q 28, .inl (c 1, 400, .inl f_debtor)), (q 32, .inl (c 1, 400, .inl f_made)), (q 29, .inl (c 1, 400, .inl f_kind)), (q 36, .inl (c 3, 16, .inl f_held)), (q 33, .inl (c 1, 400, .inl f_pledge))] H := hP
              have hD : va_D A [(A_self, .inr (7, o7 q (upd v 41 x_71) w)), (q 12, .inl (c 1, 400, .inl f_from)), (q 13, .inl (c 1, 400, .inl f_to)), (q 14, .inl (c 1, 9000, .inl f_op)), (q 15, .inl (c 1, 9000, .inl f_number)), (q 40, .inl (c 2, 400, .inr (.inl g_70))), (q 31, .inl (c 1, 400, .inl f_left)), (q 28, .inl (c 1, 400, .inl f_debtor)), (q 32, .inl (c 1, 400, .inl f_made)), (q 29, .inl (c 1, 400, .inl f_kind)), (q 36, .inl (c 3, 16, .inl f_held)), (q 33, .inl (c 1, 400, .inl f_pledge))] := hD
              refine lv_goto (tgt := 220) hx hb dX7_holds_120 (by decide) ?_
              obtain ⟨x_72, ex_72⟩ : ∃ y : Int32, y = L7 + 1 := ⟨_, rfl⟩
              have tx_72 : x_72.toInt = L7.toInt + 1 := by rw [ex_72]; exact add_ti (a := L7.toInt) (b := 1) rfl (by decide) (by omega) (by omega)
              refine lv_iinc (v := x_72) (lv' := [(7, .int x_72), (0, .ref A_self), (1, .int a1), (2, .int a2), (3, .long a3), (5, .long a4)]) hx hb dX7_holds_220 hl (k := 5) rfl (by rw [ex_72]; rfl) (by decide) rfl (fun ls hl => ?_)
              refine lv_goto (tgt := 30) hx hb dX7_holds_223 (by decide) ?_
              have hl := lv_sub hl [1, 2, 3, 4, 5, 0] rfl
              exact (ih30 ((9000 - x_72.toInt).toNat) (by omega) x_72 x_71 g_70 (by omega) (by omega) (by omega) (by rw [show x_72.toInt = L7.toInt + 1 from tx_72, dpa]; omega) (by omega) rfl _ _ _ hP hD hS hl)
    have kzz_73 : (0 : Int32).toInt = 0 := by decide
    have hl := lv_sub hl [1, 2, 3, 4, 5, 0] rfl
    exact (lp_30 _ x_6 0 f_pile (by omega) (by omega) (by omega) (by rw [show (x_6.toInt - (f_from i_a1.toNat).toInt).toNat = 0 by omega]; rfl) (by omega) rfl _ _ _ hP hD hS hl)
  · skip
    refine lv_iconst (v := 1) hx hb dX7_holds_15 (by decide) ?_
    have kzz_74 : (1 : Int32).toInt = 1 := by decide
    have hP9 := hP.sub (ws' := [(A_self, .inr (7, o7 q v w)), (q 12, .inl (c 1, 400, .inl f_from)), (q 13, .inl (c 1, 400, .inl f_to)), (q 14, .inl (c 1, 9000, .inl f_op)), (q 15, .inl (c 1, 9000, .inl f_number)), (q 40, .inl (c 2, 400, .inr (.inl f_pile))), (q 31, .inl (c 1, 400, .inl f_left)), (q 28, .inl (c 1, 400, .inl f_debtor)), (q 32, .inl (c 1, 400, .inl f_made)), (q 29, .inl (c 1, 400, .inl f_kind)), (q 36, .inl (c 3, 16, .inl f_held)), (q 33, .inl (c 1, 400, .inl f_pledge))]) [0, 1, 2, 3, 4, 5, 6, 7, 8, 9, 10, 11] rfl
    have hD9 := hD.sub (ws' := [(A_self, .inr (7, o7 q v w)), (q 12, .inl (c 1, 400, .inl f_from)), (q 13, .inl (c 1, 400, .inl f_to)), (q 14, .inl (c 1, 9000, .inl f_op)), (q 15, .inl (c 1, 9000, .inl f_number)), (q 40, .inl (c 2, 400, .inr (.inl f_pile))), (q 31, .inl (c 1, 400, .inl f_left)), (q 28, .inl (c 1, 400, .inl f_debtor)), (q 32, .inl (c 1, 400, .inl f_made)), (q 29, .inl (c 1, 400, .inl f_kind)), (q 36, .inl (c 3, 16, .inl f_held)), (q 33, .inl (c 1, 400, .inl f_pledge))]) [0, 1, 2, 3, 4, 5, 6, 7, 8, 9, 10, 11] (by decide) rfl
    refine W.widen (k := 0) (n := 0) (by omega) (by omega) ?_
    exact W.zret (v := 1) hx hb hr (by decide) (fun t ht hW => ⟨⟨_, ((v 41), f_pile, ()), rfl, Or.inl ⟨trivial, rfl⟩, ⟨by rw [ht]; exact hP9, hD9⟩⟩, hS.F ht⟩) hS.2.2 dX7_holds_16

set_option maxHeartbeats 4000000 in
set_option maxRecDepth 100000 in
theorem k_X7_first (l : Launch) (D : va_G) (c : Nat → ClassId) (ts : Nat × Nat) (sz : Nat) (A_self : Nat) (q : Nat → Nat) (v : Nat → Int32) (w : Nat → Int64) (f_many : Nat → Int32) (f_from : Nat → Int32) (f_to : Nat → Int32) (f_op : Nat → Int32) (f_number : Nat → Int32) (f_pile : Nat → Int64) (f_left : Nat → Int32) (f_debtor : Nat → Int32) (f_made : Nat → Int32) (f_kind : Nat → Int32) (f_held : Nat → Int32) (f_pledge : Nat → Int32) (a1 : Int32) (i_a1 : Int) (hi_a1 : a1.toInt = i_a1) (a2 : Int32) (i_a2 : Int) (hi_a2 : a2.toInt = i_a2) (a3 : Int64) (a4 : Int64) (hv_2 : 0 ≤ (v 2).toInt ∧ (v 2).toInt ≤ 800) (hv_8 : 0 ≤ (v 8).toInt ∧ (v 8).toInt ≤ 10) (hv_21 : 0 ≤ (v 21).toInt ∧ (v 21).toInt ≤ 40) (hv_24 : 0 ≤ (v 24).toInt ∧ (v 24).toInt ≤ 1000) (hv_27 : 0 ≤ (v 27).toInt ∧ (v 27).toInt ≤ 400) (hv_42 : 0 ≤ (v 42).toInt ∧ (v 42).toInt ≤ 4000) (hv_52 : 0 ≤ (v 52).toInt ∧ (v 52).toInt ≤ 2000) (hc_many : ∀ j : Nat, 0 ≤ (f_many j).toInt ∧ (f_many j).toInt ≤ 40) (hc_debtor : ∀ j : Nat, 0 ≤ (f_debtor j).toInt ∧ (f_debtor j).toInt ≤ 15) (hc_pledge : ∀ j : Nat, -1 ≤ (f_pledge j).toInt ∧ (f_pledge j).toInt ≤ 15) (hv_a1 : -1 ≤ i_a1 ∧ i_a1 ≤ 9) (hv_a2 : 0 ≤ i_a2 ∧ i_a2 ≤ 399) (hq0 : TCd f_many f_from f_to f_op 9000) : Met l yX7_first wsX7_first ({ frames := 3, cells := 0, slots := 0, locals := 77 }) (va_Pc [.ref A_self, .int a1, .int a2, .long a3, .long a4] (Pre0 D c ts [(A_self, .inr (7, o7 q v w)), (q 9, .inl (c 1, 10, .inl f_many)), (q 12, .inl (c 1, 400, .inl f_from)), (q 13, .inl (c 1, 400, .inl f_to)), (q 14, .inl (c 1, 9000, .inl f_op)), (q 15, .inl (c 1, 9000, .inl f_number)), (q 40, .inl (c 2, 400, .inr (.inl f_pile))), (q 31, .inl (c 1, 400, .inl f_left)), (q 28, .inl (c 1, 400, .inl f_debtor)), (q 32, .inl (c 1, 400, .inl f_made)), (q 29, .inl (c 1, 400, .inl f_kind)), (q 36, .inl (c 3, 16, .inl f_held)), (q 33, .inl (c 1, 400, .inl f_pledge))] sz)) (va_Qi (fun (r : Int32) (u : Int32 × (Nat → Int64) × Unit) => (r.toInt < 0 ∨ (0 ≤ i_a1 ∧ r.toInt ≤ 39)) ∧ (-2 ≤ r.toInt ∧ r.toInt ≤ 39)) (fun u t => va_P D vwCl [(A_self, .inr (7, o7 q (upd v 41 u.1) w)), (q 9, .inl (c 1, 10, .inl f_many)), (q 12, .inl (c 1, 400, .inl f_from)), (q 13, .inl (c 1, 400, .inl f_to)), (q 14, .inl (c 1, 9000, .inl f_op)), (q 15, .inl (c 1, 9000, .inl f_number)), (q 40, .inl (c 2, 400, .inr (.inl u.2.1))), (q 31, .inl (c 1, 400, .inl f_left)), (q 28, .inl (c 1, 400, .inl f_debtor)), (q 32, .inl (c 1, 400, .inl f_made)), (q 29, .inl (c 1, 400, .inl f_kind)), (q 36, .inl (c 3, 16, .inl f_held)), (q 33, .inl (c 1, 400, .inl f_pledge))] t.heap ∧ va_D (va_A [(A_self, .inr (7, o7 q v w)), (q 9, .inl (c 1, 10, .inl f_many)), (q 12, .inl (c 1, 400, .inl f_from)), (q 13, .inl (c 1, 400, .inl f_to)), (q 14, .inl (c 1, 9000, .inl f_op)), (q 15, .inl (c 1, 9000, .inl f_number)), (q 40, .inl (c 2, 400, .inr (.inl f_pile))), (q 31, .inl (c 1, 400, .inl f_left)), (q 28, .inl (c 1, 400, .inl f_debtor)), (q 32, .inl (c 1, 400, .inl f_made)), (q 29, .inl (c 1, 400, .inl f_kind)), (q 36, .inl (c 3, 16, .inl f_held)), (q 33, .inl (c 1, 400, .inl f_pledge))] sz) [(A_self, .inr (7, o7 q (upd v 41 u.1) w)), (q 9, .inl (c 1, 10, .inl f_many)), (q 12, .inl (c 1, 400, .inl f_from)), (q 13, .inl (c 1, 400, .inl f_to)), (q 14, .inl (c 1, 9000, .inl f_op)), (q 15, .inl (c 1, 9000, .inl f_number)), (q 40, .inl (c 2, 400, .inr (.inl u.2.1))), (q 31, .inl (c 1, 400, .inl f_left)), (q 28, .inl (c 1, 400, .inl f_debtor)), (q 32, .inl (c 1, 400, .inl f_made)), (q 29, .inl (c 1, 400, .inl f_kind)), (q 36, .inl (c 3, 16, .inl f_held)), (q 33, .inl (c 1, 400, .inl f_pledge))]) (va_A [(A_self, .inr (7, o7 q v w)), (q 9, .inl (c 1, 10, .inl f_many)), (q 12, .inl (c 1, 400, .inl f_from)), (q 13, .inl (c 1, 400, .inl f_to)), (q 14, .inl (c 1, 9000, .inl f_op)), (q 15, .inl (c 1, 9000, .inl f_number)), (q 40, .inl (c 2, 400, .inr (.inl f_pile))), (q 31, .inl (c 1, 400, .inl f_left)), (q 28, .inl (c 1, 400, .inl f_debtor)), (q 32, .inl (c 1, 400, .inl f_made)), (q 29, .inl (c 1, 400, .inl f_kind)), (q 36, .inl (c 3, 16, .inl f_held)), (q 33, .inl (c 1, 400, .inl f_pledge))] sz)) 0 0 (va_A [(A_self, .inr (7, o7 q v w)), (q 9, .inl (c 1, 10, .inl f_many)), (q 12, .inl (c 1, 400, .inl f_from)), (q 13, .inl (c 1, 400, .inl f_to)), (q 14, .inl (c 1, 9000, .inl f_op)), (q 15, .inl (c 1, 9000, .inl f_number)), (q 40, .inl (c 2, 400, .inr (.inl f_pile))), (q 31, .inl (c 1, 400, .inl f_left)), (q 28, .inl (c 1, 400, .inl f_debtor)), (q 32, .inl (c 1, 400, .inl f_made)), (q 29, .inl (c 1, 400, .inl f_kind)), (q 36, .inl (c 3, 16, .inl f_held)), (q 33, .inl (c 1, 400, .inl f_pledge))] sz) := by
  refine Met.ofW (cc := cX7_first) (maxL := 8) (ret := (some .int)) (by decide) rfl ?_
  intro p e s m args below meth cd s₁ B hml hv
  obtain ⟨rfl, hsz, hP, hD0, hAm, hSt⟩ := hv
  have hx := B.exec
  have hb := B.bytes
  have hr := B.returns
  have hts := atoms_spec (ws := wsX7_first) B.pre
  have hown : s.vm.findClass RX7 = some m.cls := findClass_of_methodNamed B.named
  have hlocks := B.notSynchronized
  have hK := hAm.1
  subst hsz
  have hD := hD0.self (sz := s.heap.size)
  generalize hAe : va_A [(A_self, .inr (7, o7 q v w)), (q 9, .inl (c 1, 10, .inl f_many)), (q 12, .inl (c 1, 400, .inl f_from)), (q 13, .inl (c 1, 400, .inl f_to)), (q 14, .inl (c 1, 9000, .inl f_op)), (q 15, .inl (c 1, 9000, .inl f_number)), (q 40, .inl (c 2, 400, .inr (.inl f_pile))), (q 31, .inl (c 1, 400, .inl f_left)), (q 28, .inl (c 1, 400, .inl f_debtor)), (q 32, .inl (c 1, 400, .inl f_made)), (q 29, .inl (c 1, 400, .inl f_kind)), (q 36, .inl (c 3, 16, .inl f_held)), (q 33, .inl (c 1, 400, .inl f_pledge))] s.heap.size = A at hD hSt ⊢
  have hA : ∀ q : Nat, s.heap.size ≤ q → A q := fun q h => by rw [← hAe]; exact Or.inr h
  have hS : va_S A s.heap s.heap [] := va_S.rf
  clear hD0 hAe
  have hl := lv_entry ([.ref A_self, .int a1, .int a2, .long a3, .long a4]) (n := 8) (Nat.le_of_ble_eq_true rfl)
  rw [lg_entry_eq]
  generalize (lg_sl ([.ref A_self, .int a1, .int a2, .long a3, .long a4]) ++ List.replicate (8 - (lg_sl ([.ref A_self, .int a1, .int a2, .long a3, .long a4])).length) Slot.unset).toArray = ls at hl ⊢
  have hl : lv_has ls 8 [(0, .ref A_self), (1, .int a1), (2, .int a2), (3, .long a3), (5, .long a4)] := hl
  refine lv_iconst (v := 0) hx hb dX7_first_0 (by decide) ?_
  refine lv_istore (lv' := [(7, .int 0), (0, .ref A_self), (1, .int a1), (2, .int a2), (3, .long a3), (5, .long a4)]) hx hb dX7_first_1 hl (by decide) rfl (fun ls hl => ?_)
  have lp_3 : ∀ (N : Nat) (L7 : Int32) (M_self_piled : Int32) (M_pile : Nat → Int64) (hf3_0 : 0 ≤ L7.toInt) (hf3_1 : L7.toInt ≤ 40) (hN3 : (41 - L7.toInt).toNat = N) (H : Heap) (locs : List Loc) (ls : Array Slot), va_P D vwCl [(A_self, .inr (7, o7 q (upd v 41 M_self_piled) w)), (q 9, .inl (c 1, 10, .inl f_many)), (q 12, .inl (c 1, 400, .inl f_from)), (q 13, .inl (c 1, 400, .inl f_to)), (q 14, .inl (c 1, 9000, .inl f_op)), (q 15, .inl (c 1, 9000, .inl f_number)), (q 40, .inl (c 2, 400, .inr (.inl M_pile))), (q 31, .inl (c 1, 400, .inl f_left)), (q 28, .inl (c 1, 400, .inl f_debtor)), (q 32, .inl (c 1, 400, .inl f_made)), (q 29, .inl (c 1, 400, .inl f_kind)), (q 36, .inl (c 3, 16, .inl f_held)), (q 33, .inl (c 1, 400, .inl f_pledge))] H → va_D A [(A_self, .inr (7, o7 q (upd v 41 M_self_piled) w)), (q 9, .inl (c 1, 10, .inl f_many)), (q 12, .inl (c 1, 400, .inl f_from)), (q 13, .inl (c 1, 400, .inl f_to)), (q 14, .inl (c 1, 9000, .inl f_op)), (q 15, .inl (c 1, 9000, .inl f_number)), (q 40, .inl (c 2, 400, .inr (.inl M_pile))), (q 31, .inl (c 1, 400, .inl f_left)), (q 28, .inl (c 1, 400, .inl f_debtor)), (q 32, .inl (c 1, 400, .inl f_made)), (q 29, .inl (c 1, 400, .inl f_kind)), (q 36, .inl (c 3, 16, .inl f_held)), (q 33, .inl (c 1, 400, .inl f_pledge))] → va_S A s.heap H locs → lv_has ls 8 [(0, .ref A_self), (1, .int a1), (2, .int a2), (3, .long a3), (5, .long a4), (7, .int L7)] → W p l e (headSpec wsX7_first ({ frames := 3, cells := 0, slots := 0, locals := 77 })).room s m (([.ref A_self, .int a1, .int a2, .long a3, .long a4] : List Value).toArray) below meth cd H locs 0 0 (MQ below (va_Qi (fun (r : Int32) (u : Int32 × (Nat → Int64) × Unit) => (r.toInt < 0 ∨ (0 ≤ i_a1 ∧ r.toInt ≤ 39)) ∧ (-2 ≤ r.toInt ∧ r.toInt ≤ 39)) (fun u t => va_P D vwCl [(A_self, .inr (7, o7 q (upd v 41 u.1) w)), (q 9, .inl (c 1, 10, .inl f_many)), (q 12, .inl (c 1, 400, .inl f_from)), (q 13, .inl (c 1, 400, .inl f_to)), (q 14, .inl (c 1, 9000, .inl f_op)), (q 15, .inl (c 1, 9000, .inl f_number)), (q 40, .inl (c 2, 400, .inr (.inl u.2.1))), (q 31, .inl (c 1, 400, .inl f_left)), (q 28, .inl (c 1, 400, .inl f_debtor)), (q 32, .inl (c 1, 400, .inl f_made)), (q 29, .inl (c 1, 400, .inl f_kind)), (q 36, .inl (c 3, 16, .inl f_held)), (q 33, .inl (c 1, 400, .inl f_pledge))] t.heap ∧ va_D A [(A_self, .inr (7, o7 q (upd v 41 u.1) w)), (q 9, .inl (c 1, 10, .inl f_many)), (q 12, .inl (c 1, 400, .inl f_from)), (q 13, .inl (c 1, 400, .inl f_to)), (q 14, .inl (c 1, 9000, .inl f_op)), (q 15, .inl (c 1, 9000, .inl f_number)), (q 40, .inl (c 2, 400, .inr (.inl u.2.1))), (q 31, .inl (c 1, 400, .inl f_left)), (q 28, .inl (c 1, 400, .inl f_debtor)), (q 32, .inl (c 1, 400, .inl f_made)), (q 29, .inl (c 1, 400, .inl f_kind)), (q 36, .inl (c 3, 16, .inl f_held)), (q 33, .inl (c 1, 400, .inl f_pledge))]) A) ([.ref A_self, .int a1, .int a2, .long a3, .long a4] : List Value).toArray s 0 0 A) (F0 m 3 ls []) := by
    refine st_ind (fun N ih3 => ?_)
    intro L7 M_self_piled M_pile hf3_0 hf3_1 hN3 H locs ls hP hD hS hl
    have rg_M_self_piled := i32r M_self_piled
    refine lv_iload_n hx hb dX7_first_3 rfl (lv_at hl 1 rfl) ?_
    refine iif_lt (a := i_a1) (tgt := 45) hx hb hi_a1 dX7_first_4 (by decide) (fun k_1 => ?_) (fun k_1 => ?_)
    · skip
      refine lv_bipush (v := (-2)) hx hb dX7_first_45 (by decide) ?_
      have kzz_2 : ((-2) : Int32).toInt = (-2) := by decide
      have hP9 := hP.sub (ws' := [(A_self, .inr (7, o7 q (upd v 41 M_self_piled) w)), (q 9, .inl (c 1, 10, .inl f_many)), (q 12, .inl (c 1, 400, .inl f_from)), (q 13, .inl (c 1, 400, .inl f_to)), (q 14, .inl (c 1, 9000, .inl f_op)), (q 15, .inl (c 1, 9000, .inl f_number)), (q 40, .inl (c 2, 400, .inr (.inl M_pile))), (q 31, .inl (c 1, 400, .inl f_left)), (q 28, .inl (c 1, 400, .inl f_debtor)), (q 32, .inl (c 1, 400, .inl f_made)), (q 29, .inl (c 1, 400, .inl f_kind)), (q 36, .inl (c 3, 16, .inl f_held)), (q 33, .inl (c 1, 400, .inl f_pledge))]) [0, 1, 2, 3, 4, 5, 6, 7, 8, 9, 10, 11, 12] rfl
      have hD9 := hD.sub (ws' := [(A_self, .inr (7, o7 q (upd v 41 M_self_piled) w)), (q 9, .inl (c 1, 10, .inl f_many)), (q 12, .inl (c 1, 400, .inl f_from)), (q 13, .inl (c 1, 400, .inl f_to)), (q 14, .inl (c 1, 9000, .inl f_op)), (q 15, .inl (c 1, 9000, .inl f_number)), (q 40, .inl (c 2, 400, .inr (.inl M_pile))), (q 31, .inl (c 1, 400, .inl f_left)), (q 28, .inl (c 1, 400, .inl f_debtor)), (q 32, .inl (c 1, 400, .inl f_made)), (q 29, .inl (c 1, 400, .inl f_kind)), (q 36, .inl (c 3, 16, .inl f_held)), (q 33, .inl (c 1, 400, .inl f_pledge))]) [0, 1, 2, 3, 4, 5, 6, 7, 8, 9, 10, 11, 12] (by decide) rfl
      refine W.widen (k := 0) (n := 0) (by omega) (by omega) ?_
      exact W.iret (v := (-2)) hx hb hr (fun t ht hW => ⟨⟨_, (M_self_piled, M_pile, ()), rfl, ⟨by omega, by omega⟩, ⟨by rw [ht]; exact hP9, hD9⟩⟩, hS.F ht⟩) hS.2.2 dX7_first_47
    · skip
      refine lv_iload hx hb dX7_first_7 (lv_at hl 5 rfl) ?_
      refine lv_aload_n hx hb dX7_first_9 rfl (lv_at hl 0 rfl) ?_
      refine va_get (D := D) (ci := 7) (v := .ref (q 9)) (C := RX7) (T := TX7) (N := 56) hx hb hts (fun _ h => List.mem_cons_of_mem _ (List.mem_append_right _ h)) hown hK hP 0 rfl rfl 9 (by decide) (hts (.fieldLink RX7 13 "CrownTableModel" "many" "[I") (mem_i 1 rfl)) (fun _ h9 => h9) rfl dX7_first_10 ?_
      refine lv_iload_n hx hb dX7_first_13 rfl (lv_at hl 1 rfl) ?_
      refine va_iald hx hb hK hP 1 1 rfl rfl (vin (a := i_a1) hi_a1 (by omega) (by omega)) dX7_first_14 ?_
      refine lv_topi (fun x_3 ex_3 => ?_)
      have ld_4 := hc_many (a1.toNatClampNeg)
      rw [← ex_3] at ld_4
      have lf_5 : (f_many i_a1.toNat).toInt = x_3.toInt := by rw [ex_3, clampN (x := a1) hi_a1]
      refine iicmp_ge (a := L7.toInt) (b := x_3.toInt) (tgt := 45) hx hb rfl rfl dX7_first_15 (by decide) (fun k_6 => ?_) (fun k_6 => ?_)
      · skip
        refine lv_bipush (v := (-2)) hx hb dX7_first_45 (by decide) ?_
        have kzz_7 : ((-2) : Int32).toInt = (-2) := by decide
        have hP9 := hP.sub (ws' := [(A_self, .inr (7, o7 q (upd v 41 M_self_piled) w)), (q 9, .inl (c 1, 10, .inl f_many)), (q 12, .inl (c 1, 400, .inl f_from)), (q 13, .inl (c 1, 400, .inl f_to)), (q 14, .inl (c 1, 9000, .inl f_op)), (q 15, .inl (c 1, 9000, .inl f_number)), (q 40, .inl (c 2, 400, .inr (.inl M_pile))), (q 31, .inl (c 1, 400, .inl f_left)), (q 28, .inl (c 1, 400, .inl f_debtor)), (q 32, .inl (c 1, 400, .inl f_made)), (q 29, .inl (c 1, 400, .inl f_kind)), (q 36, .inl (c 3, 16, .inl f_held)), (q 33, .inl (c 1, 400, .inl f_pledge))]) [0, 1, 2, 3, 4, 5, 6, 7, 8, 9, 10, 11, 12] rfl
        have hD9 := hD.sub (ws' := [(A_self, .inr (7, o7 q (upd v 41 M_self_piled) w)), (q 9, .inl (c 1, 10, .inl f_many)), (q 12, .inl (c 1, 400, .inl f_from)), (q 13, .inl (c 1, 400, .inl f_to)), (q 14, .inl (c 1, 9000, .inl f_op)), (q 15, .inl (c 1, 9000, .inl f_number)), (q 40, .inl (c 2, 400, .inr (.inl M_pile))), (q 31, .inl (c 1, 400, .inl f_left)), (q 28, .inl (c 1, 400, .inl f_debtor)), (q 32, .inl (c 1, 400, .inl f_made)), (q 29, .inl (c 1, 400, .inl f_kind)), (q 36, .inl (c 3, 16, .inl f_held)), (q 33, .inl (c 1, 400, .inl f_pledge))]) [0, 1, 2, 3, 4, 5, 6, 7, 8, 9, 10, 11, 12] (by decide) rfl
        refine W.widen (k := 0) (n := 0) (by omega) (by omega) ?_
        exact W.iret (v := (-2)) hx hb hr (fun t ht hW => ⟨⟨_, (M_self_piled, M_pile, ()), rfl, ⟨by omega, by omega⟩, ⟨by rw [ht]; exact hP9, hD9⟩⟩, hS.F ht⟩) hS.2.2 dX7_first_47
      · skip
        have tcg := hq0 i_a1 L7.toInt (by omega) (by omega) (by omega) (by omega)
        refine lv_aload_n hx hb dX7_first_18 rfl (lv_at hl 0 rfl) ?_
        refine lv_bipush (v := 40) hx hb dX7_first_19 (by decide) ?_
        refine lv_iload_n hx hb dX7_first_21 rfl (lv_at hl 1 rfl) ?_
        refine lv_imul hx hb dX7_first_22 ?_
        refine lv_topi (fun x_8 ex_8 => ?_)
        have tx_8 : x_8.toInt = (40 * i_a1) := by rw [ex_8]; exact mul_ti (a := 40) (b := i_a1) (by decide) hi_a1 (by omega) (by omega)
        refine lv_iload hx hb dX7_first_23 (lv_at hl 5 rfl) ?_
        refine lv_iadd hx hb dX7_first_25 ?_
        refine lv_topi (fun x_9 ex_9 => ?_)
        have tx_9 : x_9.toInt = ((40 * i_a1) + L7.toInt) := by rw [ex_9]; exact add_ti (a := (40 * i_a1)) (b := L7.toInt) tx_8 rfl (by omega) (by omega)
        refine lv_iload_n hx hb dX7_first_26 rfl (lv_at hl 2 rfl) ?_
        refine lv_lload_n hx hb dX7_first_27 rfl (lv_at hl 3 rfl) ?_
        refine lv_lload hx hb dX7_first_28 (lv_at hl 4 rfl) ?_
        have hPc := hP.sub (ws' := [(A_self, .inr (7, o7 q (upd v 41 M_self_piled) w)), (q 12, .inl (c 1, 400, .inl f_from)), (q 13, .inl (c 1, 400, .inl f_to)), (q 14, .inl (c 1, 9000, .inl f_op)), (q 15, .inl (c 1, 9000, .inl f_number)), (q 40, .inl (c 2, 400, .inr (.inl M_pile))), (q 31, .inl (c 1, 400, .inl f_left)), (q 28, .inl (c 1, 400, .inl f_debtor)), (q 32, .inl (c 1, 400, .inl f_made)), (q 29, .inl (c 1, 400, .inl f_kind)), (q 36, .inl (c 3, 16, .inl f_held)), (q 33, .inl (c 1, 400, .inl f_pledge))]) [0, 2, 3, 4, 5, 6, 7, 8, 9, 10, 11, 12] rfl
        have hDc := hD.sub (ws' := [(A_self, .inr (7, o7 q (upd v 41 M_self_piled) w)), (q 12, .inl (c 1, 400, .inl f_from)), (q 13, .inl (c 1, 400, .inl f_to)), (q 14, .inl (c 1, 9000, .inl f_op)), (q 15, .inl (c 1, 9000, .inl f_number)), (q 40, .inl (c 2, 400, .inr (.inl M_pile))), (q 31, .inl (c 1, 400, .inl f_left)), (q 28, .inl (c 1, 400, .inl f_debtor)), (q 32, .inl (c 1, 400, .inl f_made)), (q 29, .inl (c 1, 400, .inl f_kind)), (q 36, .inl (c 3, 16, .inl f_held)), (q 33, .inl (c 1, 400, .inl f_pledge))]) [0, 2, 3, 4, 5, 6, 7, 8, 9, 10, 11, 12] (by decide) rfl
        have hFc := va_free (wc := [(A_self, .inr (7, o7 q (upd v 41 M_self_piled) w)), (q 12, .inl (c 1, 400, .inl f_from)), (q 13, .inl (c 1, 400, .inl f_to)), (q 14, .inl (c 1, 9000, .inl f_op)), (q 15, .inl (c 1, 9000, .inl f_number)), (q 40, .inl (c 2, 400, .inr (.inl M_pile))), (q 31, .inl (c 1, 400, .inl f_left)), (q 28, .inl (c 1, 400, .inl f_debtor)), (q 32, .inl (c 1, 400, .inl f_made)), (q 29, .inl (c 1, 400, .inl f_kind)), (q 36, .inl (c 3, 16, .inl f_held)), (q 33, .inl (c 1, 400, .inl f_pledge))]) hD hS hA [0, 2, 3, 4, 5, 6, 7, 8, 9, 10, 11, 12] rfl
        refine va_calli (va_runV (As := [.int x_9, .int a2, .long a3, .long a4]) (rest := []) ⟨hx, hb, hml, hown, hts⟩ (k_X7_holds l D c ts H.size A_self q (upd v 41 M_self_piled) w f_from f_to f_op f_number M_pile f_left f_debtor f_made f_kind f_held f_pledge x_9 ((40 * i_a1) + L7.toInt) tx_9 a2 i_a2 hi_a2 a3 a4 (show 0 ≤ (v 2).toInt ∧ (v 2).toInt ≤ 800 by omega) (show 0 ≤ (v 8).toInt ∧ (v 8).toInt ≤ 10 by omega) (show 0 ≤ (v 21).toInt ∧ (v 21).toInt ≤ 40 by omega) (show 0 ≤ (v 24).toInt ∧ (v 24).toInt ≤ 1000 by omega) (show 0 ≤ (v 27).toInt ∧ (v 27).toInt ≤ 400 by omega) (show 0 ≤ (v 42).toInt ∧ (v 42).toInt ≤ 4000 by omega) (show 0 ≤ (v 52).toInt ∧ (v 52).toInt ≤ 2000 by omega) hc_debtor hc_pledge (show 0 ≤ ((40 * i_a1) + L7.toInt) ∧ ((40 * i_a1) + L7.toInt) ≤ 399 by omega) (show 0 ≤ i_a2 ∧ i_a2 ≤ 399 by omega) (show 0 ≤ (f_from ((40 * i_a1) + L7.toInt).toNat).toInt ∧ (f_from ((40 * i_a1) + L7.toInt).toNat).toInt ≤ (f_to ((40 * i_a1) + L7.toInt).toNat).toInt ∧ (f_to ((40 * i_a1) + L7.toInt).toNat).toInt ≤ 9000 from ⟨tcg.1, tcg.2.1, by omega⟩) (show (f_from ((40 * i_a1) + L7.toInt).toNat).toInt = (f_to ((40 * i_a1) + L7.toInt).toNat).toInt ∨ 1 ≤ dep f_op (f_from ((40 * i_a1) + L7.toInt).toNat).toInt ((f_to ((40 * i_a1) + L7.toInt).toNat).toInt - (f_from ((40 * i_a1) + L7.toInt).toNat).toInt).toNat from tcg.2.2.2.2)) (cwV 4 hts gX7_first_X7_holds rfl rfl rfl ⟨rfl, hdX7_holds⟩ ⟨(show 2 + 1 ≤ 3 by decide), (show 8 + (8 + 11) + 50 ≤ 77 by decide)⟩) ⟨Pre0.blind, va_recv hK hPc (ci := 7) (q0 := 0) rfl rfl, Pre0.at hPc hDc hAm hSt hS hFc⟩ rfl rfl hl.1 rfl (lv_room (Nat.le_of_ble_eq_true rfl)) dX7_first_30 ⟨(show 0 + 0 ≤ 0 by decide), (show 0 + 0 ≤ 0 by decide)⟩) hS (fun q _ h => hFc q h) hFc (fun r_11 u_12 t1 H locs ht hvm hw_10 hB_9 hz1_9 hk1_9 hS => ?_)
        obtain ⟨y_13, f_14, _⟩ := u_12
        have hw_10 : (((True) ∧ r_11 = 1) ∨ ((True) ∧ r_11 = 0)) := hw_10
        obtain ⟨hP1_9, hD1_9⟩ := hB_9
        rw [ht] at hP1_9
        have hP1_9 : va_P D vwCl [(A_self, .inr (7, o7 q (upd v 41 y_13) w)), (q 12, .inl (c 1, 400, .inl f_from)), (q 13, .inl (c 1, 400, .inl f_to)), (q 14, .inl (c 1, 9000, .inl f_op)), (q 15, .inl (c 1, 9000, .inl f_number)), (q 40, .inl (c 2, 400, .inr (.inl f_14))), (q 31, .inl (c 1, 400, .inl f_left)), (q 28, .inl (c 1, 400, .inl f_debtor)), (q 32, .inl (c 1, 400, .inl f_made)), (q 29, .inl (c 1, 400, .inl f_kind)), (q 36, .inl (c 3, 16, .inl f_held)), (q 33, .inl (c 1, 400, .inl f_pledge))] H := hP1_9
        obtain ⟨hP, hD⟩ := va_join (wr := [(q 9, .inl (c 1, 10, .inl f_many))]) (w1 := [(A_self, .inr (7, o7 q (upd v 41 y_13) w)), (q 12, .inl (c 1, 400, .inl f_from)), (q 13, .inl (c 1, 400, .inl f_to)), (q 14, .inl (c 1, 9000, .inl f_op)), (q 15, .inl (c 1, 9000, .inl f_number)), (q 40, .inl (c 2, 400, .inr (.inl f_14))), (q 31, .inl (c 1, 400, .inl f_left)), (q 28, .inl (c 1, 400, .inl f_debtor)), (q 32, .inl (c 1, 400, .inl f_made)), (q 29, .inl (c 1, 400, .inl f_kind)), (q 36, .inl (c 3, 16, .inl f_held)), (q 33, .inl (c 1, 400, .inl f_pledge))]) hP hD [0, 2, 3, 4, 5, 6, 7, 8, 9, 10, 11, 12] [1] rfl rfl (by decide) (by decide) hk1_9 hFc hP1_9 hD1_9
        have hP : va_P D vwCl [(q 9, .inl (c 1, 10, .inl f_many)), (A_self, .inr (7, o7 q (upd v 41 y_13) w)), (q 12, .inl (c 1, 400, .inl f_from)), (q 13, .inl (c 1, 400, .inl f_to)), (q 14, .inl (c 1, 9000, .inl f_op)), (q 15, .inl (c 1, 9000, .inl f_number)), (q 40, .inl (c 2, 400, .inr (.inl f_14))), (q 31, .inl (c 1, 400, .inl f_left)), (q 28, .inl (c 1, 400, .inl f_debtor)), (q 32, .inl (c 1, 400, .inl f_made)), (q 29, .inl (c 1, 400, .inl f_kind)), (q 36, .inl (c 3, 16, .inl f_held)), (q 33, .inl (c 1, 400, .inl f_pledge))] H := hP
        have hD : va_D A [(q 9, .inl (c 1, 10, .inl f_many)), (A_self, .inr (7, o7 q (upd v 41 y_13) w)), (q 12, .inl (c 1, 400, .inl f_from)), (q 13, .inl (c 1, 400, .inl f_to)), (q 14, .inl (c 1, 9000, .inl f_op)), (q 15, .inl (c 1, 9000, .inl f_number)), (q 40, .inl (c 2, 400, .inr (.inl f_14))), (q 31, .inl (c 1, 400, .inl f_left)), (q 28, .inl (c 1, 400, .inl f_debtor)), (q 32, .inl (c 1, 400, .inl f_made)), (q 29, .inl (c 1, 400, .inl f_kind)), (q 36, .inl (c 3, 16, .inl f_held)), (q 33, .inl (c 1, 400, .inl f_pledge))] := hD
        refine W.widen (k := 0) (n := 0) (by omega) (by omega) ?_
        rcases hw_10 with ⟨hw_10, rfl⟩ | ⟨hw_10, rfl⟩
        · skip
          refine iif_eqF (a := 1) (tgt := 39) hx hb (by decide) dX7_first_33 (by decide) (by decide) ?_
          refine lv_iload hx hb dX7_first_36 (lv_at hl 5 rfl) ?_
          have hP9 := hP.sub (ws' := [(A_self, .inr (7, o7 q (upd v 41 y_13) w)), (q 9, .inl (c 1, 10, .inl f_many)), (q 12, .inl (c 1, 400, .inl f_from)), (q 13, .inl (c 1, 400, .inl f_to)), (q 14, .inl (c 1, 9000, .inl f_op)), (q 15, .inl (c 1, 9000, .inl f_number)), (q 40, .inl (c 2, 400, .inr (.inl f_14))), (q 31, .inl (c 1, 400, .inl f_left)), (q 28, .inl (c 1, 400, .inl f_debtor)), (q 32, .inl (c 1, 400, .inl f_made)), (q 29, .inl (c 1, 400, .inl f_kind)), (q 36, .inl (c 3, 16, .inl f_held)), (q 33, .inl (c 1, 400, .inl f_pledge))]) [1, 0, 2, 3, 4, 5, 6, 7, 8, 9, 10, 11, 12] rfl
          have hD9 := hD.sub (ws' := [(A_self, .inr (7, o7 q (upd v 41 y_13) w)), (q 9, .inl (c 1, 10, .inl f_many)), (q 12, .inl (c 1, 400, .inl f_from)), (q 13, .inl (c 1, 400, .inl f_to)), (q 14, .inl (c 1, 9000, .inl f_op)), (q 15, .inl (c 1, 9000, .inl f_number)), (q 40, .inl (c 2, 400, .inr (.inl f_14))), (q 31, .inl (c 1, 400, .inl f_left)), (q 28, .inl (c 1, 400, .inl f_debtor)), (q 32, .inl (c 1, 400, .inl f_made)), (q 29, .inl (c 1, 400, .inl f_kind)), (q 36, .inl (c 3, 16, .inl f_held)), (q 33, .inl (c 1, 400, .inl f_pledge))]) [1, 0, 2, 3, 4, 5, 6, 7, 8, 9, 10, 11, 12] (by decide) rfl
          refine W.widen (k := 0) (n := 0) (by omega) (by omega) ?_
          exact W.iret (v := L7) hx hb hr (fun t ht hW => ⟨⟨_, (y_13, f_14, ()), rfl, ⟨by omega, by omega⟩, ⟨by rw [ht]; exact hP9, hD9⟩⟩, hS.F ht⟩) hS.2.2 dX7_first_38
        · skip
          refine iif_eqT (a := 0) (tgt := 39) hx hb (by decide) dX7_first_33 (by decide) (by decide) ?_
          obtain ⟨x_15, ex_15⟩ : ∃ y : Int32, y = L7 + 1 := ⟨_, rfl⟩
          have tx_15 : x_15.toInt = L7.toInt + 1 := by rw [ex_15]; exact add_ti (a := L7.toInt) (b := 1) rfl (by decide) (by omega) (by omega)
          refine lv_iinc (v := x_15) (lv' := [(7, .int x_15), (0, .ref A_self), (1, .int a1), (2, .int a2), (3, .long a3), (5, .long a4)]) hx hb dX7_first_39 hl (k := 5) rfl (by rw [ex_15]; rfl) (by decide) rfl (fun ls hl => ?_)
          refine lv_goto (tgt := 3) hx hb dX7_first_42 (by decide) ?_
          have hP := hP.sub (ws' := [(A_self, .inr (7, o7 q (upd v 41 y_13) w)), (q 9, .inl (c 1, 10, .inl f_many)), (q 12, .inl (c 1, 400, .inl f_from)), (q 13, .inl (c 1, 400, .inl f_to)), (q 14, .inl (c 1, 9000, .inl f_op)), (q 15, .inl (c 1, 9000, .inl f_number)), (q 40, .inl (c 2, 400, .inr (.inl f_14))), (q 31, .inl (c 1, 400, .inl f_left)), (q 28, .inl (c 1, 400, .inl f_debtor)), (q 32, .inl (c 1, 400, .inl f_made)), (q 29, .inl (c 1, 400, .inl f_kind)), (q 36, .inl (c 3, 16, .inl f_held)), (q 33, .inl (c 1, 400, .inl f_pledge))]) [1, 0, 2, 3, 4, 5, 6, 7, 8, 9, 10, 11, 12] rfl
          have hD := hD.sub (ws' := [(A_self, .inr (7, o7 q (upd v 41 y_13) w)), (q 9, .inl (c 1, 10, .inl f_many)), (q 12, .inl (c 1, 400, .inl f_from)), (q 13, .inl (c 1, 400, .inl f_to)), (q 14, .inl (c 1, 9000, .inl f_op)), (q 15, .inl (c 1, 9000, .inl f_number)), (q 40, .inl (c 2, 400, .inr (.inl f_14))), (q 31, .inl (c 1, 400, .inl f_left)), (q 28, .inl (c 1, 400, .inl f_debtor)), (q 32, .inl (c 1, 400, .inl f_made)), (q 29, .inl (c 1, 400, .inl f_kind)), (q 36, .inl (c 3, 16, .inl f_held)), (q 33, .inl (c 1, 400, .inl f_pledge))]) [1, 0, 2, 3, 4, 5, 6, 7, 8, 9, 10, 11, 12] (by decide) rfl
          have hl := lv_sub hl [1, 2, 3, 4, 5, 0] rfl
          exact (ih3 ((41 - x_15.toInt).toNat) (by omega) x_15 y_13 f_14 (by omega) (by omega) rfl _ _ _ hP hD hS hl)
  have kzz_16 : (0 : Int32).toInt = 0 := by decide
  have hl := lv_sub hl [1, 2, 3, 4, 5, 0] rfl
  exact (lp_3 _ 0 (v 41) f_pile (by omega) (by omega) rfl _ _ _ hP hD hS hl)

set_option maxHeartbeats 4000000 in
set_option maxRecDepth 100000 in
theorem k_X7_would (l : Launch) (D : va_G) (c : Nat → ClassId) (ts : Nat × Nat) (sz : Nat) (A_self : Nat) (q : Nat → Nat) (v : Nat → Int32) (w : Nat → Int64) (f_many : Nat → Int32) (f_from : Nat → Int32) (f_to : Nat → Int32) (f_op : Nat → Int32) (f_number : Nat → Int32) (f_pile : Nat → Int64) (f_left : Nat → Int32) (f_debtor : Nat → Int32) (f_made : Nat → Int32) (f_kind : Nat → Int32) (f_held : Nat → Int32) (f_pledge : Nat → Int32) (a1 : Int32) (i_a1 : Int) (hi_a1 : a1.toInt = i_a1) (a2 : Int32) (i_a2 : Int) (hi_a2 : a2.toInt = i_a2) (a3 : Int32) (i_a3 : Int) (hi_a3 : a3.toInt = i_a3) (hv_2 : 0 ≤ (v 2).toInt ∧ (v 2).toInt ≤ 800) (hv_8 : 0 ≤ (v 8).toInt ∧ (v 8).toInt ≤ 10) (hv_21 : 0 ≤ (v 21).toInt ∧ (v 21).toInt ≤ 40) (hv_24 : 0 ≤ (v 24).toInt ∧ (v 24).toInt ≤ 1000) (hv_27 : 0 ≤ (v 27).toInt ∧ (v 27).toInt ≤ 400) (hv_42 : 0 ≤ (v 42).toInt ∧ (v 42).toInt ≤ 4000) (hv_52 : 0 ≤ (v 52).toInt ∧ (v 52).toInt ≤ 2000) (hc_many : ∀ j : Nat, 0 ≤ (f_many j).toInt ∧ (f_many j).toInt ≤ 40) (hc_debtor : ∀ j : Nat, 0 ≤ (f_debtor j).toInt ∧ (f_debtor j).toInt ≤ 15) (hc_pledge : ∀ j : Nat, -1 ≤ (f_pledge j).toInt ∧ (f_pledge j).toInt ≤ 15) (hq0 : TCd f_many f_from f_to f_op 9000) : Met l yX7_would wsX7_would ({ frames := 4, cells := 0, slots := 0, locals := 104 }) (va_Pc [.ref A_self, .int a1, .int a2, .int a3] (Pre0 D c ts [(A_self, .inr (7, o7 q v w)), (q 9, .inl (c 1, 10, .inl f_many)), (q 12, .inl (c 1, 400, .inl f_from)), (q 13, .inl (c 1, 400, .inl f_to)), (q 14, .inl (c 1, 9000, .inl f_op)), (q 15, .inl (c 1, 9000, .inl f_number)), (q 40, .inl (c 2, 400, .inr (.inl f_pile))), (q 31, .inl (c 1, 400, .inl f_left)), (q 28, .inl (c 1, 400, .inl f_debtor)), (q 32, .inl (c 1, 400, .inl f_made)), (q 29, .inl (c 1, 400, .inl f_kind)), (q 36, .inl (c 3, 16, .inl f_held)), (q 33, .inl (c 1, 400, .inl f_pledge))] sz)) (va_Qi (fun (r : Int32) (u : Int32 × (Nat → Int64) × Unit) => True) (fun u t => va_P D vwCl [(A_self, .inr (7, o7 q (upd v 41 u.1) w)), (q 9, .inl (c 1, 10, .inl f_many)), (q 12, .inl (c 1, 400, .inl f_from)), (q 13, .inl (c 1, 400, .inl f_to)), (q 14, .inl (c 1, 9000, .inl f_op)), (q 15, .inl (c 1, 9000, .inl f_number)), (q 40, .inl (c 2, 400, .inr (.inl u.2.1))), (q 31, .inl (c 1, 400, .inl f_left)), (q 28, .inl (c 1, 400, .inl f_debtor)), (q 32, .inl (c 1, 400, .inl f_made)), (q 29, .inl (c 1, 400, .inl f_kind)), (q 36, .inl (c 3, 16, .inl f_held)), (q 33, .inl (c 1, 400, .inl f_pledge))] t.heap ∧ va_D (va_A [(A_self, .inr (7, o7 q v w)), (q 9, .inl (c 1, 10, .inl f_many)), (q 12, .inl (c 1, 400, .inl f_from)), (q 13, .inl (c 1, 400, .inl f_to)), (q 14, .inl (c 1, 9000, .inl f_op)), (q 15, .inl (c 1, 9000, .inl f_number)), (q 40, .inl (c 2, 400, .inr (.inl f_pile))), (q 31, .inl (c 1, 400, .inl f_left)), (q 28, .inl (c 1, 400, .inl f_debtor)), (q 32, .inl (c 1, 400, .inl f_made)), (q 29, .inl (c 1, 400, .inl f_kind)), (q 36, .inl (c 3, 16, .inl f_held)), (q 33, .inl (c 1, 400, .inl f_pledge))] sz) [(A_self, .inr (7, o7 q (upd v 41 u.1) w)), (q 9, .inl (c 1, 10, .inl f_many)), (q 12, .inl (c 1, 400, .inl f_from)), (q 13, .inl (c 1, 400, .inl f_to)), (q 14, .inl (c 1, 9000, .inl f_op)), (q 15, .inl (c 1, 9000, .inl f_number)), (q 40, .inl (c 2, 400, .inr (.inl u.2.1))), (q 31, .inl (c 1, 400, .inl f_left)), (q 28, .inl (c 1, 400, .inl f_debtor)), (q 32, .inl (c 1, 400, .inl f_made)), (q 29, .inl (c 1, 400, .inl f_kind)), (q 36, .inl (c 3, 16, .inl f_held)), (q 33, .inl (c 1, 400, .inl f_pledge))]) (va_A [(A_self, .inr (7, o7 q v w)), (q 9, .inl (c 1, 10, .inl f_many)), (q 12, .inl (c 1, 400, .inl f_from)), (q 13, .inl (c 1, 400, .inl f_to)), (q 14, .inl (c 1, 9000, .inl f_op)), (q 15, .inl (c 1, 9000, .inl f_number)), (q 40, .inl (c 2, 400, .inr (.inl f_pile))), (q 31, .inl (c 1, 400, .inl f_left)), (q 28, .inl (c 1, 400, .inl f_debtor)), (q 32, .inl (c 1, 400, .inl f_made)), (q 29, .inl (c 1, 400, .inl f_kind)), (q 36, .inl (c 3, 16, .inl f_held)), (q 33, .inl (c 1, 400, .inl f_pledge))] sz)) 0 0 (va_A [(A_self, .inr (7, o7 q v w)), (q 9, .inl (c 1, 10, .inl f_many)), (q 12, .inl (c 1, 400, .inl f_from)), (q 13, .inl (c 1, 400, .inl f_to)), (q 14, .inl (c 1, 9000, .inl f_op)), (q 15, .inl (c 1, 9000, .inl f_number)), (q 40, .inl (c 2, 400, .inr (.inl f_pile))), (q 31, .inl (c 1, 400, .inl f_left)), (q 28, .inl (c 1, 400, .inl f_debtor)), (q 32, .inl (c 1, 400, .inl f_made)), (q 29, .inl (c 1, 400, .inl f_kind)), (q 36, .inl (c 3, 16, .inl f_held)), (q 33, .inl (c 1, 400, .inl f_pledge))] sz) := by
  refine Met.ofW (cc := cX7_would) (maxL := 4) (ret := (some .int)) (by decide) rfl ?_
  intro p e s m args below meth cd s₁ B hml hv
  obtain ⟨rfl, hsz, hP, hD0, hAm, hSt⟩ := hv
  have hx := B.exec
  have hb := B.bytes
  have hr := B.returns
  have hts := atoms_spec (ws := wsX7_would) B.pre
  have hown : s.vm.findClass RX7 = some m.cls := findClass_of_methodNamed B.named
  have hlocks := B.notSynchronized
  have hK := hAm.1
  subst hsz
  have hD := hD0.self (sz := s.heap.size)
  generalize hAe : va_A [(A_self, .inr (7, o7 q v w)), (q 9, .inl (c 1, 10, .inl f_many)), (q 12, .inl (c 1, 400, .inl f_from)), (q 13, .inl (c 1, 400, .inl f_to)), (q 14, .inl (c 1, 9000, .inl f_op)), (q 15, .inl (c 1, 9000, .inl f_number)), (q 40, .inl (c 2, 400, .inr (.inl f_pile))), (q 31, .inl (c 1, 400, .inl f_left)), (q 28, .inl (c 1, 400, .inl f_debtor)), (q 32, .inl (c 1, 400, .inl f_made)), (q 29, .inl (c 1, 400, .inl f_kind)), (q 36, .inl (c 3, 16, .inl f_held)), (q 33, .inl (c 1, 400, .inl f_pledge))] s.heap.size = A at hD hSt ⊢
  have hA : ∀ q : Nat, s.heap.size ≤ q → A q := fun q h => by rw [← hAe]; exact Or.inr h
  have hS : va_S A s.heap s.heap [] := va_S.rf
  clear hD0 hAe
  have hl := lv_entry ([.ref A_self, .int a1, .int a2, .int a3]) (n := 4) (Nat.le_of_ble_eq_true rfl)
  rw [lg_entry_eq]
  generalize (lg_sl ([.ref A_self, .int a1, .int a2, .int a3]) ++ List.replicate (4 - (lg_sl ([.ref A_self, .int a1, .int a2, .int a3])).length) Slot.unset).toArray = ls at hl ⊢
  have hl : lv_has ls 4 [(0, .ref A_self), (1, .int a1), (2, .int a2), (3, .int a3)] := hl
  have rg_a1 := i32r a1
  have rg_a2 := i32r a2
  have rg_a3 := i32r a3
  refine lv_aload_n hx hb dX7_would_0 rfl (lv_at hl 0 rfl) ?_
  refine lv_iload_n hx hb dX7_would_1 rfl (lv_at hl 1 rfl) ?_
  have hPc := hP.sub (ws' := [(A_self, .inr (7, o7 q v w))]) [0] rfl
  have hDc := hD.sub (ws' := [(A_self, .inr (7, o7 q v w))]) [0] (by decide) rfl
  have hFc := va_free (wc := [(A_self, .inr (7, o7 q v w))]) hD hS hA [0] rfl
  refine va_csi (va_runV (As := [.int a1]) (rest := []) ⟨hx, hb, hml, hown, hts⟩ (k_X7_isText l D c ts s.heap.size A_self q v w a1 i_a1 hi_a1 (show 0 ≤ (v 2).toInt ∧ (v 2).toInt ≤ 800 by omega) (show 0 ≤ (v 8).toInt ∧ (v 8).toInt ≤ 10 by omega) (show 0 ≤ (v 21).toInt ∧ (v 21).toInt ≤ 40 by omega) (show 0 ≤ (v 24).toInt ∧ (v 24).toInt ≤ 1000 by omega) (show 0 ≤ (v 27).toInt ∧ (v 27).toInt ≤ 400 by omega) (show 0 ≤ (v 42).toInt ∧ (v 42).toInt ≤ 4000 by omega) (show 0 ≤ (v 52).toInt ∧ (v 52).toInt ≤ 2000 by omega)) (cwV 1 hts gX7_would_X7_isText rfl rfl rfl ⟨rfl, hdX7_isText⟩ ⟨(show 1 + 1 ≤ 4 by decide), (show 8 + (2 + 11) + 22 ≤ 104 by decide)⟩) ⟨Pre0.blind, va_recv hK hPc (ci := 7) (q0 := 0) rfl rfl, Pre0.at hPc hDc hAm hSt hS hFc⟩ rfl rfl hl.1 rfl (lv_room (Nat.le_of_ble_eq_true rfl)) dX7_would_2 ⟨(show 0 + 0 ≤ 0 by decide), (show 0 + 0 ≤ 0 by decide)⟩) (fun r_2 hw_1 => ?_)
  have hw_1 : (((0 ≤ i_a1 ∧ i_a1 ≤ (v 8).toInt - 1) ∧ r_2 = 1) ∨ ((¬ (0 ≤ i_a1 ∧ i_a1 ≤ (v 8).toInt - 1)) ∧ r_2 = 0)) := hw_1
  rcases hw_1 with ⟨hw_1, rfl⟩ | ⟨hw_1, rfl⟩
  · skip
    refine iif_eqF (a := 1) (tgt := 36) hx hb (by decide) dX7_would_5 (by decide) (by decide) ?_
    refine lv_aload_n hx hb dX7_would_8 rfl (lv_at hl 0 rfl) ?_
    refine lv_iload_n hx hb dX7_would_9 rfl (lv_at hl 2 rfl) ?_
    have hPc := hP.sub (ws' := [(A_self, .inr (7, o7 q v w))]) [0] rfl
    have hDc := hD.sub (ws' := [(A_self, .inr (7, o7 q v w))]) [0] (by decide) rfl
    have hFc := va_free (wc := [(A_self, .inr (7, o7 q v w))]) hD hS hA [0] rfl
    refine va_csi (va_runV (As := [.int a2]) (rest := []) ⟨hx, hb, hml, hown, hts⟩ (k_X7_isDebt l D c ts s.heap.size A_self q v w a2 i_a2 hi_a2 (show 0 ≤ (v 2).toInt ∧ (v 2).toInt ≤ 800 by omega) (show 0 ≤ (v 8).toInt ∧ (v 8).toInt ≤ 10 by omega) (show 0 ≤ (v 21).toInt ∧ (v 21).toInt ≤ 40 by omega) (show 0 ≤ (v 24).toInt ∧ (v 24).toInt ≤ 1000 by omega) (show 0 ≤ (v 27).toInt ∧ (v 27).toInt ≤ 400 by omega) (show 0 ≤ (v 42).toInt ∧ (v 42).toInt ≤ 4000 by omega) (show 0 ≤ (v 52).toInt ∧ (v 52).toInt ≤ 2000 by omega)) (cwV 1 hts gX7_would_X7_isDebt rfl rfl rfl ⟨rfl, hdX7_isDebt⟩ ⟨(show 1 + 1 ≤ 4 by decide), (show 8 + (2 + 11) + 22 ≤ 104 by decide)⟩) ⟨Pre0.blind, va_recv hK hPc (ci := 7) (q0 := 0) rfl rfl, Pre0.at hPc hDc hAm hSt hS hFc⟩ rfl rfl hl.1 rfl (lv_room (Nat.le_of_ble_eq_true rfl)) dX7_would_10 ⟨(show 0 + 0 ≤ 0 by decide), (show 0 + 0 ≤ 0 by decide)⟩) (fun r_4 hw_3 => ?_)
    have hw_3 : (((0 ≤ i_a2 ∧ i_a2 ≤ (v 27).toInt - 1) ∧ r_4 = 1) ∨ ((¬ (0 ≤ i_a2 ∧ i_a2 ≤ (v 27).toInt - 1)) ∧ r_4 = 0)) := hw_3
    rcases hw_3 with ⟨hw_3, rfl⟩ | ⟨hw_3, rfl⟩
    · skip
      refine iif_eqF (a := 1) (tgt := 36) hx hb (by decide) dX7_would_13 (by decide) (by decide) ?_
      refine lv_aload_n hx hb dX7_would_16 rfl (lv_at hl 0 rfl) ?_
      refine va_get (D := D) (ci := 7) (v := .ref (q 31)) (C := RX7) (T := TX7) (N := 56) hx hb hts (fun _ h => List.mem_cons_of_mem _ (List.mem_append_right _ h)) hown hK hP 0 rfl rfl 31 (by decide) (hts (.fieldLink RX7 59 "CrownTableModel" "left" "[I") (mem_i 1 rfl)) (fun _ h9 => h9) rfl dX7_would_17 ?_
      refine lv_iload_n hx hb dX7_would_20 rfl (lv_at hl 2 rfl) ?_
      refine va_iald hx hb hK hP 7 1 rfl rfl (vin (a := i_a2) hi_a2 (by omega) (by omega)) dX7_would_21 ?_
      refine lv_topi (fun x_5 ex_5 => ?_)
      refine iif_eq (a := x_5.toInt) (tgt := 36) hx hb rfl dX7_would_22 (by decide) (fun k_6 => ?_) (fun k_6 => ?_)
      · skip
        refine lv_iconst (v := (-1)) hx hb dX7_would_36 (by decide) ?_
        refine lv_goto (tgt := 49) hx hb dX7_would_37 (by decide) ?_
        have kzz_7 : ((-1) : Int32).toInt = (-1) := by decide
        have hP9 := hP.sub (ws' := [(A_self, .inr (7, o7 q v w)), (q 9, .inl (c 1, 10, .inl f_many)), (q 12, .inl (c 1, 400, .inl f_from)), (q 13, .inl (c 1, 400, .inl f_to)), (q 14, .inl (c 1, 9000, .inl f_op)), (q 15, .inl (c 1, 9000, .inl f_number)), (q 40, .inl (c 2, 400, .inr (.inl f_pile))), (q 31, .inl (c 1, 400, .inl f_left)), (q 28, .inl (c 1, 400, .inl f_debtor)), (q 32, .inl (c 1, 400, .inl f_made)), (q 29, .inl (c 1, 400, .inl f_kind)), (q 36, .inl (c 3, 16, .inl f_held)), (q 33, .inl (c 1, 400, .inl f_pledge))]) [0, 1, 2, 3, 4, 5, 6, 7, 8, 9, 10, 11, 12] rfl
        have hD9 := hD.sub (ws' := [(A_self, .inr (7, o7 q v w)), (q 9, .inl (c 1, 10, .inl f_many)), (q 12, .inl (c 1, 400, .inl f_from)), (q 13, .inl (c 1, 400, .inl f_to)), (q 14, .inl (c 1, 9000, .inl f_op)), (q 15, .inl (c 1, 9000, .inl f_number)), (q 40, .inl (c 2, 400, .inr (.inl f_pile))), (q 31, .inl (c 1, 400, .inl f_left)), (q 28, .inl (c 1, 400, .inl f_debtor)), (q 32, .inl (c 1, 400, .inl f_made)), (q 29, .inl (c 1, 400, .inl f_kind)), (q 36, .inl (c 3, 16, .inl f_held)), (q 33, .inl (c 1, 400, .inl f_pledge))]) [0, 1, 2, 3, 4, 5, 6, 7, 8, 9, 10, 11, 12] (by decide) rfl
        refine W.widen (k := 0) (n := 0) (by omega) (by omega) ?_
        exact W.iret (v := (-1)) hx hb hr (fun t ht hW => ⟨⟨_, ((v 41), f_pile, ()), rfl, trivial, ⟨by rw [ht]; exact hP9, hD9⟩⟩, hS.F ht⟩) hS.2.2 dX7_would_49
      · skip
        refine lv_iload_n hx hb dX7_would_25 rfl (lv_at hl 3 rfl) ?_
        refine lv_iconst (v := 0) hx hb dX7_would_26 (by decide) ?_
        refine lv_ldcw (v := 10000000) hx hb hown (hts (.constant RX7 311 (10000000)) (mem_i 2 rfl)) dX7_would_27 ?_
        have hPc := hP.sub (ws' := []) [] rfl
        have hDc := hD.sub (ws' := []) [] (by decide) rfl
        have hFc := va_free (wc := []) hD hS hA [] rfl
        have kzz_8 : (0 : Int32).toInt = 0 := by decide
        have kzz_9 : (10000000 : Int32).toInt = 10000000 := by decide
        refine va_csi (va_runS (As := [.int a3, .int 0, .int 10000000]) (rest := []) ⟨hx, hb, hml, hown, hts⟩ (k_X7_in l D c ts s.heap.size a3 i_a3 hi_a3 0 0 (by decide) 10000000 10000000 (by decide)) (cwS 3 hts gX7_would_X7_in rfl rfl rfl ⟨rfl, hdX7_in⟩ ⟨(show 0 + 1 ≤ 4 by decide), (show 8 + (3 + 11) + 0 ≤ 104 by decide)⟩) ⟨Pre0.blind, Pre0.at hPc hDc hAm hSt hS hFc⟩ rfl rfl hl.1 rfl (lv_room (Nat.le_of_ble_eq_true rfl)) dX7_would_30 ⟨(show 0 + 0 ≤ 0 by decide), (show 0 + 0 ≤ 0 by decide)⟩) (fun r_11 hw_10 => ?_)
        rcases hw_10 with ⟨hw_10, rfl⟩ | ⟨hw_10, rfl⟩
        · skip
          refine iif_neT (a := 1) (tgt := 40) hx hb (by decide) dX7_would_33 (by decide) (by decide) ?_
          refine lv_aload_n hx hb dX7_would_40 rfl (lv_at hl 0 rfl) ?_
          refine lv_iload_n hx hb dX7_would_41 rfl (lv_at hl 1 rfl) ?_
          refine lv_iload_n hx hb dX7_would_42 rfl (lv_at hl 2 rfl) ?_
          refine lv_iload_n hx hb dX7_would_43 rfl (lv_at hl 3 rfl) ?_
          refine lv_i2l hx hb dX7_would_44 rfl ?_
          refine lv_lconst (v := 0) hx hb dX7_would_45 (by decide) ?_
          have hPc := hP.sub (ws' := [(A_self, .inr (7, o7 q v w)), (q 9, .inl (c 1, 10, .inl f_many)), (q 12, .inl (c 1, 400, .inl f_from)), (q 13, .inl (c 1, 400, .inl f_to)), (q 14, .inl (c 1, 9000, .inl f_op)), (q 15, .inl (c 1, 9000, .inl f_number)), (q 40, .inl (c 2, 400, .inr (.inl f_pile))), (q 31, .inl (c 1, 400, .inl f_left)), (q 28, .inl (c 1, 400, .inl f_debtor)), (q 32, .inl (c 1, 400, .inl f_made)), (q 29, .inl (c 1, 400, .inl f_kind)), (q 36, .inl (c 3, 16, .inl f_held)), (q 33, .inl (c 1, 400, .inl f_pledge))]) [0, 1, 2, 3, 4, 5, 6, 7, 8, 9, 10, 11, 12] rfl
          have hDc := hD.sub (ws' := [(A_self, .inr (7, o7 q v w)), (q 9, .inl (c 1, 10, .inl f_many)), (q 12, .inl (c 1, 400, .inl f_from)), (q 13, .inl (c 1, 400, .inl f_to)), (q 14, .inl (c 1, 9000, .inl f_op)), (q 15, .inl (c 1, 9000, .inl f_number)), (q 40, .inl (c 2, 400, .inr (.inl f_pile))), (q 31, .inl (c 1, 400, .inl f_left)), (q 28, .inl (c 1, 400, .inl f_debtor)), (q 32, .inl (c 1, 400, .inl f_made)), (q 29, .inl (c 1, 400, .inl f_kind)), (q 36, .inl (c 3, 16, .inl f_held)), (q 33, .inl (c 1, 400, .inl f_pledge))]) [0, 1, 2, 3, 4, 5, 6, 7, 8, 9, 10, 11, 12] (by decide) rfl
          have hFc := va_free (wc := [(A_self, .inr (7, o7 q v w)), (q 9, .inl (c 1, 10, .inl f_many)), (q 12, .inl (c 1, 400, .inl f_from)), (q 13, .inl (c 1, 400, .inl f_to)), (q 14, .inl (c 1, 9000, .inl f_op)), (q 15, .inl (c 1, 9000, .inl f_number)), (q 40, .inl (c 2, 400, .inr (.inl f_pile))), (q 31, .inl (c 1, 400, .inl f_left)), (q 28, .inl (c 1, 400, .inl f_debtor)), (q 32, .inl (c 1, 400, .inl f_made)), (q 29, .inl (c 1, 400, .inl f_kind)), (q 36, .inl (c 3, 16, .inl f_held)), (q 33, .inl (c 1, 400, .inl f_pledge))]) hD hS hA [0, 1, 2, 3, 4, 5, 6, 7, 8, 9, 10, 11, 12] rfl
          refine va_calli (va_runV (As := [.int a1, .int a2, .long a3.toInt64, .long 0]) (rest := []) ⟨hx, hb, hml, hown, hts⟩ (k_X7_first l D c ts s.heap.size A_self q v w f_many f_from f_to f_op f_number f_pile f_left f_debtor f_made f_kind f_held f_pledge a1 i_a1 hi_a1 a2 i_a2 hi_a2 a3.toInt64 0 (show 0 ≤ (v 2).toInt ∧ (v 2).toInt ≤ 800 by omega) (show 0 ≤ (v 8).toInt ∧ (v 8).toInt ≤ 10 by omega) (show 0 ≤ (v 21).toInt ∧ (v 21).toInt ≤ 40 by omega) (show 0 ≤ (v 24).toInt ∧ (v 24).toInt ≤ 1000 by omega) (show 0 ≤ (v 27).toInt ∧ (v 27).toInt ≤ 400 by omega) (show 0 ≤ (v 42).toInt ∧ (v 42).toInt ≤ 4000 by omega) (show 0 ≤ (v 52).toInt ∧ (v 52).toInt ≤ 2000 by omega) hc_many hc_debtor hc_pledge (show -1 ≤ i_a1 ∧ i_a1 ≤ 9 by omega) (show 0 ≤ i_a2 ∧ i_a2 ≤ 399 by omega) (show TCd f_many f_from f_to f_op 9000 from hq0)) (cwV 4 hts gX7_would_X7_first rfl rfl rfl ⟨rfl, hdX7_first⟩ ⟨(show 3 + 1 ≤ 4 by decide), (show 8 + (8 + 11) + 77 ≤ 104 by decide)⟩) ⟨Pre0.blind, va_recv hK hPc (ci := 7) (q0 := 0) rfl rfl, Pre0.at hPc hDc hAm hSt hS hFc⟩ rfl rfl hl.1 rfl (lv_room (Nat.le_of_ble_eq_true rfl)) dX7_would_46 ⟨(show 0 + 0 ≤ 0 by decide), (show 0 + 0 ≤ 0 by decide)⟩) hS (fun q _ h => hFc q h) hFc (fun r_13 u_14 t1 H locs ht hvm hw_12 hB_9 hz1_9 hk1_9 hS => ?_)
          obtain ⟨y_15, f_16, _⟩ := u_14
          have hw_12 : (r_13.toInt < 0 ∨ (0 ≤ i_a1 ∧ r_13.toInt ≤ 39)) ∧ (-2 ≤ r_13.toInt ∧ r_13.toInt ≤ 39) := hw_12
          obtain ⟨hw_17, hw_18⟩ := hw_12
          obtain ⟨hP1_9, hD1_9⟩ := hB_9
          rw [ht] at hP1_9
          have hP1_9 : va_P D vwCl [(A_self, .inr (7, o7 q (upd v 41 y_15) w)), (q 9, .inl (c 1, 10, .inl f_many)), (q 12, .inl (c 1, 400, .inl f_from)), (q 13, .inl (c 1, 400, .inl f_to)), (q 14, .inl (c 1, 9000, .inl f_op)), (q 15, .inl (c 1, 9000, .inl f_number)), (q 40, .inl (c 2, 400, .inr (.inl f_16))), (q 31, .inl (c 1, 400, .inl f_left)), (q 28, .inl (c 1, 400, .inl f_debtor)), (q 32, .inl (c 1, 400, .inl f_made)), (q 29, .inl (c 1, 400, .inl f_kind)), (q 36, .inl (c 3, 16, .inl f_held)), (q 33, .inl (c 1, 400, .inl f_pledge))] H := hP1_9
          obtain ⟨hP, hD⟩ := va_join (wr := []) (w1 := [(A_self, .inr (7, o7 q (upd v 41 y_15) w)), (q 9, .inl (c 1, 10, .inl f_many)), (q 12, .inl (c 1, 400, .inl f_from)), (q 13, .inl (c 1, 400, .inl f_to)), (q 14, .inl (c 1, 9000, .inl f_op)), (q 15, .inl (c 1, 9000, .inl f_number)), (q 40, .inl (c 2, 400, .inr (.inl f_16))), (q 31, .inl (c 1, 400, .inl f_left)), (q 28, .inl (c 1, 400, .inl f_debtor)), (q 32, .inl (c 1, 400, .inl f_made)), (q 29, .inl (c 1, 400, .inl f_kind)), (q 36, .inl (c 3, 16, .inl f_held)), (q 33, .inl (c 1, 400, .inl f_pledge))]) hP hD [0, 1, 2, 3, 4, 5, 6, 7, 8, 9, 10, 11, 12] [] rfl rfl (by decide) (by decide) hk1_9 hFc hP1_9 hD1_9
          have hP : va_P D vwCl [(A_self, .inr (7, o7 q (upd v 41 y_15) w)), (q 9, .inl (c 1, 10, .inl f_many)), (q 12, .inl (c 1, 400, .inl f_from)), (q 13, .inl (c 1, 400, .inl f_to)), (q 14, .inl (c 1, 9000, .inl f_op)), (q 15, .inl (c 1, 9000, .inl f_number)), (q 40, .inl (c 2, 400, .inr (.inl f_16))), (q 31, .inl (c 1, 400, .inl f_left)), (q 28, .inl (c 1, 400, .inl f_debtor)), (q 32, .inl (c 1, 400, .inl f_made)), (q 29, .inl (c 1, 400, .inl f_kind)), (q 36, .inl (c 3, 16, .inl f_held)), (q 33, .inl (c 1, 400, .inl f_pledge))] H := hP
          have hD : va_D A [(A_self, .inr (7, o7 q (upd v 41 y_15) w)), (q 9, .inl (c 1, 10, .inl f_many)), (q 12, .inl (c 1, 400, .inl f_from)), (q 13, .inl (c 1, 400, .inl f_to)), (q 14, .inl (c 1, 9000, .inl f_op)), (q 15, .inl (c 1, 9000, .inl f_number)), (q 40, .inl (c 2, 400, .inr (.inl f_16))), (q 31, .inl (c 1, 400, .inl f_left)), (q 28, .inl (c 1, 400, .inl f_debtor)), (q 32, .inl (c 1, 400, .inl f_made)), (q 29, .inl (c 1, 400, .inl f_kind)), (q 36, .inl (c 3, 16, .inl f_held)), (q 33, .inl (c 1, 400, .inl f_pledge))] := hD
          refine W.widen (k := 0) (n := 0) (by omega) (by omega) ?_
          have hP9 := hP.sub (ws' := [(A_self, .inr (7, o7 q (upd v 41 y_15) w)), (q 9, .inl (c 1, 10, .inl f_many)), (q 12, .inl (c 1, 400, .inl f_from)), (q 13, .inl (c 1, 400, .inl f_to)), (q 14, .inl (c 1, 9000, .inl f_op)), (q 15, .inl (c 1, 9000, .inl f_number)), (q 40, .inl (c 2, 400, .inr (.inl f_16))), (q 31, .inl (c 1, 400, .inl f_left)), (q 28, .inl (c 1, 400, .inl f_debtor)), (q 32, .inl (c 1, 400, .inl f_made)), (q 29, .inl (c 1, 400, .inl f_kind)), (q 36, .inl (c 3, 16, .inl f_held)), (q 33, .inl (c 1, 400, .inl f_pledge))]) [0, 1, 2, 3, 4, 5, 6, 7, 8, 9, 10, 11, 12] rfl
          have hD9 := hD.sub (ws' := [(A_self, .inr (7, o7 q (upd v 41 y_15) w)), (q 9, .inl (c 1, 10, .inl f_many)), (q 12, .inl (c 1, 400, .inl f_from)), (q 13, .inl (c 1, 400, .inl f_to)), (q 14, .inl (c 1, 9000, .inl f_op)), (q 15, .inl (c 1, 9000, .inl f_number)), (q 40, .inl (c 2, 400, .inr (.inl f_16))), (q 31, .inl (c 1, 400, .inl f_left)), (q 28, .inl (c 1, 400, .inl f_debtor)), (q 32, .inl (c 1, 400, .inl f_made)), (q 29, .inl (c 1, 400, .inl f_kind)), (q 36, .inl (c 3, 16, .inl f_held)), (q 33, .inl (c 1, 400, .inl f_pledge))]) [0, 1, 2, 3, 4, 5, 6, 7, 8, 9, 10, 11, 12] (by decide) rfl
          refine W.widen (k := 0) (n := 0) (by omega) (by omega) ?_
          exact W.iret (v := r_13) hx hb hr (fun t ht hW => ⟨⟨_, (y_15, f_16, ()), rfl, trivial, ⟨by rw [ht]; exact hP9, hD9⟩⟩, hS.F ht⟩) hS.2.2 dX7_would_49
        · skip
          refine iif_neF (a := 0) (tgt := 40) hx hb (by decide) dX7_would_33 (by decide) (by decide) ?_
          refine lv_iconst (v := (-1)) hx hb dX7_would_36 (by decide) ?_
          refine lv_goto (tgt := 49) hx hb dX7_would_37 (by decide) ?_
          have kzz_19 : ((-1) : Int32).toInt = (-1) := by decide
          have hP9 := hP.sub (ws' := [(A_self, .inr (7, o7 q v w)), (q 9, .inl (c 1, 10, .inl f_many)), (q 12, .inl (c 1, 400, .inl f_from)), (q 13, .inl (c 1, 400, .inl f_to)), (q 14, .inl (c 1, 9000, .inl f_op)), (q 15, .inl (c 1, 9000, .inl f_number)), (q 40, .inl (c 2, 400, .inr (.inl f_pile))), (q 31, .inl (c 1, 400, .inl f_left)), (q 28, .inl (c 1, 400, .inl f_debtor)), (q 32, .inl (c 1, 400, .inl f_made)), (q 29, .inl (c 1, 400, .inl f_kind)), (q 36, .inl (c 3, 16, .inl f_held)), (q 33, .inl (c 1, 400, .inl f_pledge))]) [0, 1, 2, 3, 4, 5, 6, 7, 8, 9, 10, 11, 12] rfl
          have hD9 := hD.sub (ws' := [(A_self, .inr (7, o7 q v w)), (q 9, .inl (c 1, 10, .inl f_many)), (q 12, .inl (c 1, 400, .inl f_from)), (q 13, .inl (c 1, 400, .inl f_to)), (q 14, .inl (c 1, 9000, .inl f_op)), (q 15, .inl (c 1, 9000, .inl f_number)), (q 40, .inl (c 2, 400, .inr (.inl f_pile))), (q 31, .inl (c 1, 400, .inl f_left)), (q 28, .inl (c 1, 400, .inl f_debtor)), (q 32, .inl (c 1, 400, .inl f_made)), (q 29, .inl (c 1, 400, .inl f_kind)), (q 36, .inl (c 3, 16, .inl f_held)), (q 33, .inl (c 1, 400, .inl f_pledge))]) [0, 1, 2, 3, 4, 5, 6, 7, 8, 9, 10, 11, 12] (by decide) rfl
          refine W.widen (k := 0) (n := 0) (by omega) (by omega) ?_
          exact W.iret (v := (-1)) hx hb hr (fun t ht hW => ⟨⟨_, ((v 41), f_pile, ()), rfl, trivial, ⟨by rw [ht]; exact hP9, hD9⟩⟩, hS.F ht⟩) hS.2.2 dX7_would_49
    · skip
      refine iif_eqT (a := 0) (tgt := 36) hx hb (by decide) dX7_would_13 (by decide) (by decide) ?_
      refine lv_iconst (v := (-1)) hx hb dX7_would_36 (by decide) ?_
      refine lv_goto (tgt := 49) hx hb dX7_would_37 (by decide) ?_
      have kzz_20 : ((-1) : Int32).toInt = (-1) := by decide
      have hP9 := hP.sub (ws' := [(A_self, .inr (7, o7 q v w)), (q 9, .inl (c 1, 10, .inl f_many)), (q 12, .inl (c 1, 400, .inl f_from)), (q 13, .inl (c 1, 400, .inl f_to)), (q 14, .inl (c 1, 9000, .inl f_op)), (q 15, .inl (c 1, 9000, .inl f_number)), (q 40, .inl (c 2, 400, .inr (.inl f_pile))), (q 31, .inl (c 1, 400, .inl f_left)), (q 28, .inl (c 1, 400, .inl f_debtor)), (q 32, .inl (c 1, 400, .inl f_made)), (q 29, .inl (c 1, 400, .inl f_kind)), (q 36, .inl (c 3, 16, .inl f_held)), (q 33, .inl (c 1, 400, .inl f_pledge))]) [0, 1, 2, 3, 4, 5, 6, 7, 8, 9, 10, 11, 12] rfl
      have hD9 := hD.sub (ws' := [(A_self, .inr (7, o7 q v w)), (q 9, .inl (c 1, 10, .inl f_many)), (q 12, .inl (c 1, 400, .inl f_from)), (q 13, .inl (c 1, 400, .inl f_to)), (q 14, .inl (c 1, 9000, .inl f_op)), (q 15, .inl (c 1, 9000, .inl f_number)), (q 40, .inl (c 2, 400, .inr (.inl f_pile))), (q 31, .inl (c 1, 400, .inl f_left)), (q 28, .inl (c 1, 400, .inl f_debtor)), (q 32, .inl (c 1, 400, .inl f_made)), (q 29, .inl (c 1, 400, .inl f_kind)), (q 36, .inl (c 3, 16, .inl f_held)), (q 33, .inl (c 1, 400, .inl f_pledge))]) [0, 1, 2, 3, 4, 5, 6, 7, 8, 9, 10, 11, 12] (by decide) rfl
      refine W.widen (k := 0) (n := 0) (by omega) (by omega) ?_
      exact W.iret (v := (-1)) hx hb hr (fun t ht hW => ⟨⟨_, ((v 41), f_pile, ()), rfl, trivial, ⟨by rw [ht]; exact hP9, hD9⟩⟩, hS.F ht⟩) hS.2.2 dX7_would_49
  · skip
    refine iif_eqT (a := 0) (tgt := 36) hx hb (by decide) dX7_would_5 (by decide) (by decide) ?_
    refine lv_iconst (v := (-1)) hx hb dX7_would_36 (by decide) ?_
    refine lv_goto (tgt := 49) hx hb dX7_would_37 (by decide) ?_
    have kzz_21 : ((-1) : Int32).toInt = (-1) := by decide
    have hP9 := hP.sub (ws' := [(A_self, .inr (7, o7 q v w)), (q 9, .inl (c 1, 10, .inl f_many)), (q 12, .inl (c 1, 400, .inl f_from)), (q 13, .inl (c 1, 400, .inl f_to)), (q 14, .inl (c 1, 9000, .inl f_op)), (q 15, .inl (c 1, 9000, .inl f_number)), (q 40, .inl (c 2, 400, .inr (.inl f_pile))), (q 31, .inl (c 1, 400, .inl f_left)), (q 28, .inl (c 1, 400, .inl f_debtor)), (q 32, .inl (c 1, 400, .inl f_made)), (q 29, .inl (c 1, 400, .inl f_kind)), (q 36, .inl (c 3, 16, .inl f_held)), (q 33, .inl (c 1, 400, .inl f_pledge))]) [0, 1, 2, 3, 4, 5, 6, 7, 8, 9, 10, 11, 12] rfl
    have hD9 := hD.sub (ws' := [(A_self, .inr (7, o7 q v w)), (q 9, .inl (c 1, 10, .inl f_many)), (q 12, .inl (c 1, 400, .inl f_from)), (q 13, .inl (c 1, 400, .inl f_to)), (q 14, .inl (c 1, 9000, .inl f_op)), (q 15, .inl (c 1, 9000, .inl f_number)), (q 40, .inl (c 2, 400, .inr (.inl f_pile))), (q 31, .inl (c 1, 400, .inl f_left)), (q 28, .inl (c 1, 400, .inl f_debtor)), (q 32, .inl (c 1, 400, .inl f_made)), (q 29, .inl (c 1, 400, .inl f_kind)), (q 36, .inl (c 3, 16, .inl f_held)), (q 33, .inl (c 1, 400, .inl f_pledge))]) [0, 1, 2, 3, 4, 5, 6, 7, 8, 9, 10, 11, 12] (by decide) rfl
    refine W.widen (k := 0) (n := 0) (by omega) (by omega) ?_
    exact W.iret (v := (-1)) hx hb hr (fun t ht hW => ⟨⟨_, ((v 41), f_pile, ()), rfl, trivial, ⟨by rw [ht]; exact hP9, hD9⟩⟩, hS.F ht⟩) hS.2.2 dX7_would_49
