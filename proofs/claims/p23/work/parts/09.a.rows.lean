set_option maxHeartbeats 4000000 in
set_option maxRecDepth 100000 in
theorem k_X7_in (l : Launch) (D : va_G) (c : Nat → ClassId) (ts : Nat × Nat) (sz : Nat)  (a1 : Int32) (i_a1 : Int) (hi_a1 : a1.toInt = i_a1) (a2 : Int32) (i_a2 : Int) (hi_a2 : a2.toInt = i_a2) (a3 : Int32) (i_a3 : Int) (hi_a3 : a3.toInt = i_a3) : Met l yX7_in wsX7_in ({ frames := 0, cells := 0, slots := 0, locals := 0 }) (va_Pc [.int a1, .int a2, .int a3] (Pre0 D c ts [] sz)) (vp_Si (fun r : Int32 => (((i_a2 ≤ i_a1 ∧ i_a1 ≤ i_a3) ∧ r = 1) ∨ ((¬ (i_a2 ≤ i_a1 ∧ i_a1 ≤ i_a3)) ∧ r = 0)))) 0 0 (fun _ => False) := by
  refine Met.ofW (cc := cX7_in) (maxL := 3) (ret := (some .boolean)) (by decide) rfl ?_
  intro p e s m args below meth cd s₁ B hml hv
  obtain ⟨rfl, hsz, hP, hD0, hAm, hSt⟩ := hv
  have hx := B.exec
  have hb := B.bytes
  have hr := B.returns
  have hts := atoms_spec (ws := wsX7_in) B.pre
  have hown : s.vm.findClass RX7 = some m.cls := findClass_of_methodNamed B.named
  have hlocks := B.notSynchronized
  have hK := hAm.1
  subst hsz
  have hD := hD0.self (sz := s.heap.size)
  generalize hAe : va_A [] s.heap.size = A at hD hSt
  have hA : ∀ q : Nat, s.heap.size ≤ q → A q := fun q h => by rw [← hAe]; exact Or.inr h
  have hS : va_S A s.heap s.heap [] := va_S.rf
  clear hD0 hAe
  have hl := lv_entry ([.int a1, .int a2, .int a3]) (n := 3) (Nat.le_of_ble_eq_true rfl)
  rw [lg_entry_eq]
  generalize (lg_sl ([.int a1, .int a2, .int a3]) ++ List.replicate (3 - (lg_sl ([.int a1, .int a2, .int a3])).length) Slot.unset).toArray = ls at hl ⊢
  have hl : lv_has ls 3 [(0, .int a1), (1, .int a2), (2, .int a3)] := hl
  have rg_a1 := i32r a1
  have rg_a2 := i32r a2
  have rg_a3 := i32r a3
  refine lv_iload_n hx hb dX7_in_0 rfl (lv_at hl 0 rfl) ?_
  refine lv_iload_n hx hb dX7_in_1 rfl (lv_at hl 1 rfl) ?_
  refine iicmp_lt (a := i_a1) (b := i_a2) (tgt := 14) hx hb hi_a1 hi_a2 dX7_in_2 (by decide) (fun k_1 => ?_) (fun k_1 => ?_)
  · skip
    refine lv_iconst (v := 0) hx hb dX7_in_14 (by decide) ?_
    have kzz_2 : (0 : Int32).toInt = 0 := by decide
    exact W.zret (v := 0) hx hb hr (by decide) (fun t ht hW => ⟨_, rfl, Or.inr (⟨by omega, rfl⟩), ht⟩) (fun _ h => by cases h) dX7_in_15
  · skip
    refine lv_iload_n hx hb dX7_in_5 rfl (lv_at hl 0 rfl) ?_
    refine lv_iload_n hx hb dX7_in_6 rfl (lv_at hl 2 rfl) ?_
    refine iicmp_gt (a := i_a1) (b := i_a3) (tgt := 14) hx hb hi_a1 hi_a3 dX7_in_7 (by decide) (fun k_3 => ?_) (fun k_3 => ?_)
    · skip
      refine lv_iconst (v := 0) hx hb dX7_in_14 (by decide) ?_
      have kzz_4 : (0 : Int32).toInt = 0 := by decide
      exact W.zret (v := 0) hx hb hr (by decide) (fun t ht hW => ⟨_, rfl, Or.inr (⟨by omega, rfl⟩), ht⟩) (fun _ h => by cases h) dX7_in_15
    · skip
      refine lv_iconst (v := 1) hx hb dX7_in_10 (by decide) ?_
      refine lv_goto (tgt := 15) hx hb dX7_in_11 (by decide) ?_
      have kzz_5 : (1 : Int32).toInt = 1 := by decide
      exact W.zret (v := 1) hx hb hr (by decide) (fun t ht hW => ⟨_, rfl, Or.inl ⟨by omega, rfl⟩, ht⟩) (fun _ h => by cases h) dX7_in_15

set_option maxHeartbeats 4000000 in
set_option maxRecDepth 100000 in
theorem k_X7_isPerson (l : Launch) (D : va_G) (c : Nat → ClassId) (ts : Nat × Nat) (sz : Nat)  (a1 : Int32) (i_a1 : Int) (hi_a1 : a1.toInt = i_a1) : Met l yX7_isPerson wsX7_isPerson ({ frames := 1, cells := 0, slots := 0, locals := 22 }) (va_Pc [.int a1] (Pre0 D c ts [] sz)) (vp_Si (fun r : Int32 => (((0 ≤ i_a1 ∧ i_a1 ≤ 15) ∧ r = 1) ∨ ((¬ (0 ≤ i_a1 ∧ i_a1 ≤ 15)) ∧ r = 0)))) 0 0 (fun _ => False) := by
  refine Met.ofW (cc := cX7_isPerson) (maxL := 1) (ret := (some .boolean)) (by decide) rfl ?_
  intro p e s m args below meth cd s₁ B hml hv
  obtain ⟨rfl, hsz, hP, hD0, hAm, hSt⟩ := hv
  have hx := B.exec
  have hb := B.bytes
  have hr := B.returns
  have hts := atoms_spec (ws := wsX7_isPerson) B.pre
  have hown : s.vm.findClass RX7 = some m.cls := findClass_of_methodNamed B.named
  have hlocks := B.notSynchronized
  have hK := hAm.1
  subst hsz
  have hD := hD0.self (sz := s.heap.size)
  generalize hAe : va_A [] s.heap.size = A at hD hSt
  have hA : ∀ q : Nat, s.heap.size ≤ q → A q := fun q h => by rw [← hAe]; exact Or.inr h
  have hS : va_S A s.heap s.heap [] := va_S.rf
  clear hD0 hAe
  have hl := lv_entry ([.int a1]) (n := 1) (Nat.le_of_ble_eq_true rfl)
  rw [lg_entry_eq]
  generalize (lg_sl ([.int a1]) ++ List.replicate (1 - (lg_sl ([.int a1])).length) Slot.unset).toArray = ls at hl ⊢
  have hl : lv_has ls 1 [(0, .int a1)] := hl
  have rg_a1 := i32r a1
  refine lv_iload_n hx hb dX7_isPerson_0 rfl (lv_at hl 0 rfl) ?_
  refine lv_iconst (v := 0) hx hb dX7_isPerson_1 (by decide) ?_
  refine lv_bipush (v := 15) hx hb dX7_isPerson_2 (by decide) ?_
  have hPc := hP.sub (ws' := []) [] rfl
  have hDc := hD.sub (ws' := []) [] (by decide) rfl
  have hFc := va_free (wc := []) hD hS hA [] rfl
  have kzz_1 : (0 : Int32).toInt = 0 := by decide
  have kzz_2 : (15 : Int32).toInt = 15 := by decide
  refine va_csi (va_runS (As := [.int a1, .int 0, .int 15]) (rest := []) ⟨hx, hb, hml, hown, hts⟩ (k_X7_in l D c ts s.heap.size a1 i_a1 hi_a1 0 0 (by decide) 15 15 (by decide)) (cwS 3 hts gX7_isPerson_X7_in rfl rfl rfl ⟨rfl, hdX7_in⟩ ⟨(show 0 + 1 ≤ 1 by decide), (show 8 + (3 + 11) + 0 ≤ 22 by decide)⟩) ⟨Pre0.blind, Pre0.at hPc hDc hAm hSt hS hFc⟩ rfl rfl hl.1 rfl (lv_room (Nat.le_of_ble_eq_true rfl)) dX7_isPerson_4 ⟨(show 0 + 0 ≤ 0 by decide), (show 0 + 0 ≤ 0 by decide)⟩) (fun r_4 hw_3 => ?_)
  rcases hw_3 with ⟨hw_3, rfl⟩ | ⟨hw_3, rfl⟩
  · skip
    have kzz_5 : (1 : Int32).toInt = 1 := by decide
    exact W.zret (v := 1) hx hb hr (by decide) (fun t ht hW => ⟨_, rfl, Or.inl ⟨by omega, rfl⟩, ht⟩) (fun _ h => by cases h) dX7_isPerson_7
  · skip
    have kzz_6 : (0 : Int32).toInt = 0 := by decide
    exact W.zret (v := 0) hx hb hr (by decide) (fun t ht hW => ⟨_, rfl, Or.inr (⟨by omega, rfl⟩), ht⟩) (fun _ h => by cases h) dX7_isPerson_7

set_option maxHeartbeats 4000000 in
set_option maxRecDepth 100000 in
theorem k_X7_isLetter (l : Launch) (D : va_G) (c : Nat → ClassId) (ts : Nat × Nat) (sz : Nat)  (a1 : Int32) (i_a1 : Int) (hi_a1 : a1.toInt = i_a1) : Met l yX7_isLetter wsX7_isLetter ({ frames := 0, cells := 0, slots := 0, locals := 0 }) (va_Pc [.int a1] (Pre0 D c ts [] sz)) (vp_Si (fun r : Int32 => (((97 ≤ i_a1 ∧ i_a1 ≤ 122) ∧ r = 1) ∨ ((¬ (97 ≤ i_a1 ∧ i_a1 ≤ 122)) ∧ r = 0)))) 0 0 (fun _ => False) := by
  refine Met.ofW (cc := cX7_isLetter) (maxL := 1) (ret := (some .boolean)) (by decide) rfl ?_
  intro p e s m args below meth cd s₁ B hml hv
  obtain ⟨rfl, hsz, hP, hD0, hAm, hSt⟩ := hv
  have hx := B.exec
  have hb := B.bytes
  have hr := B.returns
  have hts := atoms_spec (ws := wsX7_isLetter) B.pre
  have hown : s.vm.findClass RX7 = some m.cls := findClass_of_methodNamed B.named
  have hlocks := B.notSynchronized
  have hK := hAm.1
  subst hsz
  have hD := hD0.self (sz := s.heap.size)
  generalize hAe : va_A [] s.heap.size = A at hD hSt
  have hA : ∀ q : Nat, s.heap.size ≤ q → A q := fun q h => by rw [← hAe]; exact Or.inr h
  have hS : va_S A s.heap s.heap [] := va_S.rf
  clear hD0 hAe
  have hl := lv_entry ([.int a1]) (n := 1) (Nat.le_of_ble_eq_true rfl)
  rw [lg_entry_eq]
  generalize (lg_sl ([.int a1]) ++ List.replicate (1 - (lg_sl ([.int a1])).length) Slot.unset).toArray = ls at hl ⊢
  have hl : lv_has ls 1 [(0, .int a1)] := hl
  have rg_a1 := i32r a1
  refine lv_iload_n hx hb dX7_isLetter_0 rfl (lv_at hl 0 rfl) ?_
  refine lv_bipush (v := 97) hx hb dX7_isLetter_1 (by decide) ?_
  refine iicmp_lt (a := i_a1) (b := 97) (tgt := 16) hx hb hi_a1 (by decide) dX7_isLetter_3 (by decide) (fun k_1 => ?_) (fun k_1 => ?_)
  · skip
    refine lv_iconst (v := 0) hx hb dX7_isLetter_16 (by decide) ?_
    have kzz_2 : (0 : Int32).toInt = 0 := by decide
    exact W.zret (v := 0) hx hb hr (by decide) (fun t ht hW => ⟨_, rfl, Or.inr (⟨by omega, rfl⟩), ht⟩) (fun _ h => by cases h) dX7_isLetter_17
  · skip
    refine lv_iload_n hx hb dX7_isLetter_6 rfl (lv_at hl 0 rfl) ?_
    refine lv_bipush (v := 122) hx hb dX7_isLetter_7 (by decide) ?_
    refine iicmp_gt (a := i_a1) (b := 122) (tgt := 16) hx hb hi_a1 (by decide) dX7_isLetter_9 (by decide) (fun k_3 => ?_) (fun k_3 => ?_)
    · skip
      refine lv_iconst (v := 0) hx hb dX7_isLetter_16 (by decide) ?_
      have kzz_4 : (0 : Int32).toInt = 0 := by decide
      exact W.zret (v := 0) hx hb hr (by decide) (fun t ht hW => ⟨_, rfl, Or.inr (⟨by omega, rfl⟩), ht⟩) (fun _ h => by cases h) dX7_isLetter_17
    · skip
      refine lv_iconst (v := 1) hx hb dX7_isLetter_12 (by decide) ?_
      refine lv_goto (tgt := 17) hx hb dX7_isLetter_13 (by decide) ?_
      have kzz_5 : (1 : Int32).toInt = 1 := by decide
      exact W.zret (v := 1) hx hb hr (by decide) (fun t ht hW => ⟨_, rfl, Or.inl ⟨by omega, rfl⟩, ht⟩) (fun _ h => by cases h) dX7_isLetter_17

set_option maxHeartbeats 4000000 in
set_option maxRecDepth 100000 in
theorem k_X7_isDigit (l : Launch) (D : va_G) (c : Nat → ClassId) (ts : Nat × Nat) (sz : Nat)  (a1 : Int32) (i_a1 : Int) (hi_a1 : a1.toInt = i_a1) : Met l yX7_isDigit wsX7_isDigit ({ frames := 0, cells := 0, slots := 0, locals := 0 }) (va_Pc [.int a1] (Pre0 D c ts [] sz)) (vp_Si (fun r : Int32 => (((48 ≤ i_a1 ∧ i_a1 ≤ 57) ∧ r = 1) ∨ ((¬ (48 ≤ i_a1 ∧ i_a1 ≤ 57)) ∧ r = 0)))) 0 0 (fun _ => False) := by
  refine Met.ofW (cc := cX7_isDigit) (maxL := 1) (ret := (some .boolean)) (by decide) rfl ?_
  intro p e s m args below meth cd s₁ B hml hv
  obtain ⟨rfl, hsz, hP, hD0, hAm, hSt⟩ := hv
  have hx := B.exec
  have hb := B.bytes
  have hr := B.returns
  have hts := atoms_spec (ws := wsX7_isDigit) B.pre
  have hown : s.vm.findClass RX7 = some m.cls := findClass_of_methodNamed B.named
  have hlocks := B.notSynchronized
  have hK := hAm.1
  subst hsz
  have hD := hD0.self (sz := s.heap.size)
  generalize hAe : va_A [] s.heap.size = A at hD hSt
  have hA : ∀ q : Nat, s.heap.size ≤ q → A q := fun q h => by rw [← hAe]; exact Or.inr h
  have hS : va_S A s.heap s.heap [] := va_S.rf
  clear hD0 hAe
  have hl := lv_entry ([.int a1]) (n := 1) (Nat.le_of_ble_eq_true rfl)
  rw [lg_entry_eq]
  generalize (lg_sl ([.int a1]) ++ List.replicate (1 - (lg_sl ([.int a1])).length) Slot.unset).toArray = ls at hl ⊢
  have hl : lv_has ls 1 [(0, .int a1)] := hl
  have rg_a1 := i32r a1
  refine lv_iload_n hx hb dX7_isDigit_0 rfl (lv_at hl 0 rfl) ?_
  refine lv_bipush (v := 48) hx hb dX7_isDigit_1 (by decide) ?_
  refine iicmp_lt (a := i_a1) (b := 48) (tgt := 16) hx hb hi_a1 (by decide) dX7_isDigit_3 (by decide) (fun k_1 => ?_) (fun k_1 => ?_)
  · skip
    refine lv_iconst (v := 0) hx hb dX7_isDigit_16 (by decide) ?_
    have kzz_2 : (0 : Int32).toInt = 0 := by decide
    exact W.zret (v := 0) hx hb hr (by decide) (fun t ht hW => ⟨_, rfl, Or.inr (⟨by omega, rfl⟩), ht⟩) (fun _ h => by cases h) dX7_isDigit_17
  · skip
    refine lv_iload_n hx hb dX7_isDigit_6 rfl (lv_at hl 0 rfl) ?_
    refine lv_bipush (v := 57) hx hb dX7_isDigit_7 (by decide) ?_
    refine iicmp_gt (a := i_a1) (b := 57) (tgt := 16) hx hb hi_a1 (by decide) dX7_isDigit_9 (by decide) (fun k_3 => ?_) (fun k_3 => ?_)
    · skip
      refine lv_iconst (v := 0) hx hb dX7_isDigit_16 (by decide) ?_
      have kzz_4 : (0 : Int32).toInt = 0 := by decide
      exact W.zret (v := 0) hx hb hr (by decide) (fun t ht hW => ⟨_, rfl, Or.inr (⟨by omega, rfl⟩), ht⟩) (fun _ h => by cases h) dX7_isDigit_17
    · skip
      refine lv_iconst (v := 1) hx hb dX7_isDigit_12 (by decide) ?_
      refine lv_goto (tgt := 17) hx hb dX7_isDigit_13 (by decide) ?_
      have kzz_5 : (1 : Int32).toInt = 1 := by decide
      exact W.zret (v := 1) hx hb hr (by decide) (fun t ht hW => ⟨_, rfl, Or.inl ⟨by omega, rfl⟩, ht⟩) (fun _ h => by cases h) dX7_isDigit_17

set_option maxHeartbeats 4000000 in
set_option maxRecDepth 100000 in
theorem k_X7_wordOf (l : Launch) (D : va_G) (c : Nat → ClassId) (ts : Nat × Nat) (sz : Nat)  (a1 : Int64) : Met l yX7_wordOf wsX7_wordOf ({ frames := 0, cells := 0, slots := 0, locals := 0 }) (va_Pc [.long a1] (Pre0 D c ts [] sz)) (vp_Si (fun r : Int32 => True)) 0 0 (fun _ => False) := by
  refine Met.ofW (cc := cX7_wordOf) (maxL := 2) (ret := (some .int)) (by decide) rfl ?_
  intro p e s m args below meth cd s₁ B hml hv
  obtain ⟨rfl, hsz, hP, hD0, hAm, hSt⟩ := hv
  have hx := B.exec
  have hb := B.bytes
  have hr := B.returns
  have hts := atoms_spec (ws := wsX7_wordOf) B.pre
  have hown : s.vm.findClass RX7 = some m.cls := findClass_of_methodNamed B.named
  have hlocks := B.notSynchronized
  have hK := hAm.1
  subst hsz
  have hD := hD0.self (sz := s.heap.size)
  generalize hAe : va_A [] s.heap.size = A at hD hSt
  have hA : ∀ q : Nat, s.heap.size ≤ q → A q := fun q h => by rw [← hAe]; exact Or.inr h
  have hS : va_S A s.heap s.heap [] := va_S.rf
  clear hD0 hAe
  have hl := lv_entry ([.long a1]) (n := 2) (Nat.le_of_ble_eq_true rfl)
  rw [lg_entry_eq]
  generalize (lg_sl ([.long a1]) ++ List.replicate (2 - (lg_sl ([.long a1])).length) Slot.unset).toArray = ls at hl ⊢
  have hl : lv_has ls 2 [(0, .long a1)] := hl
  refine lv_lload_n hx hb dX7_wordOf_0 rfl (lv_at hl 0 rfl) ?_
  refine lv_ldc2 (v := 11716) hx hb hown (hts (.constantLong RX7 166 (11716)) (mem_i 1 rfl)) dX7_wordOf_1 ?_
  refine W.lcmp hx hb dX7_wordOf_4 ?_
  refine lv_topi (fun x_1 ex_1 => ?_)
  have tx_1 := lcg_fact (n := x_1) ex_1 (show (a1 : Int64).toInt = a1.toInt from rfl) (show (11716 : Int64).toInt = 11716 from (by decide))
  refine iif_ne (a := x_1.toInt) (tgt := 11) hx hb rfl dX7_wordOf_5 (by decide) (fun k_2 => ?_) (fun k_2 => ?_)
  · skip
    refine lv_lload_n hx hb dX7_wordOf_11 rfl (lv_at hl 0 rfl) ?_
    refine lv_ldc2 (v := 453701) hx hb hown (hts (.constantLong RX7 168 (453701)) (mem_i 2 rfl)) dX7_wordOf_12 ?_
    refine W.lcmp hx hb dX7_wordOf_15 ?_
    refine lv_topi (fun x_3 ex_3 => ?_)
    have tx_3 := lcg_fact (n := x_3) ex_3 (show (a1 : Int64).toInt = a1.toInt from rfl) (show (453701 : Int64).toInt = 453701 from (by decide))
    refine iif_ne (a := x_3.toInt) (tgt := 22) hx hb rfl dX7_wordOf_16 (by decide) (fun k_4 => ?_) (fun k_4 => ?_)
    · skip
      refine lv_lload_n hx hb dX7_wordOf_22 rfl (lv_at hl 0 rfl) ?_
      refine lv_ldc2 (v := 350183) hx hb hown (hts (.constantLong RX7 170 (350183)) (mem_i 3 rfl)) dX7_wordOf_23 ?_
      refine W.lcmp hx hb dX7_wordOf_26 ?_
      refine lv_topi (fun x_5 ex_5 => ?_)
      have tx_5 := lcg_fact (n := x_5) ex_5 (show (a1 : Int64).toInt = a1.toInt from rfl) (show (350183 : Int64).toInt = 350183 from (by decide))
      refine iif_ne (a := x_5.toInt) (tgt := 33) hx hb rfl dX7_wordOf_27 (by decide) (fun k_6 => ?_) (fun k_6 => ?_)
      · skip
        refine lv_lload_n hx hb dX7_wordOf_33 rfl (lv_at hl 0 rfl) ?_
        refine lv_ldc2 (v := 60114) hx hb hown (hts (.constantLong RX7 172 (60114)) (mem_i 4 rfl)) dX7_wordOf_34 ?_
        refine W.lcmp hx hb dX7_wordOf_37 ?_
        refine lv_topi (fun x_7 ex_7 => ?_)
        have tx_7 := lcg_fact (n := x_7) ex_7 (show (a1 : Int64).toInt = a1.toInt from rfl) (show (60114 : Int64).toInt = 60114 from (by decide))
        refine iif_ne (a := x_7.toInt) (tgt := 44) hx hb rfl dX7_wordOf_38 (by decide) (fun k_8 => ?_) (fun k_8 => ?_)
        · skip
          refine lv_lload_n hx hb dX7_wordOf_44 rfl (lv_at hl 0 rfl) ?_
          refine lv_ldc2 (v := 168727) hx hb hown (hts (.constantLong RX7 174 (168727)) (mem_i 5 rfl)) dX7_wordOf_45 ?_
          refine W.lcmp hx hb dX7_wordOf_48 ?_
          refine lv_topi (fun x_9 ex_9 => ?_)
          have tx_9 := lcg_fact (n := x_9) ex_9 (show (a1 : Int64).toInt = a1.toInt from rfl) (show (168727 : Int64).toInt = 168727 from (by decide))
          refine iif_ne (a := x_9.toInt) (tgt := 55) hx hb rfl dX7_wordOf_49 (by decide) (fun k_10 => ?_) (fun k_10 => ?_)
          · skip
            refine lv_lload_n hx hb dX7_wordOf_55 rfl (lv_at hl 0 rfl) ?_
            refine lv_ldc2 (v := 316163) hx hb hown (hts (.constantLong RX7 176 (316163)) (mem_i 6 rfl)) dX7_wordOf_56 ?_
            refine W.lcmp hx hb dX7_wordOf_59 ?_
            refine lv_topi (fun x_11 ex_11 => ?_)
            have tx_11 := lcg_fact (n := x_11) ex_11 (show (a1 : Int64).toInt = a1.toInt from rfl) (show (316163 : Int64).toInt = 316163 from (by decide))
            refine iif_ne (a := x_11.toInt) (tgt := 66) hx hb rfl dX7_wordOf_60 (by decide) (fun k_12 => ?_) (fun k_12 => ?_)
            · skip
              refine lv_lload_n hx hb dX7_wordOf_66 rfl (lv_at hl 0 rfl) ?_
              refine lv_ldc2 (v := 249) hx hb hown (hts (.constantLong RX7 178 (249)) (mem_i 7 rfl)) dX7_wordOf_67 ?_
              refine W.lcmp hx hb dX7_wordOf_70 ?_
              refine lv_topi (fun x_13 ex_13 => ?_)
              have tx_13 := lcg_fact (n := x_13) ex_13 (show (a1 : Int64).toInt = a1.toInt from rfl) (show (249 : Int64).toInt = 249 from (by decide))
              refine iif_ne (a := x_13.toInt) (tgt := 77) hx hb rfl dX7_wordOf_71 (by decide) (fun k_14 => ?_) (fun k_14 => ?_)
              · skip
                refine lv_lload_n hx hb dX7_wordOf_77 rfl (lv_at hl 0 rfl) ?_
                refine lv_ldc2 (v := 399641) hx hb hown (hts (.constantLong RX7 180 (399641)) (mem_i 8 rfl)) dX7_wordOf_78 ?_
                refine W.lcmp hx hb dX7_wordOf_81 ?_
                refine lv_topi (fun x_15 ex_15 => ?_)
                have tx_15 := lcg_fact (n := x_15) ex_15 (show (a1 : Int64).toInt = a1.toInt from rfl) (show (399641 : Int64).toInt = 399641 from (by decide))
                refine iif_ne (a := x_15.toInt) (tgt := 88) hx hb rfl dX7_wordOf_82 (by decide) (fun k_16 => ?_) (fun k_16 => ?_)
                · skip
                  refine lv_lload_n hx hb dX7_wordOf_88 rfl (lv_at hl 0 rfl) ?_
                  refine lv_ldc2 (v := 423) hx hb hown (hts (.constantLong RX7 182 (423)) (mem_i 9 rfl)) dX7_wordOf_89 ?_
                  refine W.lcmp hx hb dX7_wordOf_92 ?_
                  refine lv_topi (fun x_17 ex_17 => ?_)
                  have tx_17 := lcg_fact (n := x_17) ex_17 (show (a1 : Int64).toInt = a1.toInt from rfl) (show (423 : Int64).toInt = 423 from (by decide))
                  refine iif_ne (a := x_17.toInt) (tgt := 99) hx hb rfl dX7_wordOf_93 (by decide) (fun k_18 => ?_) (fun k_18 => ?_)
                  · skip
                    refine lv_lload_n hx hb dX7_wordOf_99 rfl (lv_at hl 0 rfl) ?_
                    refine lv_ldc2 (v := 1111) hx hb hown (hts (.constantLong RX7 184 (1111)) (mem_i 10 rfl)) dX7_wordOf_100 ?_
                    refine W.lcmp hx hb dX7_wordOf_103 ?_
                    refine lv_topi (fun x_19 ex_19 => ?_)
                    have tx_19 := lcg_fact (n := x_19) ex_19 (show (a1 : Int64).toInt = a1.toInt from rfl) (show (1111 : Int64).toInt = 1111 from (by decide))
                    refine iif_ne (a := x_19.toInt) (tgt := 110) hx hb rfl dX7_wordOf_104 (by decide) (fun k_20 => ?_) (fun k_20 => ?_)
                    · skip
                      refine lv_lload_n hx hb dX7_wordOf_110 rfl (lv_at hl 0 rfl) ?_
                      refine lv_ldc2 (v := 10631) hx hb hown (hts (.constantLong RX7 186 (10631)) (mem_i 11 rfl)) dX7_wordOf_111 ?_
                      refine W.lcmp hx hb dX7_wordOf_114 ?_
                      refine lv_topi (fun x_21 ex_21 => ?_)
                      have tx_21 := lcg_fact (n := x_21) ex_21 (show (a1 : Int64).toInt = a1.toInt from rfl) (show (10631 : Int64).toInt = 10631 from (by decide))
                      refine iif_ne (a := x_21.toInt) (tgt := 121) hx hb rfl dX7_wordOf_115 (by decide) (fun k_22 => ?_) (fun k_22 => ?_)
                      · skip
                        refine lv_lload_n hx hb dX7_wordOf_121 rfl (lv_at hl 0 rfl) ?_
                        refine lv_ldc2 (v := 312151) hx hb hown (hts (.constantLong RX7 188 (312151)) (mem_i 12 rfl)) dX7_wordOf_122 ?_
                        refine W.lcmp hx hb dX7_wordOf_125 ?_
                        refine lv_topi (fun x_23 ex_23 => ?_)
                        have tx_23 := lcg_fact (n := x_23) ex_23 (show (a1 : Int64).toInt = a1.toInt from rfl) (show (312151 : Int64).toInt = 312151 from (by decide))
                        refine iif_ne (a := x_23.toInt) (tgt := 132) hx hb rfl dX7_wordOf_126 (by decide) (fun k_24 => ?_) (fun k_24 => ?_)
                        · skip
                          refine lv_lload_n hx hb dX7_wordOf_132 rfl (lv_at hl 0 rfl) ?_
                          refine lv_ldc2 (v := 1065) hx hb hown (hts (.constantLong RX7 190 (1065)) (mem_i 13 rfl)) dX7_wordOf_133 ?_
                          refine W.lcmp hx hb dX7_wordOf_136 ?_
                          refine lv_topi (fun x_25 ex_25 => ?_)
                          have tx_25 := lcg_fact (n := x_25) ex_25 (show (a1 : Int64).toInt = a1.toInt from rfl) (show (1065 : Int64).toInt = 1065 from (by decide))
                          refine iif_ne (a := x_25.toInt) (tgt := 143) hx hb rfl dX7_wordOf_137 (by decide) (fun k_26 => ?_) (fun k_26 => ?_)
                          · skip
                            refine lv_lload_n hx hb dX7_wordOf_143 rfl (lv_at hl 0 rfl) ?_
                            refine lv_ldc2 (v := 923) hx hb hown (hts (.constantLong RX7 192 (923)) (mem_i 14 rfl)) dX7_wordOf_144 ?_
                            refine W.lcmp hx hb dX7_wordOf_147 ?_
                            refine lv_topi (fun x_27 ex_27 => ?_)
                            have tx_27 := lcg_fact (n := x_27) ex_27 (show (a1 : Int64).toInt = a1.toInt from rfl) (show (923 : Int64).toInt = 923 from (by decide))
                            refine iif_ne (a := x_27.toInt) (tgt := 154) hx hb rfl dX7_wordOf_148 (by decide) (fun k_28 => ?_) (fun k_28 => ?_)
                            · skip
                              refine lv_lload_n hx hb dX7_wordOf_154 rfl (lv_at hl 0 rfl) ?_
                              refine lv_ldc2 (v := 223456) hx hb hown (hts (.constantLong RX7 194 (223456)) (mem_i 15 rfl)) dX7_wordOf_155 ?_
                              refine W.lcmp hx hb dX7_wordOf_158 ?_
                              refine lv_topi (fun x_29 ex_29 => ?_)
                              have tx_29 := lcg_fact (n := x_29) ex_29 (show (a1 : Int64).toInt = a1.toInt from rfl) (show (223456 : Int64).toInt = 223456 from (by decide))
                              refine iif_ne (a := x_29.toInt) (tgt := 165) hx hb rfl dX7_wordOf_159 (by decide) (fun k_30 => ?_) (fun k_30 => ?_)
                              · skip
                                refine lv_lload_n hx hb dX7_wordOf_165 rfl (lv_at hl 0 rfl) ?_
                                refine lv_ldc2 (v := 1896526) hx hb hown (hts (.constantLong RX7 196 (1896526)) (mem_i 16 rfl)) dX7_wordOf_166 ?_
                                refine W.lcmp hx hb dX7_wordOf_169 ?_
                                refine lv_topi (fun x_31 ex_31 => ?_)
                                have tx_31 := lcg_fact (n := x_31) ex_31 (show (a1 : Int64).toInt = a1.toInt from rfl) (show (1896526 : Int64).toInt = 1896526 from (by decide))
                                refine iif_ne (a := x_31.toInt) (tgt := 176) hx hb rfl dX7_wordOf_170 (by decide) (fun k_32 => ?_) (fun k_32 => ?_)
                                · skip
                                  refine lv_lload_n hx hb dX7_wordOf_176 rfl (lv_at hl 0 rfl) ?_
                                  refine lv_ldc2 (v := 397804) hx hb hown (hts (.constantLong RX7 198 (397804)) (mem_i 17 rfl)) dX7_wordOf_177 ?_
                                  refine W.lcmp hx hb dX7_wordOf_180 ?_
                                  refine lv_topi (fun x_33 ex_33 => ?_)
                                  have tx_33 := lcg_fact (n := x_33) ex_33 (show (a1 : Int64).toInt = a1.toInt from rfl) (show (397804 : Int64).toInt = 397804 from (by decide))
                                  refine iif_ne (a := x_33.toInt) (tgt := 187) hx hb rfl dX7_wordOf_181 (by decide) (fun k_34 => ?_) (fun k_34 => ?_)
                                  · skip
                                    refine lv_lload_n hx hb dX7_wordOf_187 rfl (lv_at hl 0 rfl) ?_
                                    refine lv_ldc2 (v := 495765) hx hb hown (hts (.constantLong RX7 200 (495765)) (mem_i 18 rfl)) dX7_wordOf_188 ?_
                                    refine W.lcmp hx hb dX7_wordOf_191 ?_
                                    refine lv_topi (fun x_35 ex_35 => ?_)
                                    have tx_35 := lcg_fact (n := x_35) ex_35 (show (a1 : Int64).toInt = a1.toInt from rfl) (show (495765 : Int64).toInt = 495765 from (by decide))
                                    refine iif_ne (a := x_35.toInt) (tgt := 198) hx hb rfl dX7_wordOf_192 (by decide) (fun k_36 => ?_) (fun k_36 => ?_)
                                    · skip
                                      refine lv_lload_n hx hb dX7_wordOf_198 rfl (lv_at hl 0 rfl) ?_
                                      refine lv_ldc2 (v := 161437) hx hb hown (hts (.constantLong RX7 202 (161437)) (mem_i 19 rfl)) dX7_wordOf_199 ?_
                                      refine W.lcmp hx hb dX7_wordOf_202 ?_
                                      refine lv_topi (fun x_37 ex_37 => ?_)
                                      have tx_37 := lcg_fact (n := x_37) ex_37 (show (a1 : Int64).toInt = a1.toInt from rfl) (show (161437 : Int64).toInt = 161437 from (by decide))
                                      refine iif_ne (a := x_37.toInt) (tgt := 209) hx hb rfl dX7_wordOf_203 (by decide) (fun k_38 => ?_) (fun k_38 => ?_)
                                      · skip
                                        refine lv_lload_n hx hb dX7_wordOf_209 rfl (lv_at hl 0 rfl) ?_
                                        refine lv_ldc2 (v := 315904) hx hb hown (hts (.constantLong RX7 204 (315904)) (mem_i 20 rfl)) dX7_wordOf_210 ?_
                                        refine W.lcmp hx hb dX7_wordOf_213 ?_
                                        refine lv_topi (fun x_39 ex_39 => ?_)
                                        have tx_39 := lcg_fact (n := x_39) ex_39 (show (a1 : Int64).toInt = a1.toInt from rfl) (show (315904 : Int64).toInt = 315904 from (by decide))
                                        refine iif_ne (a := x_39.toInt) (tgt := 220) hx hb rfl dX7_wordOf_214 (by decide) (fun k_40 => ?_) (fun k_40 => ?_)
                                        · skip
                                          refine lv_lload_n hx hb dX7_wordOf_220 rfl (lv_at hl 0 rfl) ?_
                                          refine lv_ldc2 (v := 6373655887) hx hb hown (hts (.constantLong RX7 206 (6373655887)) (mem_i 21 rfl)) dX7_wordOf_221 ?_
                                          refine W.lcmp hx hb dX7_wordOf_224 ?_
                                          refine lv_topi (fun x_41 ex_41 => ?_)
                                          have tx_41 := lcg_fact (n := x_41) ex_41 (show (a1 : Int64).toInt = a1.toInt from rfl) (show (6373655887 : Int64).toInt = 6373655887 from (by decide))
                                          refine iif_ne (a := x_41.toInt) (tgt := 231) hx hb rfl dX7_wordOf_225 (by decide) (fun k_42 => ?_) (fun k_42 => ?_)
                                          · skip
                                            refine lv_bipush (v := 51) hx hb dX7_wordOf_231 (by decide) ?_
                                            have kzz_43 : (51 : Int32).toInt = 51 := by decide
                                            exact W.iret (v := 51) hx hb hr (fun t ht hW => ⟨_, rfl, trivial, ht⟩) (fun _ h => by cases h) dX7_wordOf_233
                                          · skip
                                            refine lv_bipush (v := 120) hx hb dX7_wordOf_228 (by decide) ?_
                                            have kzz_44 : (120 : Int32).toInt = 120 := by decide
                                            exact W.iret (v := 120) hx hb hr (fun t ht hW => ⟨_, rfl, trivial, ht⟩) (fun _ h => by cases h) dX7_wordOf_230
                                        · skip
                                          refine lv_bipush (v := 119) hx hb dX7_wordOf_217 (by decide) ?_
                                          have kzz_45 : (119 : Int32).toInt = 119 := by decide
                                          exact W.iret (v := 119) hx hb hr (fun t ht hW => ⟨_, rfl, trivial, ht⟩) (fun _ h => by cases h) dX7_wordOf_219
                                      · skip
                                        refine lv_bipush (v := 118) hx hb dX7_wordOf_206 (by decide) ?_
                                        have kzz_46 : (118 : Int32).toInt = 118 := by decide
                                        exact W.iret (v := 118) hx hb hr (fun t ht hW => ⟨_, rfl, trivial, ht⟩) (fun _ h => by cases h) dX7_wordOf_208
                                    · skip
                                      refine lv_bipush (v := 117) hx hb dX7_wordOf_195 (by decide) ?_
                                      have kzz_47 : (117 : Int32).toInt = 117 := by decide
                                      exact W.iret (v := 117) hx hb hr (fun t ht hW => ⟨_, rfl, trivial, ht⟩) (fun _ h => by cases h) dX7_wordOf_197
                                  · skip
                                    refine lv_bipush (v := 116) hx hb dX7_wordOf_184 (by decide) ?_
                                    have kzz_48 : (116 : Int32).toInt = 116 := by decide
                                    exact W.iret (v := 116) hx hb hr (fun t ht hW => ⟨_, rfl, trivial, ht⟩) (fun _ h => by cases h) dX7_wordOf_186
                                · skip
                                  refine lv_bipush (v := 115) hx hb dX7_wordOf_173 (by decide) ?_
                                  have kzz_49 : (115 : Int32).toInt = 115 := by decide
                                  exact W.iret (v := 115) hx hb hr (fun t ht hW => ⟨_, rfl, trivial, ht⟩) (fun _ h => by cases h) dX7_wordOf_175
                              · skip
                                refine lv_bipush (v := 114) hx hb dX7_wordOf_162 (by decide) ?_
                                have kzz_50 : (114 : Int32).toInt = 114 := by decide
                                exact W.iret (v := 114) hx hb hr (fun t ht hW => ⟨_, rfl, trivial, ht⟩) (fun _ h => by cases h) dX7_wordOf_164
                            · skip
                              refine lv_bipush (v := 113) hx hb dX7_wordOf_151 (by decide) ?_
                              have kzz_51 : (113 : Int32).toInt = 113 := by decide
                              exact W.iret (v := 113) hx hb hr (fun t ht hW => ⟨_, rfl, trivial, ht⟩) (fun _ h => by cases h) dX7_wordOf_153
                          · skip
                            refine lv_bipush (v := 112) hx hb dX7_wordOf_140 (by decide) ?_
                            have kzz_52 : (112 : Int32).toInt = 112 := by decide
                            exact W.iret (v := 112) hx hb hr (fun t ht hW => ⟨_, rfl, trivial, ht⟩) (fun _ h => by cases h) dX7_wordOf_142
                        · skip
                          refine lv_bipush (v := 111) hx hb dX7_wordOf_129 (by decide) ?_
                          have kzz_53 : (111 : Int32).toInt = 111 := by decide
                          exact W.iret (v := 111) hx hb hr (fun t ht hW => ⟨_, rfl, trivial, ht⟩) (fun _ h => by cases h) dX7_wordOf_131
                      · skip
                        refine lv_bipush (v := 110) hx hb dX7_wordOf_118 (by decide) ?_
                        have kzz_54 : (110 : Int32).toInt = 110 := by decide
                        exact W.iret (v := 110) hx hb hr (fun t ht hW => ⟨_, rfl, trivial, ht⟩) (fun _ h => by cases h) dX7_wordOf_120
                    · skip
                      refine lv_bipush (v := 109) hx hb dX7_wordOf_107 (by decide) ?_
                      have kzz_55 : (109 : Int32).toInt = 109 := by decide
                      exact W.iret (v := 109) hx hb hr (fun t ht hW => ⟨_, rfl, trivial, ht⟩) (fun _ h => by cases h) dX7_wordOf_109
                  · skip
                    refine lv_bipush (v := 108) hx hb dX7_wordOf_96 (by decide) ?_
                    have kzz_56 : (108 : Int32).toInt = 108 := by decide
                    exact W.iret (v := 108) hx hb hr (fun t ht hW => ⟨_, rfl, trivial, ht⟩) (fun _ h => by cases h) dX7_wordOf_98
                · skip
                  refine lv_bipush (v := 107) hx hb dX7_wordOf_85 (by decide) ?_
                  have kzz_57 : (107 : Int32).toInt = 107 := by decide
                  exact W.iret (v := 107) hx hb hr (fun t ht hW => ⟨_, rfl, trivial, ht⟩) (fun _ h => by cases h) dX7_wordOf_87
              · skip
                refine lv_bipush (v := 106) hx hb dX7_wordOf_74 (by decide) ?_
                have kzz_58 : (106 : Int32).toInt = 106 := by decide
                exact W.iret (v := 106) hx hb hr (fun t ht hW => ⟨_, rfl, trivial, ht⟩) (fun _ h => by cases h) dX7_wordOf_76
            · skip
              refine lv_bipush (v := 105) hx hb dX7_wordOf_63 (by decide) ?_
              have kzz_59 : (105 : Int32).toInt = 105 := by decide
              exact W.iret (v := 105) hx hb hr (fun t ht hW => ⟨_, rfl, trivial, ht⟩) (fun _ h => by cases h) dX7_wordOf_65
          · skip
            refine lv_bipush (v := 104) hx hb dX7_wordOf_52 (by decide) ?_
            have kzz_60 : (104 : Int32).toInt = 104 := by decide
            exact W.iret (v := 104) hx hb hr (fun t ht hW => ⟨_, rfl, trivial, ht⟩) (fun _ h => by cases h) dX7_wordOf_54
        · skip
          refine lv_bipush (v := 103) hx hb dX7_wordOf_41 (by decide) ?_
          have kzz_61 : (103 : Int32).toInt = 103 := by decide
          exact W.iret (v := 103) hx hb hr (fun t ht hW => ⟨_, rfl, trivial, ht⟩) (fun _ h => by cases h) dX7_wordOf_43
      · skip
        refine lv_bipush (v := 102) hx hb dX7_wordOf_30 (by decide) ?_
        have kzz_62 : (102 : Int32).toInt = 102 := by decide
        exact W.iret (v := 102) hx hb hr (fun t ht hW => ⟨_, rfl, trivial, ht⟩) (fun _ h => by cases h) dX7_wordOf_32
    · skip
      refine lv_bipush (v := 101) hx hb dX7_wordOf_19 (by decide) ?_
      have kzz_63 : (101 : Int32).toInt = 101 := by decide
      exact W.iret (v := 101) hx hb hr (fun t ht hW => ⟨_, rfl, trivial, ht⟩) (fun _ h => by cases h) dX7_wordOf_21
  · skip
    refine lv_bipush (v := 100) hx hb dX7_wordOf_8 (by decide) ?_
    have kzz_64 : (100 : Int32).toInt = 100 := by decide
    exact W.iret (v := 100) hx hb hr (fun t ht hW => ⟨_, rfl, trivial, ht⟩) (fun _ h => by cases h) dX7_wordOf_10

set_option maxHeartbeats 4000000 in
set_option maxRecDepth 100000 in
theorem k_X7_both (l : Launch) (D : va_G) (c : Nat → ClassId) (ts : Nat × Nat) (sz : Nat)  (a1 : Int32) (i_a1 : Int) (hi_a1 : a1.toInt = i_a1) (a2 : Int64) (a3 : Int64) : Met l yX7_both wsX7_both ({ frames := 0, cells := 0, slots := 0, locals := 0 }) (va_Pc [.int a1, .long a2, .long a3] (Pre0 D c ts [] sz)) (vp_Sl (fun r : Int64 => True)) 0 0 (fun _ => False) := by
  refine Met.ofW (cc := cX7_both) (maxL := 5) (ret := (some .long)) (by decide) rfl ?_
  intro p e s m args below meth cd s₁ B hml hv
  obtain ⟨rfl, hsz, hP, hD0, hAm, hSt⟩ := hv
  have hx := B.exec
  have hb := B.bytes
  have hr := B.returns
  have hts := atoms_spec (ws := wsX7_both) B.pre
  have hown : s.vm.findClass RX7 = some m.cls := findClass_of_methodNamed B.named
  have hlocks := B.notSynchronized
  have hK := hAm.1
  subst hsz
  have hD := hD0.self (sz := s.heap.size)
  generalize hAe : va_A [] s.heap.size = A at hD hSt
  have hA : ∀ q : Nat, s.heap.size ≤ q → A q := fun q h => by rw [← hAe]; exact Or.inr h
  have hS : va_S A s.heap s.heap [] := va_S.rf
  clear hD0 hAe
  have hl := lv_entry ([.int a1, .long a2, .long a3]) (n := 5) (Nat.le_of_ble_eq_true rfl)
  rw [lg_entry_eq]
  generalize (lg_sl ([.int a1, .long a2, .long a3]) ++ List.replicate (5 - (lg_sl ([.int a1, .long a2, .long a3])).length) Slot.unset).toArray = ls at hl ⊢
  have hl : lv_has ls 5 [(0, .int a1), (1, .long a2), (3, .long a3)] := hl
  have rg_a1 := i32r a1
  refine lv_iload_n hx hb dX7_both_0 rfl (lv_at hl 0 rfl) ?_
  by_cases k_1 : i_a1 = 3
  · have ek_1 : a1.toInt = 3 := hi_a1.trans k_1
    refine lv_tableIn (tgt := 44) hx hb dX7_both_1 (by rw [ek_1]; decide) (by rw [ek_1]; decide) (by rw [ek_1]; rfl) (by decide) ?_
    refine lv_lload_n hx hb dX7_both_44 rfl (lv_at hl 1 rfl) ?_
    refine lv_lconst (v := 0) hx hb dX7_both_45 (by decide) ?_
    refine W.lcmp hx hb dX7_both_46 ?_
    refine lv_topi (fun x_2 ex_2 => ?_)
    have tx_2 := lcg_fact (n := x_2) ex_2 (show (a2 : Int64).toInt = a2.toInt from rfl) (show (0 : Int64).toInt = 0 from (by decide))
    refine iif_eq (a := x_2.toInt) (tgt := 60) hx hb rfl dX7_both_47 (by decide) (fun k_3 => ?_) (fun k_3 => ?_)
    · skip
      refine lv_lconst (v := 0) hx hb dX7_both_60 (by decide) ?_
      exact W.lret (v := 0) hx hb hr (fun t ht hW => ⟨_, rfl, trivial, ht⟩) (fun _ h => by cases h) dX7_both_61
    · skip
      refine lv_lload_n hx hb dX7_both_50 rfl (lv_at hl 2 rfl) ?_
      refine lv_lconst (v := 0) hx hb dX7_both_51 (by decide) ?_
      refine W.lcmp hx hb dX7_both_52 ?_
      refine lv_topi (fun x_4 ex_4 => ?_)
      have tx_4 := lcg_fact (n := x_4) ex_4 (show (a3 : Int64).toInt = a3.toInt from rfl) (show (0 : Int64).toInt = 0 from (by decide))
      refine iif_eq (a := x_4.toInt) (tgt := 60) hx hb rfl dX7_both_53 (by decide) (fun k_5 => ?_) (fun k_5 => ?_)
      · skip
        refine lv_lconst (v := 0) hx hb dX7_both_60 (by decide) ?_
        exact W.lret (v := 0) hx hb hr (fun t ht hW => ⟨_, rfl, trivial, ht⟩) (fun _ h => by cases h) dX7_both_61
      · skip
        refine lv_lconst (v := 1) hx hb dX7_both_56 (by decide) ?_
        refine lv_goto (tgt := 61) hx hb dX7_both_57 (by decide) ?_
        exact W.lret (v := 1) hx hb hr (fun t ht hW => ⟨_, rfl, trivial, ht⟩) (fun _ h => by cases h) dX7_both_61
  by_cases k_6 : i_a1 = 4
  · have ek_6 : a1.toInt = 4 := hi_a1.trans k_6
    refine lv_tableIn (tgt := 62) hx hb dX7_both_1 (by rw [ek_6]; decide) (by rw [ek_6]; decide) (by rw [ek_6]; rfl) (by decide) ?_
    refine lv_lload_n hx hb dX7_both_62 rfl (lv_at hl 1 rfl) ?_
    refine lv_lconst (v := 0) hx hb dX7_both_63 (by decide) ?_
    refine W.lcmp hx hb dX7_both_64 ?_
    refine lv_topi (fun x_7 ex_7 => ?_)
    have tx_7 := lcg_fact (n := x_7) ex_7 (show (a2 : Int64).toInt = a2.toInt from rfl) (show (0 : Int64).toInt = 0 from (by decide))
    refine iif_ne (a := x_7.toInt) (tgt := 74) hx hb rfl dX7_both_65 (by decide) (fun k_8 => ?_) (fun k_8 => ?_)
    · skip
      refine lv_lconst (v := 1) hx hb dX7_both_74 (by decide) ?_
      refine lv_goto (tgt := 79) hx hb dX7_both_75 (by decide) ?_
      exact W.lret (v := 1) hx hb hr (fun t ht hW => ⟨_, rfl, trivial, ht⟩) (fun _ h => by cases h) dX7_both_79
    · skip
      refine lv_lload_n hx hb dX7_both_68 rfl (lv_at hl 2 rfl) ?_
      refine lv_lconst (v := 0) hx hb dX7_both_69 (by decide) ?_
      refine W.lcmp hx hb dX7_both_70 ?_
      refine lv_topi (fun x_9 ex_9 => ?_)
      have tx_9 := lcg_fact (n := x_9) ex_9 (show (a3 : Int64).toInt = a3.toInt from rfl) (show (0 : Int64).toInt = 0 from (by decide))
      refine iif_eq (a := x_9.toInt) (tgt := 78) hx hb rfl dX7_both_71 (by decide) (fun k_10 => ?_) (fun k_10 => ?_)
      · skip
        refine lv_lconst (v := 0) hx hb dX7_both_78 (by decide) ?_
        exact W.lret (v := 0) hx hb hr (fun t ht hW => ⟨_, rfl, trivial, ht⟩) (fun _ h => by cases h) dX7_both_79
      · skip
        refine lv_lconst (v := 1) hx hb dX7_both_74 (by decide) ?_
        refine lv_goto (tgt := 79) hx hb dX7_both_75 (by decide) ?_
        exact W.lret (v := 1) hx hb hr (fun t ht hW => ⟨_, rfl, trivial, ht⟩) (fun _ h => by cases h) dX7_both_79
  by_cases k_11 : i_a1 = 5
  · have ek_11 : a1.toInt = 5 := hi_a1.trans k_11
    refine lv_tableIn (tgt := 80) hx hb dX7_both_1 (by rw [ek_11]; decide) (by rw [ek_11]; decide) (by rw [ek_11]; rfl) (by decide) ?_
    refine lv_lload_n hx hb dX7_both_80 rfl (lv_at hl 1 rfl) ?_
    refine lv_lload_n hx hb dX7_both_81 rfl (lv_at hl 2 rfl) ?_
    refine W.lcmp hx hb dX7_both_82 ?_
    refine lv_topi (fun x_12 ex_12 => ?_)
    have tx_12 := lcg_fact (n := x_12) ex_12 (show (a2 : Int64).toInt = a2.toInt from rfl) (show (a3 : Int64).toInt = a3.toInt from rfl)
    refine iif_ge (a := x_12.toInt) (tgt := 90) hx hb rfl dX7_both_83 (by decide) (fun k_13 => ?_) (fun k_13 => ?_)
    · skip
      refine lv_lconst (v := 0) hx hb dX7_both_90 (by decide) ?_
      exact W.lret (v := 0) hx hb hr (fun t ht hW => ⟨_, rfl, trivial, ht⟩) (fun _ h => by cases h) dX7_both_91
    · skip
      refine lv_lconst (v := 1) hx hb dX7_both_86 (by decide) ?_
      refine lv_goto (tgt := 91) hx hb dX7_both_87 (by decide) ?_
      exact W.lret (v := 1) hx hb hr (fun t ht hW => ⟨_, rfl, trivial, ht⟩) (fun _ h => by cases h) dX7_both_91
  by_cases k_14 : i_a1 = 6
  · have ek_14 : a1.toInt = 6 := hi_a1.trans k_14
    refine lv_tableIn (tgt := 92) hx hb dX7_both_1 (by rw [ek_14]; decide) (by rw [ek_14]; decide) (by rw [ek_14]; rfl) (by decide) ?_
    refine lv_lload_n hx hb dX7_both_92 rfl (lv_at hl 1 rfl) ?_
    refine lv_lload_n hx hb dX7_both_93 rfl (lv_at hl 2 rfl) ?_
    refine W.lcmp hx hb dX7_both_94 ?_
    refine lv_topi (fun x_15 ex_15 => ?_)
    have tx_15 := lcg_fact (n := x_15) ex_15 (show (a2 : Int64).toInt = a2.toInt from rfl) (show (a3 : Int64).toInt = a3.toInt from rfl)
    refine iif_ne (a := x_15.toInt) (tgt := 102) hx hb rfl dX7_both_95 (by decide) (fun k_16 => ?_) (fun k_16 => ?_)
    · skip
      refine lv_lconst (v := 0) hx hb dX7_both_102 (by decide) ?_
      exact W.lret (v := 0) hx hb hr (fun t ht hW => ⟨_, rfl, trivial, ht⟩) (fun _ h => by cases h) dX7_both_103
    · skip
      refine lv_lconst (v := 1) hx hb dX7_both_98 (by decide) ?_
      refine lv_goto (tgt := 103) hx hb dX7_both_99 (by decide) ?_
      exact W.lret (v := 1) hx hb hr (fun t ht hW => ⟨_, rfl, trivial, ht⟩) (fun _ h => by cases h) dX7_both_103
  by_cases k_17 : i_a1 = 7
  · have ek_17 : a1.toInt = 7 := hi_a1.trans k_17
    refine lv_tableIn (tgt := 104) hx hb dX7_both_1 (by rw [ek_17]; decide) (by rw [ek_17]; decide) (by rw [ek_17]; rfl) (by decide) ?_
    refine lv_lload_n hx hb dX7_both_104 rfl (lv_at hl 1 rfl) ?_
    refine lv_lload_n hx hb dX7_both_105 rfl (lv_at hl 2 rfl) ?_
    refine W.lcmp hx hb dX7_both_106 ?_
    refine lv_topi (fun x_18 ex_18 => ?_)
    have tx_18 := lcg_fact (n := x_18) ex_18 (show (a2 : Int64).toInt = a2.toInt from rfl) (show (a3 : Int64).toInt = a3.toInt from rfl)
    refine iif_le (a := x_18.toInt) (tgt := 114) hx hb rfl dX7_both_107 (by decide) (fun k_19 => ?_) (fun k_19 => ?_)
    · skip
      refine lv_lconst (v := 0) hx hb dX7_both_114 (by decide) ?_
      exact W.lret (v := 0) hx hb hr (fun t ht hW => ⟨_, rfl, trivial, ht⟩) (fun _ h => by cases h) dX7_both_115
    · skip
      refine lv_lconst (v := 1) hx hb dX7_both_110 (by decide) ?_
      refine lv_goto (tgt := 115) hx hb dX7_both_111 (by decide) ?_
      exact W.lret (v := 1) hx hb hr (fun t ht hW => ⟨_, rfl, trivial, ht⟩) (fun _ h => by cases h) dX7_both_115
  by_cases k_20 : i_a1 = 8
  · have ek_20 : a1.toInt = 8 := hi_a1.trans k_20
    refine lv_tableIn (tgt := 116) hx hb dX7_both_1 (by rw [ek_20]; decide) (by rw [ek_20]; decide) (by rw [ek_20]; rfl) (by decide) ?_
    refine lv_lload_n hx hb dX7_both_116 rfl (lv_at hl 1 rfl) ?_
    refine lv_lload_n hx hb dX7_both_117 rfl (lv_at hl 2 rfl) ?_
    refine lv_ladd hx hb dX7_both_118 ?_
    refine lv_topl (fun x_21 ex_21 => ?_)
    exact W.lret (v := x_21) hx hb hr (fun t ht hW => ⟨_, rfl, trivial, ht⟩) (fun _ h => by cases h) dX7_both_119
  by_cases k_22 : i_a1 = 9
  · have ek_22 : a1.toInt = 9 := hi_a1.trans k_22
    refine lv_tableIn (tgt := 120) hx hb dX7_both_1 (by rw [ek_22]; decide) (by rw [ek_22]; decide) (by rw [ek_22]; rfl) (by decide) ?_
    refine lv_lload_n hx hb dX7_both_120 rfl (lv_at hl 1 rfl) ?_
    refine lv_lload_n hx hb dX7_both_121 rfl (lv_at hl 2 rfl) ?_
    refine lv_lsub hx hb dX7_both_122 ?_
    refine lv_topl (fun x_23 ex_23 => ?_)
    exact W.lret (v := x_23) hx hb hr (fun t ht hW => ⟨_, rfl, trivial, ht⟩) (fun _ h => by cases h) dX7_both_123
  refine lv_tableOut (tgt := 124) hx hb dX7_both_1 (by rw [hi_a1]; omega) (by decide) ?_
  refine lv_lload_n hx hb dX7_both_124 rfl (lv_at hl 1 rfl) ?_
  refine lv_lload_n hx hb dX7_both_125 rfl (lv_at hl 2 rfl) ?_
  refine lv_lmul hx hb dX7_both_126 ?_
  refine lv_topl (fun x_24 ex_24 => ?_)
  exact W.lret (v := x_24) hx hb hr (fun t ht hW => ⟨_, rfl, trivial, ht⟩) (fun _ h => by cases h) dX7_both_127

set_option maxHeartbeats 4000000 in
set_option maxRecDepth 100000 in
theorem k_X7_isText (l : Launch) (D : va_G) (c : Nat → ClassId) (ts : Nat × Nat) (sz : Nat) (A_self : Nat) (q : Nat → Nat) (v : Nat → Int32) (w : Nat → Int64) (a1 : Int32) (i_a1 : Int) (hi_a1 : a1.toInt = i_a1) (hv_2 : 0 ≤ (v 2).toInt ∧ (v 2).toInt ≤ 800) (hv_8 : 0 ≤ (v 8).toInt ∧ (v 8).toInt ≤ 10) (hv_21 : 0 ≤ (v 21).toInt ∧ (v 21).toInt ≤ 40) (hv_24 : 0 ≤ (v 24).toInt ∧ (v 24).toInt ≤ 1000) (hv_27 : 0 ≤ (v 27).toInt ∧ (v 27).toInt ≤ 400) (hv_42 : 0 ≤ (v 42).toInt ∧ (v 42).toInt ≤ 4000) (hv_52 : 0 ≤ (v 52).toInt ∧ (v 52).toInt ≤ 2000) : Met l yX7_isText wsX7_isText ({ frames := 1, cells := 0, slots := 0, locals := 22 }) (va_Pc [.ref A_self, .int a1] (Pre0 D c ts [(A_self, .inr (7, o7 q v w))] sz)) (vp_Si (fun r : Int32 => (((0 ≤ i_a1 ∧ i_a1 ≤ (v 8).toInt - 1) ∧ r = 1) ∨ ((¬ (0 ≤ i_a1 ∧ i_a1 ≤ (v 8).toInt - 1)) ∧ r = 0)))) 0 0 (fun _ => False) := by
  refine Met.ofW (cc := cX7_isText) (maxL := 2) (ret := (some .boolean)) (by decide) rfl ?_
  intro p e s m args below meth cd s₁ B hml hv
  obtain ⟨rfl, hsz, hP, hD0, hAm, hSt⟩ := hv
  have hx := B.exec
  have hb := B.bytes
  have hr := B.returns
  have hts := atoms_spec (ws := wsX7_isText) B.pre
  have hown : s.vm.findClass RX7 = some m.cls := findClass_of_methodNamed B.named
  have hlocks := B.notSynchronized
  have hK := hAm.1
  subst hsz
  have hD := hD0.self (sz := s.heap.size)
  generalize hAe : va_A [(A_self, .inr (7, o7 q v w))] s.heap.size = A at hD hSt
  have hA : ∀ q : Nat, s.heap.size ≤ q → A q := fun q h => by rw [← hAe]; exact Or.inr h
  have hS : va_S A s.heap s.heap [] := va_S.rf
  clear hD0 hAe
  have hl := lv_entry ([.ref A_self, .int a1]) (n := 2) (Nat.le_of_ble_eq_true rfl)
  rw [lg_entry_eq]
  generalize (lg_sl ([.ref A_self, .int a1]) ++ List.replicate (2 - (lg_sl ([.ref A_self, .int a1])).length) Slot.unset).toArray = ls at hl ⊢
  have hl : lv_has ls 2 [(0, .ref A_self), (1, .int a1)] := hl
  have rg_a1 := i32r a1
  refine lv_iload_n hx hb dX7_isText_0 rfl (lv_at hl 1 rfl) ?_
  refine lv_iconst (v := 0) hx hb dX7_isText_1 (by decide) ?_
  refine lv_aload_n hx hb dX7_isText_2 rfl (lv_at hl 0 rfl) ?_
  refine va_get (D := D) (ci := 7) (v := .int (v 8)) (C := RX7) (T := TX7) (N := 56) hx hb hts (fun _ h => List.mem_cons_of_mem _ (List.mem_append_right _ h)) hown hK hP 0 rfl rfl 8 (by decide) (hts (.fieldLink RX7 220 "CrownTableModel" "texts" "I") (mem_i 1 rfl)) (fun _ h9 => h9) rfl dX7_isText_3 ?_
  refine lv_iconst (v := 1) hx hb dX7_isText_6 (by decide) ?_
  refine lv_isub hx hb dX7_isText_7 ?_
  refine lv_topi (fun x_1 ex_1 => ?_)
  have tx_1 : x_1.toInt = ((v 8).toInt - 1) := by rw [ex_1]; exact sub_ti (a := (v 8).toInt) (b := 1) rfl (by decide) (by omega) (by omega)
  have hPc := hP.sub (ws' := []) [] rfl
  have hDc := hD.sub (ws' := []) [] (by decide) rfl
  have hFc := va_free (wc := []) hD hS hA [] rfl
  have kzz_2 : (0 : Int32).toInt = 0 := by decide
  refine va_csi (va_runS (As := [.int a1, .int 0, .int x_1]) (rest := []) ⟨hx, hb, hml, hown, hts⟩ (k_X7_in l D c ts s.heap.size a1 i_a1 hi_a1 0 0 (by decide) x_1 ((v 8).toInt - 1) tx_1) (cwS 3 hts gX7_isText_X7_in rfl rfl rfl ⟨rfl, hdX7_in⟩ ⟨(show 0 + 1 ≤ 1 by decide), (show 8 + (3 + 11) + 0 ≤ 22 by decide)⟩) ⟨Pre0.blind, Pre0.at hPc hDc hAm hSt hS hFc⟩ rfl rfl hl.1 rfl (lv_room (Nat.le_of_ble_eq_true rfl)) dX7_isText_8 ⟨(show 0 + 0 ≤ 0 by decide), (show 0 + 0 ≤ 0 by decide)⟩) (fun r_4 hw_3 => ?_)
  rcases hw_3 with ⟨hw_3, rfl⟩ | ⟨hw_3, rfl⟩
  · skip
    have kzz_5 : (1 : Int32).toInt = 1 := by decide
    exact W.zret (v := 1) hx hb hr (by decide) (fun t ht hW => ⟨_, rfl, Or.inl ⟨by omega, rfl⟩, ht⟩) (fun _ h => by cases h) dX7_isText_11
  · skip
    have kzz_6 : (0 : Int32).toInt = 0 := by decide
    exact W.zret (v := 0) hx hb hr (by decide) (fun t ht hW => ⟨_, rfl, Or.inr (⟨by omega, rfl⟩), ht⟩) (fun _ h => by cases h) dX7_isText_11

set_option maxHeartbeats 4000000 in
set_option maxRecDepth 100000 in
theorem k_X7_isDebt (l : Launch) (D : va_G) (c : Nat → ClassId) (ts : Nat × Nat) (sz : Nat) (A_self : Nat) (q : Nat → Nat) (v : Nat → Int32) (w : Nat → Int64) (a1 : Int32) (i_a1 : Int) (hi_a1 : a1.toInt = i_a1) (hv_2 : 0 ≤ (v 2).toInt ∧ (v 2).toInt ≤ 800) (hv_8 : 0 ≤ (v 8).toInt ∧ (v 8).toInt ≤ 10) (hv_21 : 0 ≤ (v 21).toInt ∧ (v 21).toInt ≤ 40) (hv_24 : 0 ≤ (v 24).toInt ∧ (v 24).toInt ≤ 1000) (hv_27 : 0 ≤ (v 27).toInt ∧ (v 27).toInt ≤ 400) (hv_42 : 0 ≤ (v 42).toInt ∧ (v 42).toInt ≤ 4000) (hv_52 : 0 ≤ (v 52).toInt ∧ (v 52).toInt ≤ 2000) : Met l yX7_isDebt wsX7_isDebt ({ frames := 1, cells := 0, slots := 0, locals := 22 }) (va_Pc [.ref A_self, .int a1] (Pre0 D c ts [(A_self, .inr (7, o7 q v w))] sz)) (vp_Si (fun r : Int32 => (((0 ≤ i_a1 ∧ i_a1 ≤ (v 27).toInt - 1) ∧ r = 1) ∨ ((¬ (0 ≤ i_a1 ∧ i_a1 ≤ (v 27).toInt - 1)) ∧ r = 0)))) 0 0 (fun _ => False) := by
  refine Met.ofW (cc := cX7_isDebt) (maxL := 2) (ret := (some .boolean)) (by decide) rfl ?_
  intro p e s m args below meth cd s₁ B hml hv
  obtain ⟨rfl, hsz, hP, hD0, hAm, hSt⟩ := hv
  have hx := B.exec
  have hb := B.bytes
  have hr := B.returns
  have hts := atoms_spec (ws := wsX7_isDebt) B.pre
  have hown : s.vm.findClass RX7 = some m.cls := findClass_of_methodNamed B.named
  have hlocks := B.notSynchronized
  have hK := hAm.1
  subst hsz
  have hD := hD0.self (sz := s.heap.size)
  generalize hAe : va_A [(A_self, .inr (7, o7 q v w))] s.heap.size = A at hD hSt
  have hA : ∀ q : Nat, s.heap.size ≤ q → A q := fun q h => by rw [← hAe]; exact Or.inr h
  have hS : va_S A s.heap s.heap [] := va_S.rf
  clear hD0 hAe
  have hl := lv_entry ([.ref A_self, .int a1]) (n := 2) (Nat.le_of_ble_eq_true rfl)
  rw [lg_entry_eq]
  generalize (lg_sl ([.ref A_self, .int a1]) ++ List.replicate (2 - (lg_sl ([.ref A_self, .int a1])).length) Slot.unset).toArray = ls at hl ⊢
  have hl : lv_has ls 2 [(0, .ref A_self), (1, .int a1)] := hl
  have rg_a1 := i32r a1
  refine lv_iload_n hx hb dX7_isDebt_0 rfl (lv_at hl 1 rfl) ?_
  refine lv_iconst (v := 0) hx hb dX7_isDebt_1 (by decide) ?_
  refine lv_aload_n hx hb dX7_isDebt_2 rfl (lv_at hl 0 rfl) ?_
  refine va_get (D := D) (ci := 7) (v := .int (v 27)) (C := RX7) (T := TX7) (N := 56) hx hb hts (fun _ h => List.mem_cons_of_mem _ (List.mem_append_right _ h)) hown hK hP 0 rfl rfl 27 (by decide) (hts (.fieldLink RX7 277 "CrownTableModel" "debts" "I") (mem_i 1 rfl)) (fun _ h9 => h9) rfl dX7_isDebt_3 ?_
  refine lv_iconst (v := 1) hx hb dX7_isDebt_6 (by decide) ?_
  refine lv_isub hx hb dX7_isDebt_7 ?_
  refine lv_topi (fun x_1 ex_1 => ?_)
  have tx_1 : x_1.toInt = ((v 27).toInt - 1) := by rw [ex_1]; exact sub_ti (a := (v 27).toInt) (b := 1) rfl (by decide) (by omega) (by omega)
  have hPc := hP.sub (ws' := []) [] rfl
  have hDc := hD.sub (ws' := []) [] (by decide) rfl
  have hFc := va_free (wc := []) hD hS hA [] rfl
  have kzz_2 : (0 : Int32).toInt = 0 := by decide
  refine va_csi (va_runS (As := [.int a1, .int 0, .int x_1]) (rest := []) ⟨hx, hb, hml, hown, hts⟩ (k_X7_in l D c ts s.heap.size a1 i_a1 hi_a1 0 0 (by decide) x_1 ((v 27).toInt - 1) tx_1) (cwS 3 hts gX7_isDebt_X7_in rfl rfl rfl ⟨rfl, hdX7_in⟩ ⟨(show 0 + 1 ≤ 1 by decide), (show 8 + (3 + 11) + 0 ≤ 22 by decide)⟩) ⟨Pre0.blind, Pre0.at hPc hDc hAm hSt hS hFc⟩ rfl rfl hl.1 rfl (lv_room (Nat.le_of_ble_eq_true rfl)) dX7_isDebt_8 ⟨(show 0 + 0 ≤ 0 by decide), (show 0 + 0 ≤ 0 by decide)⟩) (fun r_4 hw_3 => ?_)
  rcases hw_3 with ⟨hw_3, rfl⟩ | ⟨hw_3, rfl⟩
  · skip
    have kzz_5 : (1 : Int32).toInt = 1 := by decide
    exact W.zret (v := 1) hx hb hr (by decide) (fun t ht hW => ⟨_, rfl, Or.inl ⟨by omega, rfl⟩, ht⟩) (fun _ h => by cases h) dX7_isDebt_11
  · skip
    have kzz_6 : (0 : Int32).toInt = 0 := by decide
    exact W.zret (v := 0) hx hb hr (by decide) (fun t ht hW => ⟨_, rfl, Or.inr (⟨by omega, rfl⟩), ht⟩) (fun _ h => by cases h) dX7_isDebt_11

set_option maxHeartbeats 4000000 in
set_option maxRecDepth 100000 in
theorem k_X7_bytes (l : Launch) (D : va_G) (c : Nat → ClassId) (ts : Nat × Nat) (sz : Nat) (A_self : Nat) (q : Nat → Nat) (v : Nat → Int32) (w : Nat → Int64) (f_tape : Nat → Int32) (a1 : Int32) (i_a1 : Int) (hi_a1 : a1.toInt = i_a1) (hv_2 : 0 ≤ (v 2).toInt ∧ (v 2).toInt ≤ 800) (hv_8 : 0 ≤ (v 8).toInt ∧ (v 8).toInt ≤ 10) (hv_21 : 0 ≤ (v 21).toInt ∧ (v 21).toInt ≤ 40) (hv_24 : 0 ≤ (v 24).toInt ∧ (v 24).toInt ≤ 1000) (hv_27 : 0 ≤ (v 27).toInt ∧ (v 27).toInt ≤ 400) (hv_42 : 0 ≤ (v 42).toInt ∧ (v 42).toInt ≤ 4000) (hv_52 : 0 ≤ (v 52).toInt ∧ (v 52).toInt ≤ 2000) (hq0 : (v 2).toInt ≤ 796) : Met l yX7_bytes wsX7_bytes ({ frames := 0, cells := 0, slots := 0, locals := 0 }) (va_Pc [.ref A_self, .int a1] (Pre0 D c ts [(A_self, .inr (7, o7 q v w)), (q 1, .inl (c 0, 800, .inl f_tape))] sz)) (va_Qv (fun (u : Int32 × (Nat → Int32) × Unit) => (0 ≤ u.1.toInt ∧ u.1.toInt ≤ 800) ∧ (u.1.toInt = (v 2).toInt + 4)) (fun u t => va_P D vwCl [(A_self, .inr (7, o7 q (upd v 2 u.1) w)), (q 1, .inl (c 0, 800, .inl u.2.1))] t.heap ∧ va_D (va_A [(A_self, .inr (7, o7 q v w)), (q 1, .inl (c 0, 800, .inl f_tape))] sz) [(A_self, .inr (7, o7 q (upd v 2 u.1) w)), (q 1, .inl (c 0, 800, .inl u.2.1))]) (va_A [(A_self, .inr (7, o7 q v w)), (q 1, .inl (c 0, 800, .inl f_tape))] sz)) 0 0 (va_A [(A_self, .inr (7, o7 q v w)), (q 1, .inl (c 0, 800, .inl f_tape))] sz) := by
  refine Met.ofW (cc := cX7_bytes) (maxL := 3) (ret := none) (by decide) rfl ?_
  intro p e s m args below meth cd s₁ B hml hv
  obtain ⟨rfl, hsz, hP, hD0, hAm, hSt⟩ := hv
  have hx := B.exec
  have hb := B.bytes
  have hr := B.returns
  have hts := atoms_spec (ws := wsX7_bytes) B.pre
  have hown : s.vm.findClass RX7 = some m.cls := findClass_of_methodNamed B.named
  have hlocks := B.notSynchronized
  have hK := hAm.1
  subst hsz
  have hD := hD0.self (sz := s.heap.size)
  generalize hAe : va_A [(A_self, .inr (7, o7 q v w)), (q 1, .inl (c 0, 800, .inl f_tape))] s.heap.size = A at hD hSt ⊢
  have hA : ∀ q : Nat, s.heap.size ≤ q → A q := fun q h => by rw [← hAe]; exact Or.inr h
  have hS : va_S A s.heap s.heap [] := va_S.rf
  clear hD0 hAe
  have hl := lv_entry ([.ref A_self, .int a1]) (n := 3) (Nat.le_of_ble_eq_true rfl)
  rw [lg_entry_eq]
  generalize (lg_sl ([.ref A_self, .int a1]) ++ List.replicate (3 - (lg_sl ([.ref A_self, .int a1])).length) Slot.unset).toArray = ls at hl ⊢
  have hl : lv_has ls 3 [(0, .ref A_self), (1, .int a1)] := hl
  have rg_a1 := i32r a1
  refine lv_iconst (v := 3) hx hb dX7_bytes_0 (by decide) ?_
  refine lv_istore_n (lv' := [(2, .int 3), (0, .ref A_self), (1, .int a1)]) hx hb dX7_bytes_1 rfl hl (by decide) rfl (fun ls hl => ?_)
  have lp_2 : ∀ (N : Nat) (L2 : Int32) (M_self_taped : Int32) (M_tape : Nat → Int32) (hf2_0 : -1 ≤ L2.toInt) (hf2_1 : L2.toInt ≤ 3) (hf2_2 : 0 ≤ M_self_taped.toInt ∧ M_self_taped.toInt ≤ 800) (hf2_3 : M_self_taped.toInt = (v 2).toInt + 3 - L2.toInt) (hN2 : (L2.toInt + 1).toNat = N) (H : Heap) (locs : List Loc) (ls : Array Slot), va_P D vwCl [(A_self, .inr (7, o7 q (upd v 2 M_self_taped) w)), (q 1, .inl (c 0, 800, .inl M_tape))] H → va_D A [(A_self, .inr (7, o7 q (upd v 2 M_self_taped) w)), (q 1, .inl (c 0, 800, .inl M_tape))] → va_S A s.heap H locs → lv_has ls 3 [(0, .ref A_self), (1, .int a1), (2, .int L2)] → W p l e (headSpec wsX7_bytes ({ frames := 0, cells := 0, slots := 0, locals := 0 })).room s m (([.ref A_self, .int a1] : List Value).toArray) below meth cd H locs 0 0 (MQ below (va_Qv (fun (u : Int32 × (Nat → Int32) × Unit) => (0 ≤ u.1.toInt ∧ u.1.toInt ≤ 800) ∧ (u.1.toInt = (v 2).toInt + 4)) (fun u t => va_P D vwCl [(A_self, .inr (7, o7 q (upd v 2 u.1) w)), (q 1, .inl (c 0, 800, .inl u.2.1))] t.heap ∧ va_D A [(A_self, .inr (7, o7 q (upd v 2 u.1) w)), (q 1, .inl (c 0, 800, .inl u.2.1))]) A) ([.ref A_self, .int a1] : List Value).toArray s 0 0 A) (F0 m 2 ls []) := by
    refine st_ind (fun N ih2 => ?_)
    intro L2 M_self_taped M_tape hf2_0 hf2_1 hf2_2 hf2_3 hN2 H locs ls hP hD hS hl
    have rg_M_self_taped := i32r M_self_taped
    refine lv_iload_n hx hb dX7_bytes_2 rfl (lv_at hl 2 rfl) ?_
    refine iif_lt (a := L2.toInt) (tgt := 38) hx hb rfl dX7_bytes_3 (by decide) (fun k_1 => ?_) (fun k_1 => ?_)
    · skip
      have hP9 := hP.sub (ws' := [(A_self, .inr (7, o7 q (upd v 2 M_self_taped) w)), (q 1, .inl (c 0, 800, .inl M_tape))]) [0, 1] rfl
      have hD9 := hD.sub (ws' := [(A_self, .inr (7, o7 q (upd v 2 M_self_taped) w)), (q 1, .inl (c 0, 800, .inl M_tape))]) [0, 1] (by decide) rfl
      refine W.widen (k := 0) (n := 0) (by omega) (by omega) ?_
      exact W.vret hx hb hr (fun t ht hW => ⟨⟨(M_self_taped, M_tape, ()), rfl, ⟨(show 0 ≤ M_self_taped.toInt ∧ M_self_taped.toInt ≤ 800 by omega), (show M_self_taped.toInt = (v 2).toInt + 4 by omega)⟩, ⟨by rw [ht]; exact hP9, hD9⟩⟩, hS.F ht⟩) hS.2.2 dX7_bytes_38
    · skip
      refine lv_aload_n hx hb dX7_bytes_6 rfl (lv_at hl 0 rfl) ?_
      refine va_get (D := D) (ci := 7) (v := .ref (q 1)) (C := RX7) (T := TX7) (N := 56) hx hb hts (fun _ h => List.mem_cons_of_mem _ (List.mem_append_right _ h)) hown hK hP 0 rfl rfl 1 (by decide) (hts (.fieldLink RX7 7 "CrownTableModel" "tape" "[B") (mem_i 1 rfl)) (fun _ h9 => h9) rfl dX7_bytes_7 ?_
      refine lv_aload_n hx hb dX7_bytes_10 rfl (lv_at hl 0 rfl) ?_
      refine va_get (D := D) (ci := 7) (v := .int M_self_taped) (C := RX7) (T := TX7) (N := 56) hx hb hts (fun _ h => List.mem_cons_of_mem _ (List.mem_append_right _ h)) hown hK hP 0 rfl rfl 2 (by decide) (hts (.fieldLink RX7 125 "CrownTableModel" "taped" "I") (mem_i 2 rfl)) (fun _ h9 => h9) rfl dX7_bytes_11 ?_
      refine lv_iload_n hx hb dX7_bytes_14 rfl (lv_at hl 1 rfl) ?_
      refine lv_bipush (v := 8) hx hb dX7_bytes_15 (by decide) ?_
      refine lv_iload_n hx hb dX7_bytes_17 rfl (lv_at hl 2 rfl) ?_
      refine lv_imul hx hb dX7_bytes_18 ?_
      refine lv_topi (fun x_2 ex_2 => ?_)
      have tx_2 : x_2.toInt = (8 * L2.toInt) := by rw [ex_2]; exact mul_ti (a := 8) (b := L2.toInt) (by decide) rfl (by omega) (by omega)
      refine lv_ishr hx hb dX7_bytes_19 ?_
      refine lv_topi (fun x_3 ex_3 => ?_)
      refine lv_i2b hx hb dX7_bytes_20 rfl ?_
      refine lv_topi (fun x_4 ex_4 => ?_)
      refine va_bast hx hb hK hP hD hS 1 0 rfl rfl (vin (a := M_self_taped.toInt) rfl (by omega) (by omega)) dX7_bytes_21 (fun H locs hP hD hS => ?_)
      obtain ⟨f_5, ef_5, hP, hD⟩ : ∃ f_5 : Nat → Int32, f_5 = _ ∧ va_P D vwCl [(A_self, .inr (7, o7 q (upd v 2 M_self_taped) w)), (q 1, .inl (c 0, 800, .inl f_5))] H ∧ va_D A [(A_self, .inr (7, o7 q (upd v 2 M_self_taped) w)), (q 1, .inl (c 0, 800, .inl f_5))] := ⟨_, rfl, hP, hD⟩
      refine lv_aload_n hx hb dX7_bytes_22 rfl (lv_at hl 0 rfl) ?_
      refine lv_dup hx hb dX7_bytes_23 rfl ?_
      refine va_get (D := D) (ci := 7) (v := .int M_self_taped) (C := RX7) (T := TX7) (N := 56) hx hb hts (fun _ h => List.mem_cons_of_mem _ (List.mem_append_right _ h)) hown hK hP 0 rfl rfl 2 (by decide) (hts (.fieldLink RX7 125 "CrownTableModel" "taped" "I") (mem_i 2 rfl)) (fun _ h9 => h9) rfl dX7_bytes_24 ?_
      refine lv_iconst (v := 1) hx hb dX7_bytes_27 (by decide) ?_
      refine lv_iadd hx hb dX7_bytes_28 ?_
      refine lv_topi (fun x_6 ex_6 => ?_)
      have tx_6 : x_6.toInt = (M_self_taped.toInt + 1) := by rw [ex_6]; exact add_ti (a := M_self_taped.toInt) (b := 1) rfl (by decide) (by omega) (by omega)
      refine va_put (D := D) (ci := 7) (v := .int x_6) (ty := .int) (C := RX7) (T := TX7) (N := 56) hx hb hts (fun _ h => List.mem_cons_of_mem _ (List.mem_append_right _ h)) tyX7 tyX7_ok nmX7 hown hK hP hD hS 0 rfl rfl 2 (by decide) (hts (.fieldLink RX7 125 "CrownTableModel" "taped" "I") (mem_i 2 rfl)) (fun _ h9 => h9) rfl (by decide +kernel) rfl rfl (Nat.le_of_ble_eq_true rfl) dX7_bytes_29 (fun H locs hP hD hS => ?_)
      have hP : va_P D vwCl [(A_self, .inr (7, o7 q (upd v 2 x_6) w)), (q 1, .inl (c 0, 800, .inl f_5))] H := hP
      have hD : va_D A [(A_self, .inr (7, o7 q (upd v 2 x_6) w)), (q 1, .inl (c 0, 800, .inl f_5))] := hD
      obtain ⟨x_7, ex_7⟩ : ∃ y : Int32, y = L2 + (-1) := ⟨_, rfl⟩
      have tx_7 : x_7.toInt = L2.toInt + (-1) := by rw [ex_7]; exact add_ti (a := L2.toInt) (b := (-1)) rfl (by decide) (by omega) (by omega)
      refine lv_iinc (v := x_7) (lv' := [(2, .int x_7), (0, .ref A_self), (1, .int a1)]) hx hb dX7_bytes_32 hl (k := 2) rfl (by rw [ex_7]; rfl) (by decide) rfl (fun ls hl => ?_)
      refine lv_goto (tgt := 2) hx hb dX7_bytes_35 (by decide) ?_
      have hl := lv_sub hl [1, 2, 0] rfl
      exact (ih2 ((x_7.toInt + 1).toNat) (by omega) x_7 x_6 f_5 (by omega) (by omega) (by omega) (by omega) rfl _ _ _ hP hD hS hl)
  have kzz_8 : (3 : Int32).toInt = 3 := by decide
  have hl := lv_sub hl [1, 2, 0] rfl
  exact (lp_2 _ 3 (v 2) f_tape (by omega) (by omega) (by omega) (by omega) rfl _ _ _ hP hD hS hl)

set_option maxHeartbeats 4000000 in
set_option maxRecDepth 100000 in
theorem k_X7_feed (l : Launch) (D : va_G) (c : Nat → ClassId) (ts : Nat × Nat) (sz : Nat) (A_self : Nat) (q : Nat → Nat) (v : Nat → Int32) (w : Nat → Int64) (f_tape : Nat → Int32) (a1 : Int32) (i_a1 : Int) (hi_a1 : a1.toInt = i_a1) (a2 : Int32) (i_a2 : Int) (hi_a2 : a2.toInt = i_a2) (a3 : Int32) (i_a3 : Int) (hi_a3 : a3.toInt = i_a3) (a4 : Int32) (i_a4 : Int) (hi_a4 : a4.toInt = i_a4) (a5 : Int32) (i_a5 : Int) (hi_a5 : a5.toInt = i_a5) (hv_2 : 0 ≤ (v 2).toInt ∧ (v 2).toInt ≤ 800) (hv_8 : 0 ≤ (v 8).toInt ∧ (v 8).toInt ≤ 10) (hv_21 : 0 ≤ (v 21).toInt ∧ (v 21).toInt ≤ 40) (hv_24 : 0 ≤ (v 24).toInt ∧ (v 24).toInt ≤ 1000) (hv_27 : 0 ≤ (v 27).toInt ∧ (v 27).toInt ≤ 400) (hv_42 : 0 ≤ (v 42).toInt ∧ (v 42).toInt ≤ 4000) (hv_52 : 0 ≤ (v 52).toInt ∧ (v 52).toInt ≤ 2000) : Met l yX7_feed wsX7_feed ({ frames := 1, cells := 0, slots := 0, locals := 22 }) (va_Pc [.ref A_self, .int a1, .int a2, .int a3, .int a4, .int a5] (Pre0 D c ts [(A_self, .inr (7, o7 q v w)), (q 1, .inl (c 0, 800, .inl f_tape))] sz)) (va_Qi (fun (r : Int32) (u : Int32 × (Nat → Int32) × Unit) => (0 ≤ u.1.toInt ∧ u.1.toInt ≤ 800)) (fun u t => va_P D vwCl [(A_self, .inr (7, o7 q (upd v 2 u.1) w)), (q 1, .inl (c 0, 800, .inl u.2.1))] t.heap ∧ va_D (va_A [(A_self, .inr (7, o7 q v w)), (q 1, .inl (c 0, 800, .inl f_tape))] sz) [(A_self, .inr (7, o7 q (upd v 2 u.1) w)), (q 1, .inl (c 0, 800, .inl u.2.1))]) (va_A [(A_self, .inr (7, o7 q v w)), (q 1, .inl (c 0, 800, .inl f_tape))] sz)) 0 0 (va_A [(A_self, .inr (7, o7 q v w)), (q 1, .inl (c 0, 800, .inl f_tape))] sz) := by
  refine Met.ofW (cc := cX7_feed) (maxL := 6) (ret := (some .int)) (by decide) rfl ?_
  intro p e s m args below meth cd s₁ B hml hv
  obtain ⟨rfl, hsz, hP, hD0, hAm, hSt⟩ := hv
  have hx := B.exec
  have hb := B.bytes
  have hr := B.returns
  have hts := atoms_spec (ws := wsX7_feed) B.pre
  have hown : s.vm.findClass RX7 = some m.cls := findClass_of_methodNamed B.named
  have hlocks := B.notSynchronized
  have hK := hAm.1
  subst hsz
  have hD := hD0.self (sz := s.heap.size)
  generalize hAe : va_A [(A_self, .inr (7, o7 q v w)), (q 1, .inl (c 0, 800, .inl f_tape))] s.heap.size = A at hD hSt ⊢
  have hA : ∀ q : Nat, s.heap.size ≤ q → A q := fun q h => by rw [← hAe]; exact Or.inr h
  have hS : va_S A s.heap s.heap [] := va_S.rf
  clear hD0 hAe
  have hl := lv_entry ([.ref A_self, .int a1, .int a2, .int a3, .int a4, .int a5]) (n := 6) (Nat.le_of_ble_eq_true rfl)
  rw [lg_entry_eq]
  generalize (lg_sl ([.ref A_self, .int a1, .int a2, .int a3, .int a4, .int a5]) ++ List.replicate (6 - (lg_sl ([.ref A_self, .int a1, .int a2, .int a3, .int a4, .int a5])).length) Slot.unset).toArray = ls at hl ⊢
  have hl : lv_has ls 6 [(0, .ref A_self), (1, .int a1), (2, .int a2), (3, .int a3), (4, .int a4), (5, .int a5)] := hl
  have rg_a1 := i32r a1
  have rg_a2 := i32r a2
  have rg_a3 := i32r a3
  have rg_a4 := i32r a4
  have rg_a5 := i32r a5
  refine lv_aload_n hx hb dX7_feed_0 rfl (lv_at hl 0 rfl) ?_
  refine va_get (D := D) (ci := 7) (v := .int (v 2)) (C := RX7) (T := TX7) (N := 56) hx hb hts (fun _ h => List.mem_cons_of_mem _ (List.mem_append_right _ h)) hown hK hP 0 rfl rfl 2 (by decide) (hts (.fieldLink RX7 125 "CrownTableModel" "taped" "I") (mem_i 1 rfl)) (fun _ h9 => h9) rfl dX7_feed_1 ?_
  refine lv_bipush (v := 20) hx hb dX7_feed_4 (by decide) ?_
  refine lv_iadd hx hb dX7_feed_6 ?_
  refine lv_topi (fun x_1 ex_1 => ?_)
  have tx_1 : x_1.toInt = ((v 2).toInt + 20) := by rw [ex_1]; exact add_ti (a := (v 2).toInt) (b := 20) rfl (by decide) (by omega) (by omega)
  refine lv_sipush (v := 800) hx hb dX7_feed_7 (by decide) ?_
  refine iicmp_le (a := ((v 2).toInt + 20)) (b := 800) (tgt := 16) hx hb tx_1 (by decide) dX7_feed_10 (by decide) (fun k_2 => ?_) (fun k_2 => ?_)
  · skip
    refine lv_aload_n hx hb dX7_feed_16 rfl (lv_at hl 0 rfl) ?_
    refine lv_iload_n hx hb dX7_feed_17 rfl (lv_at hl 1 rfl) ?_
    have hPc := hP.sub (ws' := [(A_self, .inr (7, o7 q v w)), (q 1, .inl (c 0, 800, .inl f_tape))]) [0, 1] rfl
    have hDc := hD.sub (ws' := [(A_self, .inr (7, o7 q v w)), (q 1, .inl (c 0, 800, .inl f_tape))]) [0, 1] (by decide) rfl
    have hFc := va_free (wc := [(A_self, .inr (7, o7 q v w)), (q 1, .inl (c 0, 800, .inl f_tape))]) hD hS hA [0, 1] rfl
    refine va_callv (va_runV (As := [.int a1]) (rest := []) ⟨hx, hb, hml, hown, hts⟩ (k_X7_bytes l D c ts s.heap.size A_self q v w f_tape a1 i_a1 hi_a1 (show 0 ≤ (v 2).toInt ∧ (v 2).toInt ≤ 800 by omega) (show 0 ≤ (v 8).toInt ∧ (v 8).toInt ≤ 10 by omega) (show 0 ≤ (v 21).toInt ∧ (v 21).toInt ≤ 40 by omega) (show 0 ≤ (v 24).toInt ∧ (v 24).toInt ≤ 1000 by omega) (show 0 ≤ (v 27).toInt ∧ (v 27).toInt ≤ 400 by omega) (show 0 ≤ (v 42).toInt ∧ (v 42).toInt ≤ 4000 by omega) (show 0 ≤ (v 52).toInt ∧ (v 52).toInt ≤ 2000 by omega) (show (v 2).toInt ≤ 796 by omega)) (cwV 1 hts gX7_feed_X7_bytes rfl rfl rfl ⟨rfl, hdX7_bytes⟩ ⟨(show 0 + 1 ≤ 1 by decide), (show 8 + (3 + 11) + 0 ≤ 22 by decide)⟩) ⟨Pre0.blind, va_recv hK hPc (ci := 7) (q0 := 0) rfl rfl, Pre0.at hPc hDc hAm hSt hS hFc⟩ rfl rfl hl.1 rfl (lv_room (Nat.le_of_ble_eq_true rfl)) dX7_feed_18 ⟨(show 0 + 0 ≤ 0 by decide), (show 0 + 0 ≤ 0 by decide)⟩) hS (fun q _ h => hFc q h) hFc (fun u_5 t1 H locs ht hvm hw_3 hB_9 hz1_9 hk1_9 hS => ?_)
    obtain ⟨y_6, f_7, _⟩ := u_5
    have hw_3 : (0 ≤ y_6.toInt ∧ y_6.toInt ≤ 800) ∧ (y_6.toInt = (v 2).toInt + 4) := hw_3
    obtain ⟨hw_8, hw_9⟩ := hw_3
    obtain ⟨hP1_9, hD1_9⟩ := hB_9
    rw [ht] at hP1_9
    have hP1_9 : va_P D vwCl [(A_self, .inr (7, o7 q (upd v 2 y_6) w)), (q 1, .inl (c 0, 800, .inl f_7))] H := hP1_9
    obtain ⟨hP, hD⟩ := va_join (wr := []) (w1 := [(A_self, .inr (7, o7 q (upd v 2 y_6) w)), (q 1, .inl (c 0, 800, .inl f_7))]) hP hD [0, 1] [] rfl rfl (by decide) (by decide) hk1_9 hFc hP1_9 hD1_9
    have hP : va_P D vwCl [(A_self, .inr (7, o7 q (upd v 2 y_6) w)), (q 1, .inl (c 0, 800, .inl f_7))] H := hP
    have hD : va_D A [(A_self, .inr (7, o7 q (upd v 2 y_6) w)), (q 1, .inl (c 0, 800, .inl f_7))] := hD
    refine W.widen (k := 0) (n := 0) (by omega) (by omega) ?_
    refine lv_aload_n hx hb dX7_feed_21 rfl (lv_at hl 0 rfl) ?_
    refine lv_iload_n hx hb dX7_feed_22 rfl (lv_at hl 2 rfl) ?_
    have hPc := hP.sub (ws' := [(A_self, .inr (7, o7 q (upd v 2 y_6) w)), (q 1, .inl (c 0, 800, .inl f_7))]) [0, 1] rfl
    have hDc := hD.sub (ws' := [(A_self, .inr (7, o7 q (upd v 2 y_6) w)), (q 1, .inl (c 0, 800, .inl f_7))]) [0, 1] (by decide) rfl
    have hFc := va_free (wc := [(A_self, .inr (7, o7 q (upd v 2 y_6) w)), (q 1, .inl (c 0, 800, .inl f_7))]) hD hS hA [0, 1] rfl
    refine va_callv (va_runV (As := [.int a2]) (rest := []) ⟨hx, hb, hml, hown, hts⟩ (k_X7_bytes l D c ts H.size A_self q (upd v 2 y_6) w f_7 a2 i_a2 hi_a2 (show 0 ≤ y_6.toInt ∧ y_6.toInt ≤ 800 by omega) (show 0 ≤ (v 8).toInt ∧ (v 8).toInt ≤ 10 by omega) (show 0 ≤ (v 21).toInt ∧ (v 21).toInt ≤ 40 by omega) (show 0 ≤ (v 24).toInt ∧ (v 24).toInt ≤ 1000 by omega) (show 0 ≤ (v 27).toInt ∧ (v 27).toInt ≤ 400 by omega) (show 0 ≤ (v 42).toInt ∧ (v 42).toInt ≤ 4000 by omega) (show 0 ≤ (v 52).toInt ∧ (v 52).toInt ≤ 2000 by omega) (show y_6.toInt ≤ 796 by omega)) (cwV 1 hts gX7_feed_X7_bytes rfl rfl rfl ⟨rfl, hdX7_bytes⟩ ⟨(show 0 + 1 ≤ 1 by decide), (show 8 + (3 + 11) + 0 ≤ 22 by decide)⟩) ⟨Pre0.blind, va_recv hK hPc (ci := 7) (q0 := 0) rfl rfl, Pre0.at hPc hDc hAm hSt hS hFc⟩ rfl rfl hl.1 rfl (lv_room (Nat.le_of_ble_eq_true rfl)) dX7_feed_23 ⟨(show 0 + 0 ≤ 0 by decide), (show 0 + 0 ≤ 0 by decide)⟩) hS (fun q _ h => hFc q h) hFc (fun u_12 t1 H locs ht hvm hw_10 hB_9 hz1_9 hk1_9 hS => ?_)
    obtain ⟨y_13, f_14, _⟩ := u_12
    have hw_10 : (0 ≤ y_13.toInt ∧ y_13.toInt ≤ 800) ∧ (y_13.toInt = y_6.toInt + 4) := hw_10
    obtain ⟨hw_15, hw_16⟩ := hw_10
    obtain ⟨hP1_9, hD1_9⟩ := hB_9
    rw [ht] at hP1_9
    have hP1_9 : va_P D vwCl [(A_self, .inr (7, o7 q (upd v 2 y_13) w)), (q 1, .inl (c 0, 800, .inl f_14))] H := hP1_9
    obtain ⟨hP, hD⟩ := va_join (wr := []) (w1 := [(A_self, .inr (7, o7 q (upd v 2 y_13) w)), (q 1, .inl (c 0, 800, .inl f_14))]) hP hD [0, 1] [] rfl rfl (by decide) (by decide) hk1_9 hFc hP1_9 hD1_9
    have hP : va_P D vwCl [(A_self, .inr (7, o7 q (upd v 2 y_13) w)), (q 1, .inl (c 0, 800, .inl f_14))] H := hP
    have hD : va_D A [(A_self, .inr (7, o7 q (upd v 2 y_13) w)), (q 1, .inl (c 0, 800, .inl f_14))] := hD
    refine W.widen (k := 0) (n := 0) (by omega) (by omega) ?_
    refine lv_aload_n hx hb dX7_feed_26 rfl (lv_at hl 0 rfl) ?_
    refine lv_iload_n hx hb dX7_feed_27 rfl (lv_at hl 3 rfl) ?_
    have hPc := hP.sub (ws' := [(A_self, .inr (7, o7 q (upd v 2 y_13) w)), (q 1, .inl (c 0, 800, .inl f_14))]) [0, 1] rfl
    have hDc := hD.sub (ws' := [(A_self, .inr (7, o7 q (upd v 2 y_13) w)), (q 1, .inl (c 0, 800, .inl f_14))]) [0, 1] (by decide) rfl
    have hFc := va_free (wc := [(A_self, .inr (7, o7 q (upd v 2 y_13) w)), (q 1, .inl (c 0, 800, .inl f_14))]) hD hS hA [0, 1] rfl
    refine va_callv (va_runV (As := [.int a3]) (rest := []) ⟨hx, hb, hml, hown, hts⟩ (k_X7_bytes l D c ts H.size A_self q (upd v 2 y_13) w f_14 a3 i_a3 hi_a3 (show 0 ≤ y_13.toInt ∧ y_13.toInt ≤ 800 by omega) (show 0 ≤ (v 8).toInt ∧ (v 8).toInt ≤ 10 by omega) (show 0 ≤ (v 21).toInt ∧ (v 21).toInt ≤ 40 by omega) (show 0 ≤ (v 24).toInt ∧ (v 24).toInt ≤ 1000 by omega) (show 0 ≤ (v 27).toInt ∧ (v 27).toInt ≤ 400 by omega) (show 0 ≤ (v 42).toInt ∧ (v 42).toInt ≤ 4000 by omega) (show 0 ≤ (v 52).toInt ∧ (v 52).toInt ≤ 2000 by omega) (show y_13.toInt ≤ 796 by omega)) (cwV 1 hts gX7_feed_X7_bytes rfl rfl rfl ⟨rfl, hdX7_bytes⟩ ⟨(show 0 + 1 ≤ 1 by decide), (show 8 + (3 + 11) + 0 ≤ 22 by decide)⟩) ⟨Pre0.blind, va_recv hK hPc (ci := 7) (q0 := 0) rfl rfl, Pre0.at hPc hDc hAm hSt hS hFc⟩ rfl rfl hl.1 rfl (lv_room (Nat.le_of_ble_eq_true rfl)) dX7_feed_28 ⟨(show 0 + 0 ≤ 0 by decide), (show 0 + 0 ≤ 0 by decide)⟩) hS (fun q _ h => hFc q h) hFc (fun u_19 t1 H locs ht hvm hw_17 hB_9 hz1_9 hk1_9 hS => ?_)
    obtain ⟨y_20, f_21, _⟩ := u_19
    have hw_17 : (0 ≤ y_20.toInt ∧ y_20.toInt ≤ 800) ∧ (y_20.toInt = y_13.toInt + 4) := hw_17
    obtain ⟨hw_22, hw_23⟩ := hw_17
    obtain ⟨hP1_9, hD1_9⟩ := hB_9
    rw [ht] at hP1_9
    have hP1_9 : va_P D vwCl [(A_self, .inr (7, o7 q (upd v 2 y_20) w)), (q 1, .inl (c 0, 800, .inl f_21))] H := hP1_9
    obtain ⟨hP, hD⟩ := va_join (wr := []) (w1 := [(A_self, .inr (7, o7 q (upd v 2 y_20) w)), (q 1, .inl (c 0, 800, .inl f_21))]) hP hD [0, 1] [] rfl rfl (by decide) (by decide) hk1_9 hFc hP1_9 hD1_9
    have hP : va_P D vwCl [(A_self, .inr (7, o7 q (upd v 2 y_20) w)), (q 1, .inl (c 0, 800, .inl f_21))] H := hP
    have hD : va_D A [(A_self, .inr (7, o7 q (upd v 2 y_20) w)), (q 1, .inl (c 0, 800, .inl f_21))] := hD
    refine W.widen (k := 0) (n := 0) (by omega) (by omega) ?_
    refine lv_aload_n hx hb dX7_feed_31 rfl (lv_at hl 0 rfl) ?_
    refine lv_iload hx hb dX7_feed_32 (lv_at hl 4 rfl) ?_
    have hPc := hP.sub (ws' := [(A_self, .inr (7, o7 q (upd v 2 y_20) w)), (q 1, .inl (c 0, 800, .inl f_21))]) [0, 1] rfl
    have hDc := hD.sub (ws' := [(A_self, .inr (7, o7 q (upd v 2 y_20) w)), (q 1, .inl (c 0, 800, .inl f_21))]) [0, 1] (by decide) rfl
    have hFc := va_free (wc := [(A_self, .inr (7, o7 q (upd v 2 y_20) w)), (q 1, .inl (c 0, 800, .inl f_21))]) hD hS hA [0, 1] rfl
    refine va_callv (va_runV (As := [.int a4]) (rest := []) ⟨hx, hb, hml, hown, hts⟩ (k_X7_bytes l D c ts H.size A_self q (upd v 2 y_20) w f_21 a4 i_a4 hi_a4 (show 0 ≤ y_20.toInt ∧ y_20.toInt ≤ 800 by omega) (show 0 ≤ (v 8).toInt ∧ (v 8).toInt ≤ 10 by omega) (show 0 ≤ (v 21).toInt ∧ (v 21).toInt ≤ 40 by omega) (show 0 ≤ (v 24).toInt ∧ (v 24).toInt ≤ 1000 by omega) (show 0 ≤ (v 27).toInt ∧ (v 27).toInt ≤ 400 by omega) (show 0 ≤ (v 42).toInt ∧ (v 42).toInt ≤ 4000 by omega) (show 0 ≤ (v 52).toInt ∧ (v 52).toInt ≤ 2000 by omega) (show y_20.toInt ≤ 796 by omega)) (cwV 1 hts gX7_feed_X7_bytes rfl rfl rfl ⟨rfl, hdX7_bytes⟩ ⟨(show 0 + 1 ≤ 1 by decide), (show 8 + (3 + 11) + 0 ≤ 22 by decide)⟩) ⟨Pre0.blind, va_recv hK hPc (ci := 7) (q0 := 0) rfl rfl, Pre0.at hPc hDc hAm hSt hS hFc⟩ rfl rfl hl.1 rfl (lv_room (Nat.le_of_ble_eq_true rfl)) dX7_feed_34 ⟨(show 0 + 0 ≤ 0 by decide), (show 0 + 0 ≤ 0 by decide)⟩) hS (fun q _ h => hFc q h) hFc (fun u_26 t1 H locs ht hvm hw_24 hB_9 hz1_9 hk1_9 hS => ?_)
    obtain ⟨y_27, f_28, _⟩ := u_26
    have hw_24 : (0 ≤ y_27.toInt ∧ y_27.toInt ≤ 800) ∧ (y_27.toInt = y_20.toInt + 4) := hw_24
    obtain ⟨hw_29, hw_30⟩ := hw_24
    obtain ⟨hP1_9, hD1_9⟩ := hB_9
    rw [ht] at hP1_9
    have hP1_9 : va_P D vwCl [(A_self, .inr (7, o7 q (upd v 2 y_27) w)), (q 1, .inl (c 0, 800, .inl f_28))] H := hP1_9
    obtain ⟨hP, hD⟩ := va_join (wr := []) (w1 := [(A_self, .inr (7, o7 q (upd v 2 y_27) w)), (q 1, .inl (c 0, 800, .inl f_28))]) hP hD [0, 1] [] rfl rfl (by decide) (by decide) hk1_9 hFc hP1_9 hD1_9
    have hP : va_P D vwCl [(A_self, .inr (7, o7 q (upd v 2 y_27) w)), (q 1, .inl (c 0, 800, .inl f_28))] H := hP
    have hD : va_D A [(A_self, .inr (7, o7 q (upd v 2 y_27) w)), (q 1, .inl (c 0, 800, .inl f_28))] := hD
    refine W.widen (k := 0) (n := 0) (by omega) (by omega) ?_
    refine lv_aload_n hx hb dX7_feed_37 rfl (lv_at hl 0 rfl) ?_
    refine lv_iload hx hb dX7_feed_38 (lv_at hl 5 rfl) ?_
    have hPc := hP.sub (ws' := [(A_self, .inr (7, o7 q (upd v 2 y_27) w)), (q 1, .inl (c 0, 800, .inl f_28))]) [0, 1] rfl
    have hDc := hD.sub (ws' := [(A_self, .inr (7, o7 q (upd v 2 y_27) w)), (q 1, .inl (c 0, 800, .inl f_28))]) [0, 1] (by decide) rfl
    have hFc := va_free (wc := [(A_self, .inr (7, o7 q (upd v 2 y_27) w)), (q 1, .inl (c 0, 800, .inl f_28))]) hD hS hA [0, 1] rfl
    refine va_callv (va_runV (As := [.int a5]) (rest := []) ⟨hx, hb, hml, hown, hts⟩ (k_X7_bytes l D c ts H.size A_self q (upd v 2 y_27) w f_28 a5 i_a5 hi_a5 (show 0 ≤ y_27.toInt ∧ y_27.toInt ≤ 800 by omega) (show 0 ≤ (v 8).toInt ∧ (v 8).toInt ≤ 10 by omega) (show 0 ≤ (v 21).toInt ∧ (v 21).toInt ≤ 40 by omega) (show 0 ≤ (v 24).toInt ∧ (v 24).toInt ≤ 1000 by omega) (show 0 ≤ (v 27).toInt ∧ (v 27).toInt ≤ 400 by omega) (show 0 ≤ (v 42).toInt ∧ (v 42).toInt ≤ 4000 by omega) (show 0 ≤ (v 52).toInt ∧ (v 52).toInt ≤ 2000 by omega) (show y_27.toInt ≤ 796 by omega)) (cwV 1 hts gX7_feed_X7_bytes rfl rfl rfl ⟨rfl, hdX7_bytes⟩ ⟨(show 0 + 1 ≤ 1 by decide), (show 8 + (3 + 11) + 0 ≤ 22 by decide)⟩) ⟨Pre0.blind, va_recv hK hPc (ci := 7) (q0 := 0) rfl rfl, Pre0.at hPc hDc hAm hSt hS hFc⟩ rfl rfl hl.1 rfl (lv_room (Nat.le_of_ble_eq_true rfl)) dX7_feed_40 ⟨(show 0 + 0 ≤ 0 by decide), (show 0 + 0 ≤ 0 by decide)⟩) hS (fun q _ h => hFc q h) hFc (fun u_33 t1 H locs ht hvm hw_31 hB_9 hz1_9 hk1_9 hS => ?_)
    obtain ⟨y_34, f_35, _⟩ := u_33
    have hw_31 : (0 ≤ y_34.toInt ∧ y_34.toInt ≤ 800) ∧ (y_34.toInt = y_27.toInt + 4) := hw_31
    obtain ⟨hw_36, hw_37⟩ := hw_31
    obtain ⟨hP1_9, hD1_9⟩ := hB_9
    rw [ht] at hP1_9
    have hP1_9 : va_P D vwCl [(A_self, .inr (7, o7 q (upd v 2 y_34) w)), (q 1, .inl (c 0, 800, .inl f_35))] H := hP1_9
    obtain ⟨hP, hD⟩ := va_join (wr := []) (w1 := [(A_self, .inr (7, o7 q (upd v 2 y_34) w)), (q 1, .inl (c 0, 800, .inl f_35))]) hP hD [0, 1] [] rfl rfl (by decide) (by decide) hk1_9 hFc hP1_9 hD1_9
    have hP : va_P D vwCl [(A_self, .inr (7, o7 q (upd v 2 y_34) w)), (q 1, .inl (c 0, 800, .inl f_35))] H := hP
    have hD : va_D A [(A_self, .inr (7, o7 q (upd v 2 y_34) w)), (q 1, .inl (c 0, 800, .inl f_35))] := hD
    refine W.widen (k := 0) (n := 0) (by omega) (by omega) ?_
    refine lv_aload_n hx hb dX7_feed_43 rfl (lv_at hl 0 rfl) ?_
    refine va_get (D := D) (ci := 7) (v := .int y_34) (C := RX7) (T := TX7) (N := 56) hx hb hts (fun _ h => List.mem_cons_of_mem _ (List.mem_append_right _ h)) hown hK hP 0 rfl rfl 2 (by decide) (hts (.fieldLink RX7 125 "CrownTableModel" "taped" "I") (mem_i 1 rfl)) (fun _ h9 => h9) rfl dX7_feed_44 ?_
    have hP9 := hP.sub (ws' := [(A_self, .inr (7, o7 q (upd v 2 y_34) w)), (q 1, .inl (c 0, 800, .inl f_35))]) [0, 1] rfl
    have hD9 := hD.sub (ws' := [(A_self, .inr (7, o7 q (upd v 2 y_34) w)), (q 1, .inl (c 0, 800, .inl f_35))]) [0, 1] (by decide) rfl
    refine W.widen (k := 0) (n := 0) (by omega) (by omega) ?_
    exact W.iret (v := y_34) hx hb hr (fun t ht hW => ⟨⟨_, (y_34, f_35, ()), rfl, (show 0 ≤ y_34.toInt ∧ y_34.toInt ≤ 800 by omega), ⟨by rw [ht]; exact hP9, hD9⟩⟩, hS.F ht⟩) hS.2.2 dX7_feed_47
  · skip
    refine lv_bipush (v := (-3)) hx hb dX7_feed_13 (by decide) ?_
    have kzz_38 : ((-3) : Int32).toInt = (-3) := by decide
    have hP9 := hP.sub (ws' := [(A_self, .inr (7, o7 q v w)), (q 1, .inl (c 0, 800, .inl f_tape))]) [0, 1] rfl
    have hD9 := hD.sub (ws' := [(A_self, .inr (7, o7 q v w)), (q 1, .inl (c 0, 800, .inl f_tape))]) [0, 1] (by decide) rfl
    refine W.widen (k := 0) (n := 0) (by omega) (by omega) ?_
    exact W.iret (v := (-3)) hx hb hr (fun t ht hW => ⟨⟨_, ((v 2), f_tape, ()), rfl, (show 0 ≤ (v 2).toInt ∧ (v 2).toInt ≤ 800 by omega), ⟨by rw [ht]; exact hP9, hD9⟩⟩, hS.F ht⟩) hS.2.2 dX7_feed_15

set_option maxHeartbeats 4000000 in
set_option maxRecDepth 100000 in
theorem k_X7_end (l : Launch) (D : va_G) (c : Nat → ClassId) (ts : Nat × Nat) (sz : Nat) (A_self : Nat) (q : Nat → Nat) (v : Nat → Int32) (w : Nat → Int64) (a1 : Int32) (i_a1 : Int) (hi_a1 : a1.toInt = i_a1) (hv_2 : 0 ≤ (v 2).toInt ∧ (v 2).toInt ≤ 800) (hv_8 : 0 ≤ (v 8).toInt ∧ (v 8).toInt ≤ 10) (hv_21 : 0 ≤ (v 21).toInt ∧ (v 21).toInt ≤ 40) (hv_24 : 0 ≤ (v 24).toInt ∧ (v 24).toInt ≤ 1000) (hv_27 : 0 ≤ (v 27).toInt ∧ (v 27).toInt ≤ 400) (hv_42 : 0 ≤ (v 42).toInt ∧ (v 42).toInt ≤ 4000) (hv_52 : 0 ≤ (v 52).toInt ∧ (v 52).toInt ≤ 2000) : Met l yX7_end wsX7_end ({ frames := 1, cells := 0, slots := 0, locals := 22 }) (va_Pc [.ref A_self, .int a1] (Pre0 D c ts [(A_self, .inr (7, o7 q v w))] sz)) (va_Qi (fun (r : Int32) (u : Int32 × Unit) => (0 ≤ u.1.toInt ∧ u.1.toInt ≤ 800)) (fun u t => va_P D vwCl [(A_self, .inr (7, o7 q (upd v 2 u.1) w))] t.heap ∧ va_D (va_A [(A_self, .inr (7, o7 q v w))] sz) [(A_self, .inr (7, o7 q (upd v 2 u.1) w))]) (va_A [(A_self, .inr (7, o7 q v w))] sz)) 0 0 (va_A [(A_self, .inr (7, o7 q v w))] sz) := by
  refine Met.ofW (cc := cX7_end) (maxL := 2) (ret := (some .int)) (by decide) rfl ?_
  intro p e s m args below meth cd s₁ B hml hv
  obtain ⟨rfl, hsz, hP, hD0, hAm, hSt⟩ := hv
  have hx := B.exec
  have hb := B.bytes
  have hr := B.returns
  have hts := atoms_spec (ws := wsX7_end) B.pre
  have hown : s.vm.findClass RX7 = some m.cls := findClass_of_methodNamed B.named
  have hlocks := B.notSynchronized
  have hK := hAm.1
  subst hsz
  have hD := hD0.self (sz := s.heap.size)
  generalize hAe : va_A [(A_self, .inr (7, o7 q v w))] s.heap.size = A at hD hSt ⊢
  have hA : ∀ q : Nat, s.heap.size ≤ q → A q := fun q h => by rw [← hAe]; exact Or.inr h
  have hS : va_S A s.heap s.heap [] := va_S.rf
  clear hD0 hAe
  have hl := lv_entry ([.ref A_self, .int a1]) (n := 2) (Nat.le_of_ble_eq_true rfl)
  rw [lg_entry_eq]
  generalize (lg_sl ([.ref A_self, .int a1]) ++ List.replicate (2 - (lg_sl ([.ref A_self, .int a1])).length) Slot.unset).toArray = ls at hl ⊢
  have hl : lv_has ls 2 [(0, .ref A_self), (1, .int a1)] := hl
  have rg_a1 := i32r a1
  refine lv_iload_n hx hb dX7_end_0 rfl (lv_at hl 1 rfl) ?_
  refine lv_iconst (v := 0) hx hb dX7_end_1 (by decide) ?_
  refine lv_aload_n hx hb dX7_end_2 rfl (lv_at hl 0 rfl) ?_
  refine va_get (D := D) (ci := 7) (v := .int (v 2)) (C := RX7) (T := TX7) (N := 56) hx hb hts (fun _ h => List.mem_cons_of_mem _ (List.mem_append_right _ h)) hown hK hP 0 rfl rfl 2 (by decide) (hts (.fieldLink RX7 125 "CrownTableModel" "taped" "I") (mem_i 1 rfl)) (fun _ h9 => h9) rfl dX7_end_3 ?_
  have hPc := hP.sub (ws' := []) [] rfl
  have hDc := hD.sub (ws' := []) [] (by decide) rfl
  have hFc := va_free (wc := []) hD hS hA [] rfl
  have kzz_1 : (0 : Int32).toInt = 0 := by decide
  refine va_csi (va_runS (As := [.int a1, .int 0, .int (v 2)]) (rest := []) ⟨hx, hb, hml, hown, hts⟩ (k_X7_in l D c ts s.heap.size a1 i_a1 hi_a1 0 0 (by decide) (v 2) ((v 2).toInt) rfl) (cwS 3 hts gX7_end_X7_in rfl rfl rfl ⟨rfl, hdX7_in⟩ ⟨(show 0 + 1 ≤ 1 by decide), (show 8 + (3 + 11) + 0 ≤ 22 by decide)⟩) ⟨Pre0.blind, Pre0.at hPc hDc hAm hSt hS hFc⟩ rfl rfl hl.1 rfl (lv_room (Nat.le_of_ble_eq_true rfl)) dX7_end_6 ⟨(show 0 + 0 ≤ 0 by decide), (show 0 + 0 ≤ 0 by decide)⟩) (fun r_3 hw_2 => ?_)
  rcases hw_2 with ⟨hw_2, rfl⟩ | ⟨hw_2, rfl⟩
  · skip
    refine iif_neT (a := 1) (tgt := 14) hx hb (by decide) dX7_end_9 (by decide) (by decide) ?_
    refine lv_aload_n hx hb dX7_end_14 rfl (lv_at hl 0 rfl) ?_
    refine lv_iload_n hx hb dX7_end_15 rfl (lv_at hl 1 rfl) ?_
    refine va_put (D := D) (ci := 7) (v := .int a1) (ty := .int) (C := RX7) (T := TX7) (N := 56) hx hb hts (fun _ h => List.mem_cons_of_mem _ (List.mem_append_right _ h)) tyX7 tyX7_ok nmX7 hown hK hP hD hS 0 rfl rfl 2 (by decide) (hts (.fieldLink RX7 125 "CrownTableModel" "taped" "I") (mem_i 1 rfl)) (fun _ h9 => h9) rfl (by decide +kernel) rfl rfl (Nat.le_of_ble_eq_true rfl) dX7_end_16 (fun H locs hP hD hS => ?_)
    have hP : va_P D vwCl [(A_self, .inr (7, o7 q (upd v 2 a1) w))] H := hP
    have hD : va_D A [(A_self, .inr (7, o7 q (upd v 2 a1) w))] := hD
    refine lv_iload_n hx hb dX7_end_19 rfl (lv_at hl 1 rfl) ?_
    have hP9 := hP.sub (ws' := [(A_self, .inr (7, o7 q (upd v 2 a1) w))]) [0] rfl
    have hD9 := hD.sub (ws' := [(A_self, .inr (7, o7 q (upd v 2 a1) w))]) [0] (by decide) rfl
    refine W.widen (k := 0) (n := 0) (by omega) (by omega) ?_
    exact W.iret (v := a1) hx hb hr (fun t ht hW => ⟨⟨_, (a1, ()), rfl, (show 0 ≤ a1.toInt ∧ a1.toInt ≤ 800 by omega), ⟨by rw [ht]; exact hP9, hD9⟩⟩, hS.F ht⟩) hS.2.2 dX7_end_20
  · skip
    refine iif_neF (a := 0) (tgt := 14) hx hb (by decide) dX7_end_9 (by decide) (by decide) ?_
    refine lv_iconst (v := (-1)) hx hb dX7_end_12 (by decide) ?_
    have kzz_4 : ((-1) : Int32).toInt = (-1) := by decide
    have hP9 := hP.sub (ws' := [(A_self, .inr (7, o7 q v w))]) [0] rfl
    have hD9 := hD.sub (ws' := [(A_self, .inr (7, o7 q v w))]) [0] (by decide) rfl
    refine W.widen (k := 0) (n := 0) (by omega) (by omega) ?_
    exact W.iret (v := (-1)) hx hb hr (fun t ht hW => ⟨⟨_, ((v 2), ()), rfl, (show 0 ≤ (v 2).toInt ∧ (v 2).toInt ≤ 800 by omega), ⟨by rw [ht]; exact hP9, hD9⟩⟩, hS.F ht⟩) hS.2.2 dX7_end_13

set_option maxHeartbeats 4000000 in
set_option maxRecDepth 100000 in
theorem k_X7_statements (l : Launch) (D : va_G) (c : Nat → ClassId) (ts : Nat × Nat) (sz : Nat) (A_self : Nat) (q : Nat → Nat) (v : Nat → Int32) (w : Nat → Int64) (f_many : Nat → Int32) (a1 : Int32) (i_a1 : Int) (hi_a1 : a1.toInt = i_a1) (hv_2 : 0 ≤ (v 2).toInt ∧ (v 2).toInt ≤ 800) (hv_8 : 0 ≤ (v 8).toInt ∧ (v 8).toInt ≤ 10) (hv_21 : 0 ≤ (v 21).toInt ∧ (v 21).toInt ≤ 40) (hv_24 : 0 ≤ (v 24).toInt ∧ (v 24).toInt ≤ 1000) (hv_27 : 0 ≤ (v 27).toInt ∧ (v 27).toInt ≤ 400) (hv_42 : 0 ≤ (v 42).toInt ∧ (v 42).toInt ≤ 4000) (hv_52 : 0 ≤ (v 52).toInt ∧ (v 52).toInt ≤ 2000) (hc_many : ∀ j : Nat, 0 ≤ (f_many j).toInt ∧ (f_many j).toInt ≤ 40) : Met l yX7_statements wsX7_statements ({ frames := 2, cells := 0, slots := 0, locals := 43 }) (va_Pc [.ref A_self, .int a1] (Pre0 D c ts [(A_self, .inr (7, o7 q v w)), (q 9, .inl (c 1, 10, .inl f_many))] sz)) (vp_Si (fun r : Int32 => True)) 0 0 (fun _ => False) := by
  refine Met.ofW (cc := cX7_statements) (maxL := 2) (ret := (some .int)) (by decide) rfl ?_
  intro p e s m args below meth cd s₁ B hml hv
  obtain ⟨rfl, hsz, hP, hD0, hAm, hSt⟩ := hv
  have hx := B.exec
  have hb := B.bytes
  have hr := B.returns
  have hts := atoms_spec (ws := wsX7_statements) B.pre
  have hown : s.vm.findClass RX7 = some m.cls := findClass_of_methodNamed B.named
  have hlocks := B.notSynchronized
  have hK := hAm.1
  subst hsz
  have hD := hD0.self (sz := s.heap.size)
  generalize hAe : va_A [(A_self, .inr (7, o7 q v w)), (q 9, .inl (c 1, 10, .inl f_many))] s.heap.size = A at hD hSt
  have hA : ∀ q : Nat, s.heap.size ≤ q → A q := fun q h => by rw [← hAe]; exact Or.inr h
  have hS : va_S A s.heap s.heap [] := va_S.rf
  clear hD0 hAe
  have hl := lv_entry ([.ref A_self, .int a1]) (n := 2) (Nat.le_of_ble_eq_true rfl)
  rw [lg_entry_eq]
  generalize (lg_sl ([.ref A_self, .int a1]) ++ List.replicate (2 - (lg_sl ([.ref A_self, .int a1])).length) Slot.unset).toArray = ls at hl ⊢
  have hl : lv_has ls 2 [(0, .ref A_self), (1, .int a1)] := hl
  have rg_a1 := i32r a1
  refine lv_aload_n hx hb dX7_statements_0 rfl (lv_at hl 0 rfl) ?_
  refine lv_iload_n hx hb dX7_statements_1 rfl (lv_at hl 1 rfl) ?_
  have hPc := hP.sub (ws' := [(A_self, .inr (7, o7 q v w))]) [0] rfl
  have hDc := hD.sub (ws' := [(A_self, .inr (7, o7 q v w))]) [0] (by decide) rfl
  have hFc := va_free (wc := [(A_self, .inr (7, o7 q v w))]) hD hS hA [0] rfl
  refine va_csi (va_runV (As := [.int a1]) (rest := []) ⟨hx, hb, hml, hown, hts⟩ (k_X7_isText l D c ts s.heap.size A_self q v w a1 i_a1 hi_a1 (show 0 ≤ (v 2).toInt ∧ (v 2).toInt ≤ 800 by omega) (show 0 ≤ (v 8).toInt ∧ (v 8).toInt ≤ 10 by omega) (show 0 ≤ (v 21).toInt ∧ (v 21).toInt ≤ 40 by omega) (show 0 ≤ (v 24).toInt ∧ (v 24).toInt ≤ 1000 by omega) (show 0 ≤ (v 27).toInt ∧ (v 27).toInt ≤ 400 by omega) (show 0 ≤ (v 42).toInt ∧ (v 42).toInt ≤ 4000 by omega) (show 0 ≤ (v 52).toInt ∧ (v 52).toInt ≤ 2000 by omega)) (cwV 1 hts gX7_statements_X7_isText rfl rfl rfl ⟨rfl, hdX7_isText⟩ ⟨(show 1 + 1 ≤ 2 by decide), (show 8 + (2 + 11) + 22 ≤ 43 by decide)⟩) ⟨Pre0.blind, va_recv hK hPc (ci := 7) (q0 := 0) rfl rfl, Pre0.at hPc hDc hAm hSt hS hFc⟩ rfl rfl hl.1 rfl (lv_room (Nat.le_of_ble_eq_true rfl)) dX7_statements_2 ⟨(show 0 + 0 ≤ 0 by decide), (show 0 + 0 ≤ 0 by decide)⟩) (fun r_2 hw_1 => ?_)
  have hw_1 : (((0 ≤ i_a1 ∧ i_a1 ≤ (v 8).toInt - 1) ∧ r_2 = 1) ∨ ((¬ (0 ≤ i_a1 ∧ i_a1 ≤ (v 8).toInt - 1)) ∧ r_2 = 0)) := hw_1
  rcases hw_1 with ⟨hw_1, rfl⟩ | ⟨hw_1, rfl⟩
  · skip
    refine iif_eqF (a := 1) (tgt := 17) hx hb (by decide) dX7_statements_5 (by decide) (by decide) ?_
    refine lv_aload_n hx hb dX7_statements_8 rfl (lv_at hl 0 rfl) ?_
    refine va_get (D := D) (ci := 7) (v := .ref (q 9)) (C := RX7) (T := TX7) (N := 56) hx hb hts (fun _ h => List.mem_cons_of_mem _ (List.mem_append_right _ h)) hown hK hP 0 rfl rfl 9 (by decide) (hts (.fieldLink RX7 13 "CrownTableModel" "many" "[I") (mem_i 1 rfl)) (fun _ h9 => h9) rfl dX7_statements_9 ?_
    refine lv_iload_n hx hb dX7_statements_12 rfl (lv_at hl 1 rfl) ?_
    refine va_iald hx hb hK hP 1 1 rfl rfl (vin (a := i_a1) hi_a1 (by omega) (by omega)) dX7_statements_13 ?_
    refine lv_topi (fun x_3 ex_3 => ?_)
    have ld_4 := hc_many (a1.toNatClampNeg)
    rw [← ex_3] at ld_4
    refine lv_goto (tgt := 18) hx hb dX7_statements_14 (by decide) ?_
    exact W.iret (v := x_3) hx hb hr (fun t ht hW => ⟨_, rfl, trivial, ht⟩) (fun _ h => by cases h) dX7_statements_18
  · skip
    refine iif_eqT (a := 0) (tgt := 17) hx hb (by decide) dX7_statements_5 (by decide) (by decide) ?_
    refine lv_iconst (v := (-1)) hx hb dX7_statements_17 (by decide) ?_
    have kzz_5 : ((-1) : Int32).toInt = (-1) := by decide
    exact W.iret (v := (-1)) hx hb hr (fun t ht hW => ⟨_, rfl, trivial, ht⟩) (fun _ h => by cases h) dX7_statements_18

set_option maxHeartbeats 4000000 in
set_option maxRecDepth 100000 in
theorem k_X7_force (l : Launch) (D : va_G) (c : Nat → ClassId) (ts : Nat × Nat) (sz : Nat) (A_self : Nat) (q : Nat → Nat) (v : Nat → Int32) (w : Nat → Int64) (f_forceText : Nat → Int32) (f_forceFrom : Nat → Int32) (a1 : Int32) (i_a1 : Int) (hi_a1 : a1.toInt = i_a1) (a2 : Int32) (i_a2 : Int) (hi_a2 : a2.toInt = i_a2) (hv_2 : 0 ≤ (v 2).toInt ∧ (v 2).toInt ≤ 800) (hv_8 : 0 ≤ (v 8).toInt ∧ (v 8).toInt ≤ 10) (hv_21 : 0 ≤ (v 21).toInt ∧ (v 21).toInt ≤ 40) (hv_24 : 0 ≤ (v 24).toInt ∧ (v 24).toInt ≤ 1000) (hv_27 : 0 ≤ (v 27).toInt ∧ (v 27).toInt ≤ 400) (hv_42 : 0 ≤ (v 42).toInt ∧ (v 42).toInt ≤ 4000) (hv_52 : 0 ≤ (v 52).toInt ∧ (v 52).toInt ≤ 2000) (hc_forceText : ∀ j : Nat, 0 ≤ (f_forceText j).toInt ∧ (f_forceText j).toInt ≤ 9) : Met l yX7_force wsX7_force ({ frames := 2, cells := 0, slots := 0, locals := 43 }) (va_Pc [.ref A_self, .int a1, .int a2] (Pre0 D c ts [(A_self, .inr (7, o7 q v w)), (q 22, .inl (c 1, 40, .inl f_forceText)), (q 23, .inl (c 1, 40, .inl f_forceFrom))] sz)) (va_Qi (fun (r : Int32) (u : Int32 × (Nat → Int32) × (Nat → Int32) × Unit) => (0 ≤ u.1.toInt ∧ u.1.toInt ≤ 40) ∧ (∀ j : Nat, 0 ≤ (u.2.1 j).toInt ∧ (u.2.1 j).toInt ≤ 9)) (fun u t => va_P D vwCl [(A_self, .inr (7, o7 q (upd v 21 u.1) w)), (q 22, .inl (c 1, 40, .inl u.2.1)), (q 23, .inl (c 1, 40, .inl u.2.2.1))] t.heap ∧ va_D (va_A [(A_self, .inr (7, o7 q v w)), (q 22, .inl (c 1, 40, .inl f_forceText)), (q 23, .inl (c 1, 40, .inl f_forceFrom))] sz) [(A_self, .inr (7, o7 q (upd v 21 u.1) w)), (q 22, .inl (c 1, 40, .inl u.2.1)), (q 23, .inl (c 1, 40, .inl u.2.2.1))]) (va_A [(A_self, .inr (7, o7 q v w)), (q 22, .inl (c 1, 40, .inl f_forceText)), (q 23, .inl (c 1, 40, .inl f_forceFrom))] sz)) 0 0 (va_A [(A_self, .inr (7, o7 q v w)), (q 22, .inl (c 1, 40, .inl f_forceText)), (q 23, .inl (c 1, 40, .inl f_forceFrom))] sz) := by
  refine Met.ofW (cc := cX7_force) (maxL := 3) (ret := (some .int)) (by decide) rfl ?_
  intro p e s m args below meth cd s₁ B hml hv
  obtain ⟨rfl, hsz, hP, hD0, hAm, hSt⟩ := hv
  have hx := B.exec
  have hb := B.bytes
  have hr := B.returns
  have hts := atoms_spec (ws := wsX7_force) B.pre
  have hown : s.vm.findClass RX7 = some m.cls := findClass_of_methodNamed B.named
  have hlocks := B.notSynchronized
  have hK := hAm.1
  subst hsz
  have hD := hD0.self (sz := s.heap.size)
  generalize hAe : va_A [(A_self, .inr (7, o7 q v w)), (q 22, .inl (c 1, 40, .inl f_forceText)), (q 23, .inl (c 1, 40, .inl f_forceFrom))] s.heap.size = A at hD hSt ⊢
  have hA : ∀ q : Nat, s.heap.size ≤ q → A q := fun q h => by rw [← hAe]; exact Or.inr h
  have hS : va_S A s.heap s.heap [] := va_S.rf
  clear hD0 hAe
  have hl := lv_entry ([.ref A_self, .int a1, .int a2]) (n := 3) (Nat.le_of_ble_eq_true rfl)
  rw [lg_entry_eq]
  generalize (lg_sl ([.ref A_self, .int a1, .int a2]) ++ List.replicate (3 - (lg_sl ([.ref A_self, .int a1, .int a2])).length) Slot.unset).toArray = ls at hl ⊢
  have hl : lv_has ls 3 [(0, .ref A_self), (1, .int a1), (2, .int a2)] := hl
  have rg_a1 := i32r a1
  have rg_a2 := i32r a2
  refine lv_aload_n hx hb dX7_force_0 rfl (lv_at hl 0 rfl) ?_
  refine lv_iload_n hx hb dX7_force_1 rfl (lv_at hl 1 rfl) ?_
  have hPc := hP.sub (ws' := [(A_self, .inr (7, o7 q v w))]) [0] rfl
  have hDc := hD.sub (ws' := [(A_self, .inr (7, o7 q v w))]) [0] (by decide) rfl
  have hFc := va_free (wc := [(A_self, .inr (7, o7 q v w))]) hD hS hA [0] rfl
  refine va_csi (va_runV (As := [.int a1]) (rest := []) ⟨hx, hb, hml, hown, hts⟩ (k_X7_isText l D c ts s.heap.size A_self q v w a1 i_a1 hi_a1 (show 0 ≤ (v 2).toInt ∧ (v 2).toInt ≤ 800 by omega) (show 0 ≤ (v 8).toInt ∧ (v 8).toInt ≤ 10 by omega) (show 0 ≤ (v 21).toInt ∧ (v 21).toInt ≤ 40 by omega) (show 0 ≤ (v 24).toInt ∧ (v 24).toInt ≤ 1000 by omega) (show 0 ≤ (v 27).toInt ∧ (v 27).toInt ≤ 400 by omega) (show 0 ≤ (v 42).toInt ∧ (v 42).toInt ≤ 4000 by omega) (show 0 ≤ (v 52).toInt ∧ (v 52).toInt ≤ 2000 by omega)) (cwV 1 hts gX7_force_X7_isText rfl rfl rfl ⟨rfl, hdX7_isText⟩ ⟨(show 1 + 1 ≤ 2 by decide), (show 8 + (2 + 11) + 22 ≤ 43 by decide)⟩) ⟨Pre0.blind, va_recv hK hPc (ci := 7) (q0 := 0) rfl rfl, Pre0.at hPc hDc hAm hSt hS hFc⟩ rfl rfl hl.1 rfl (lv_room (Nat.le_of_ble_eq_true rfl)) dX7_force_2 ⟨(show 0 + 0 ≤ 0 by decide), (show 0 + 0 ≤ 0 by decide)⟩) (fun r_2 hw_1 => ?_)
  have hw_1 : (((0 ≤ i_a1 ∧ i_a1 ≤ (v 8).toInt - 1) ∧ r_2 = 1) ∨ ((¬ (0 ≤ i_a1 ∧ i_a1 ≤ (v 8).toInt - 1)) ∧ r_2 = 0)) := hw_1
  rcases hw_1 with ⟨hw_1, rfl⟩ | ⟨hw_1, rfl⟩
  · skip
    refine iif_eqF (a := 1) (tgt := 22) hx hb (by decide) dX7_force_5 (by decide) (by decide) ?_
    refine lv_iload_n hx hb dX7_force_8 rfl (lv_at hl 2 rfl) ?_
    refine lv_aload_n hx hb dX7_force_9 rfl (lv_at hl 0 rfl) ?_
    refine va_get (D := D) (ci := 7) (v := .int (v 24)) (C := RX7) (T := TX7) (N := 56) hx hb hts (fun _ h => List.mem_cons_of_mem _ (List.mem_append_right _ h)) hown hK hP 0 rfl rfl 24 (by decide) (hts (.fieldLink RX7 267 "CrownTableModel" "term" "I") (mem_i 1 rfl)) (fun _ h9 => h9) rfl dX7_force_10 ?_
    refine lv_sipush (v := 1000) hx hb dX7_force_13 (by decide) ?_
    have hPc := hP.sub (ws' := []) [] rfl
    have hDc := hD.sub (ws' := []) [] (by decide) rfl
    have hFc := va_free (wc := []) hD hS hA [] rfl
    have kzz_3 : (1000 : Int32).toInt = 1000 := by decide
    refine va_csi (va_runS (As := [.int a2, .int (v 24), .int 1000]) (rest := []) ⟨hx, hb, hml, hown, hts⟩ (k_X7_in l D c ts s.heap.size a2 i_a2 hi_a2 (v 24) ((v 24).toInt) rfl 1000 1000 (by decide)) (cwS 3 hts gX7_force_X7_in rfl rfl rfl ⟨rfl, hdX7_in⟩ ⟨(show 0 + 1 ≤ 2 by decide), (show 8 + (3 + 11) + 0 ≤ 43 by decide)⟩) ⟨Pre0.blind, Pre0.at hPc hDc hAm hSt hS hFc⟩ rfl rfl hl.1 rfl (lv_room (Nat.le_of_ble_eq_true rfl)) dX7_force_16 ⟨(show 0 + 0 ≤ 0 by decide), (show 0 + 0 ≤ 0 by decide)⟩) (fun r_5 hw_4 => ?_)
    rcases hw_4 with ⟨hw_4, rfl⟩ | ⟨hw_4, rfl⟩
    · skip
      refine iif_neT (a := 1) (tgt := 24) hx hb (by decide) dX7_force_19 (by decide) (by decide) ?_
      refine lv_aload_n hx hb dX7_force_24 rfl (lv_at hl 0 rfl) ?_
      refine va_get (D := D) (ci := 7) (v := .int (v 21)) (C := RX7) (T := TX7) (N := 56) hx hb hts (fun _ h => List.mem_cons_of_mem _ (List.mem_append_right _ h)) hown hK hP 0 rfl rfl 21 (by decide) (hts (.fieldLink RX7 270 "CrownTableModel" "forces" "I") (mem_i 2 rfl)) (fun _ h9 => h9) rfl dX7_force_25 ?_
      refine lv_bipush (v := 40) hx hb dX7_force_28 (by decide) ?_
      refine iicmp_ne (a := (v 21).toInt) (b := 40) (tgt := 36) hx hb rfl (by decide) dX7_force_30 (by decide) (fun k_6 => ?_) (fun k_6 => ?_)
      · skip
        refine lv_aload_n hx hb dX7_force_36 rfl (lv_at hl 0 rfl) ?_
        refine va_get (D := D) (ci := 7) (v := .ref (q 22)) (C := RX7) (T := TX7) (N := 56) hx hb hts (fun _ h => List.mem_cons_of_mem _ (List.mem_append_right _ h)) hown hK hP 0 rfl rfl 22 (by decide) (hts (.fieldLink RX7 38 "CrownTableModel" "forceText" "[I") (mem_i 3 rfl)) (fun _ h9 => h9) rfl dX7_force_37 ?_
        refine lv_aload_n hx hb dX7_force_40 rfl (lv_at hl 0 rfl) ?_
        refine va_get (D := D) (ci := 7) (v := .int (v 21)) (C := RX7) (T := TX7) (N := 56) hx hb hts (fun _ h => List.mem_cons_of_mem _ (List.mem_append_right _ h)) hown hK hP 0 rfl rfl 21 (by decide) (hts (.fieldLink RX7 270 "CrownTableModel" "forces" "I") (mem_i 2 rfl)) (fun _ h9 => h9) rfl dX7_force_41 ?_
        refine lv_iload_n hx hb dX7_force_44 rfl (lv_at hl 1 rfl) ?_
        refine va_iast hx hb hK hP hD hS 1 1 rfl rfl (vin (a := (v 21).toInt) rfl (by omega) (by omega)) dX7_force_45 (fun H locs hP hD hS => ?_)
        obtain ⟨f_7, ef_7, hP, hD⟩ : ∃ f_7 : Nat → Int32, f_7 = upd f_forceText (v 21).toNatClampNeg a1 ∧ va_P D vwCl [(A_self, .inr (7, o7 q v w)), (q 22, .inl (c 1, 40, .inl f_7)), (q 23, .inl (c 1, 40, .inl f_forceFrom))] H ∧ va_D A [(A_self, .inr (7, o7 q v w)), (q 22, .inl (c 1, 40, .inl f_7)), (q 23, .inl (c 1, 40, .inl f_forceFrom))] := ⟨_, rfl, hP, hD⟩
        have hc_8 : ∀ j : Nat, 0 ≤ (f_7 j).toInt ∧ (f_7 j).toInt ≤ 9 := by rw [ef_7]; exact iv_upd hc_forceText (show 0 ≤ a1.toInt ∧ a1.toInt ≤ 9 by omega)
        refine lv_aload_n hx hb dX7_force_46 rfl (lv_at hl 0 rfl) ?_
        refine va_get (D := D) (ci := 7) (v := .ref (q 23)) (C := RX7) (T := TX7) (N := 56) hx hb hts (fun _ h => List.mem_cons_of_mem _ (List.mem_append_right _ h)) hown hK hP 0 rfl rfl 23 (by decide) (hts (.fieldLink RX7 41 "CrownTableModel" "forceFrom" "[I") (mem_i 4 rfl)) (fun _ h9 => h9) rfl dX7_force_47 ?_
        refine lv_aload_n hx hb dX7_force_50 rfl (lv_at hl 0 rfl) ?_
        refine va_get (D := D) (ci := 7) (v := .int (v 21)) (C := RX7) (T := TX7) (N := 56) hx hb hts (fun _ h => List.mem_cons_of_mem _ (List.mem_append_right _ h)) hown hK hP 0 rfl rfl 21 (by decide) (hts (.fieldLink RX7 270 "CrownTableModel" "forces" "I") (mem_i 2 rfl)) (fun _ h9 => h9) rfl dX7_force_51 ?_
        refine lv_iload_n hx hb dX7_force_54 rfl (lv_at hl 2 rfl) ?_
        refine va_iast hx hb hK hP hD hS 2 1 rfl rfl (vin (a := (v 21).toInt) rfl (by omega) (by omega)) dX7_force_55 (fun H locs hP hD hS => ?_)
        obtain ⟨f_9, ef_9, hP, hD⟩ : ∃ f_9 : Nat → Int32, f_9 = upd f_forceFrom (v 21).toNatClampNeg a2 ∧ va_P D vwCl [(A_self, .inr (7, o7 q v w)), (q 22, .inl (c 1, 40, .inl f_7)), (q 23, .inl (c 1, 40, .inl f_9))] H ∧ va_D A [(A_self, .inr (7, o7 q v w)), (q 22, .inl (c 1, 40, .inl f_7)), (q 23, .inl (c 1, 40, .inl f_9))] := ⟨_, rfl, hP, hD⟩
        refine lv_aload_n hx hb dX7_force_56 rfl (lv_at hl 0 rfl) ?_
        refine lv_dup hx hb dX7_force_57 rfl ?_
        refine va_get (D := D) (ci := 7) (v := .int (v 21)) (C := RX7) (T := TX7) (N := 56) hx hb hts (fun _ h => List.mem_cons_of_mem _ (List.mem_append_right _ h)) hown hK hP 0 rfl rfl 21 (by decide) (hts (.fieldLink RX7 270 "CrownTableModel" "forces" "I") (mem_i 2 rfl)) (fun _ h9 => h9) rfl dX7_force_58 ?_
        refine lv_iconst (v := 1) hx hb dX7_force_61 (by decide) ?_
        refine lv_iadd hx hb dX7_force_62 ?_
        refine lv_topi (fun x_10 ex_10 => ?_)
        have tx_10 : x_10.toInt = ((v 21).toInt + 1) := by rw [ex_10]; exact add_ti (a := (v 21).toInt) (b := 1) rfl (by decide) (by omega) (by omega)
        refine va_put (D := D) (ci := 7) (v := .int x_10) (ty := .int) (C := RX7) (T := TX7) (N := 56) hx hb hts (fun _ h => List.mem_cons_of_mem _ (List.mem_append_right _ h)) tyX7 tyX7_ok nmX7 hown hK hP hD hS 0 rfl rfl 21 (by decide) (hts (.fieldLink RX7 270 "CrownTableModel" "forces" "I") (mem_i 2 rfl)) (fun _ h9 => h9) rfl (by decide +kernel) rfl rfl (Nat.le_of_ble_eq_true rfl) dX7_force_63 (fun H locs hP hD hS => ?_)
        have hP : va_P D vwCl [(A_self, .inr (7, o7 q (upd v 21 x_10) w)), (q 22, .inl (c 1, 40, .inl f_7)), (q 23, .inl (c 1, 40, .inl f_9))] H := hP
        have hD : va_D A [(A_self, .inr (7, o7 q (upd v 21 x_10) w)), (q 22, .inl (c 1, 40, .inl f_7)), (q 23, .inl (c 1, 40, .inl f_9))] := hD
        refine lv_iconst (v := 1) hx hb dX7_force_66 (by decide) ?_
        have kzz_11 : (1 : Int32).toInt = 1 := by decide
        have hP9 := hP.sub (ws' := [(A_self, .inr (7, o7 q (upd v 21 x_10) w)), (q 22, .inl (c 1, 40, .inl f_7)), (q 23, .inl (c 1, 40, .inl f_9))]) [0, 1, 2] rfl
        have hD9 := hD.sub (ws' := [(A_self, .inr (7, o7 q (upd v 21 x_10) w)), (q 22, .inl (c 1, 40, .inl f_7)), (q 23, .inl (c 1, 40, .inl f_9))]) [0, 1, 2] (by decide) rfl
        refine W.widen (k := 0) (n := 0) (by omega) (by omega) ?_
        exact W.iret (v := 1) hx hb hr (fun t ht hW => ⟨⟨_, (x_10, f_7, f_9, ()), rfl, ⟨(show 0 ≤ x_10.toInt ∧ x_10.toInt ≤ 40 by omega), (show ∀ j : Nat, 0 ≤ (f_7 j).toInt ∧ (f_7 j).toInt ≤ 9 from hc_8)⟩, ⟨by rw [ht]; exact hP9, hD9⟩⟩, hS.F ht⟩) hS.2.2 dX7_force_67
      · skip
        refine lv_bipush (v := (-3)) hx hb dX7_force_33 (by decide) ?_
        have kzz_12 : ((-3) : Int32).toInt = (-3) := by decide
        have hP9 := hP.sub (ws' := [(A_self, .inr (7, o7 q v w)), (q 22, .inl (c 1, 40, .inl f_forceText)), (q 23, .inl (c 1, 40, .inl f_forceFrom))]) [0, 1, 2] rfl
        have hD9 := hD.sub (ws' := [(A_self, .inr (7, o7 q v w)), (q 22, .inl (c 1, 40, .inl f_forceText)), (q 23, .inl (c 1, 40, .inl f_forceFrom))]) [0, 1, 2] (by decide) rfl
        refine W.widen (k := 0) (n := 0) (by omega) (by omega) ?_
        exact W.iret (v := (-3)) hx hb hr (fun t ht hW => ⟨⟨_, ((v 21), f_forceText, f_forceFrom, ()), rfl, ⟨(show 0 ≤ (v 21).toInt ∧ (v 21).toInt ≤ 40 by omega), (show ∀ j : Nat, 0 ≤ (f_forceText j).toInt ∧ (f_forceText j).toInt ≤ 9 from hc_forceText)⟩, ⟨by rw [ht]; exact hP9, hD9⟩⟩, hS.F ht⟩) hS.2.2 dX7_force_35
    · skip
      refine iif_neF (a := 0) (tgt := 24) hx hb (by decide) dX7_force_19 (by decide) (by decide) ?_
      refine lv_iconst (v := (-1)) hx hb dX7_force_22 (by decide) ?_
      have kzz_13 : ((-1) : Int32).toInt = (-1) := by decide
      have hP9 := hP.sub (ws' := [(A_self, .inr (7, o7 q v w)), (q 22, .inl (c 1, 40, .inl f_forceText)), (q 23, .inl (c 1, 40, .inl f_forceFrom))]) [0, 1, 2] rfl
      have hD9 := hD.sub (ws' := [(A_self, .inr (7, o7 q v w)), (q 22, .inl (c 1, 40, .inl f_forceText)), (q 23, .inl (c 1, 40, .inl f_forceFrom))]) [0, 1, 2] (by decide) rfl
      refine W.widen (k := 0) (n := 0) (by omega) (by omega) ?_
      exact W.iret (v := (-1)) hx hb hr (fun t ht hW => ⟨⟨_, ((v 21), f_forceText, f_forceFrom, ()), rfl, ⟨(show 0 ≤ (v 21).toInt ∧ (v 21).toInt ≤ 40 by omega), (show ∀ j : Nat, 0 ≤ (f_forceText j).toInt ∧ (f_forceText j).toInt ≤ 9 from hc_forceText)⟩, ⟨by rw [ht]; exact hP9, hD9⟩⟩, hS.F ht⟩) hS.2.2 dX7_force_23
  · skip
    refine iif_eqT (a := 0) (tgt := 22) hx hb (by decide) dX7_force_5 (by decide) (by decide) ?_
    refine lv_iconst (v := (-1)) hx hb dX7_force_22 (by decide) ?_
    have kzz_14 : ((-1) : Int32).toInt = (-1) := by decide
    have hP9 := hP.sub (ws' := [(A_self, .inr (7, o7 q v w)), (q 22, .inl (c 1, 40, .inl f_forceText)), (q 23, .inl (c 1, 40, .inl f_forceFrom))]) [0, 1, 2] rfl
    have hD9 := hD.sub (ws' := [(A_self, .inr (7, o7 q v w)), (q 22, .inl (c 1, 40, .inl f_forceText)), (q 23, .inl (c 1, 40, .inl f_forceFrom))]) [0, 1, 2] (by decide) rfl
    refine W.widen (k := 0) (n := 0) (by omega) (by omega) ?_
    exact W.iret (v := (-1)) hx hb hr (fun t ht hW => ⟨⟨_, ((v 21), f_forceText, f_forceFrom, ()), rfl, ⟨(show 0 ≤ (v 21).toInt ∧ (v 21).toInt ≤ 40 by omega), (show ∀ j : Nat, 0 ≤ (f_forceText j).toInt ∧ (f_forceText j).toInt ≤ 9 from hc_forceText)⟩, ⟨by rw [ht]; exact hP9, hD9⟩⟩, hS.F ht⟩) hS.2.2 dX7_force_23

set_option maxHeartbeats 4000000 in
set_option maxRecDepth 100000 in
theorem k_X7_forceAt (l : Launch) (D : va_G) (c : Nat → ClassId) (ts : Nat × Nat) (sz : Nat) (A_self : Nat) (q : Nat → Nat) (v : Nat → Int32) (w : Nat → Int64) (f_forceText : Nat → Int32) (f_forceFrom : Nat → Int32) (a1 : Int32) (i_a1 : Int) (hi_a1 : a1.toInt = i_a1) (hv_2 : 0 ≤ (v 2).toInt ∧ (v 2).toInt ≤ 800) (hv_8 : 0 ≤ (v 8).toInt ∧ (v 8).toInt ≤ 10) (hv_21 : 0 ≤ (v 21).toInt ∧ (v 21).toInt ≤ 40) (hv_24 : 0 ≤ (v 24).toInt ∧ (v 24).toInt ≤ 1000) (hv_27 : 0 ≤ (v 27).toInt ∧ (v 27).toInt ≤ 400) (hv_42 : 0 ≤ (v 42).toInt ∧ (v 42).toInt ≤ 4000) (hv_52 : 0 ≤ (v 52).toInt ∧ (v 52).toInt ≤ 2000) (hc_forceText : ∀ j : Nat, 0 ≤ (f_forceText j).toInt ∧ (f_forceText j).toInt ≤ 9) : Met l yX7_forceAt wsX7_forceAt ({ frames := 0, cells := 0, slots := 0, locals := 0 }) (va_Pc [.ref A_self, .int a1] (Pre0 D c ts [(A_self, .inr (7, o7 q v w)), (q 22, .inl (c 1, 40, .inl f_forceText)), (q 23, .inl (c 1, 40, .inl f_forceFrom))] sz)) (vp_Si (fun r : Int32 => (-1 ≤ r.toInt ∧ r.toInt ≤ 9))) 0 0 (fun _ => False) := by
  refine Met.ofW (cc := cX7_forceAt) (maxL := 3) (ret := (some .int)) (by decide) rfl ?_
  intro p e s m args below meth cd s₁ B hml hv
  obtain ⟨rfl, hsz, hP, hD0, hAm, hSt⟩ := hv
  have hx := B.exec
  have hb := B.bytes
  have hr := B.returns
  have hts := atoms_spec (ws := wsX7_forceAt) B.pre
  have hown : s.vm.findClass RX7 = some m.cls := findClass_of_methodNamed B.named
  have hlocks := B.notSynchronized
  have hK := hAm.1
  subst hsz
  have hD := hD0.self (sz := s.heap.size)
  generalize hAe : va_A [(A_self, .inr (7, o7 q v w)), (q 22, .inl (c 1, 40, .inl f_forceText)), (q 23, .inl (c 1, 40, .inl f_forceFrom))] s.heap.size = A at hD hSt
  have hA : ∀ q : Nat, s.heap.size ≤ q → A q := fun q h => by rw [← hAe]; exact Or.inr h
  have hS : va_S A s.heap s.heap [] := va_S.rf
  clear hD0 hAe
  have hl := lv_entry ([.ref A_self, .int a1]) (n := 3) (Nat.le_of_ble_eq_true rfl)
  rw [lg_entry_eq]
  generalize (lg_sl ([.ref A_self, .int a1]) ++ List.replicate (3 - (lg_sl ([.ref A_self, .int a1])).length) Slot.unset).toArray = ls at hl ⊢
  have hl : lv_has ls 3 [(0, .ref A_self), (1, .int a1)] := hl
  have rg_a1 := i32r a1
  refine lv_aload_n hx hb dX7_forceAt_0 rfl (lv_at hl 0 rfl) ?_
  refine va_get (D := D) (ci := 7) (v := .int (v 21)) (C := RX7) (T := TX7) (N := 56) hx hb hts (fun _ h => List.mem_cons_of_mem _ (List.mem_append_right _ h)) hown hK hP 0 rfl rfl 21 (by decide) (hts (.fieldLink RX7 270 "CrownTableModel" "forces" "I") (mem_i 1 rfl)) (fun _ h9 => h9) rfl dX7_forceAt_1 ?_
  refine lv_iconst (v := 1) hx hb dX7_forceAt_4 (by decide) ?_
  refine lv_isub hx hb dX7_forceAt_5 ?_
  refine lv_topi (fun x_1 ex_1 => ?_)
  have tx_1 : x_1.toInt = ((v 21).toInt - 1) := by rw [ex_1]; exact sub_ti (a := (v 21).toInt) (b := 1) rfl (by decide) (by omega) (by omega)
  refine lv_istore_n (lv' := [(2, .int x_1), (0, .ref A_self), (1, .int a1)]) hx hb dX7_forceAt_6 rfl hl (by decide) rfl (fun ls hl => ?_)
  have lp_7 : ∀ (N : Nat) (L2 : Int32) (hf7_0 : -1 ≤ L2.toInt) (hf7_1 : L2.toInt ≤ 39) (hN7 : (L2.toInt + 1).toNat = N) (ls : Array Slot), lv_has ls 3 [(0, .ref A_self), (1, .int a1), (2, .int L2)] → W p l e (headSpec wsX7_forceAt ({ frames := 0, cells := 0, slots := 0, locals := 0 })).room s m (([.ref A_self, .int a1] : List Value).toArray) below meth cd s.heap [] 0 0 (MQ below (vp_Si (fun r : Int32 => (-1 ≤ r.toInt ∧ r.toInt ≤ 9))) ([.ref A_self, .int a1] : List Value).toArray s 0 0 (fun _ => False)) (F0 m 7 ls []) := by
    refine st_ind (fun N ih7 => ?_)
    intro L2 hf7_0 hf7_1 hN7 ls hl
    refine lv_iload_n hx hb dX7_forceAt_7 rfl (lv_at hl 2 rfl) ?_
    refine iif_lt (a := L2.toInt) (tgt := 34) hx hb rfl dX7_forceAt_8 (by decide) (fun k_2 => ?_) (fun k_2 => ?_)
    · skip
      refine lv_iconst (v := (-1)) hx hb dX7_forceAt_34 (by decide) ?_
      have kzz_3 : ((-1) : Int32).toInt = (-1) := by decide
      exact W.iret (v := (-1)) hx hb hr (fun t ht hW => ⟨_, rfl, (by omega), ht⟩) (fun _ h => by cases h) dX7_forceAt_35
    · skip
      refine lv_aload_n hx hb dX7_forceAt_11 rfl (lv_at hl 0 rfl) ?_
      refine va_get (D := D) (ci := 7) (v := .ref (q 23)) (C := RX7) (T := TX7) (N := 56) hx hb hts (fun _ h => List.mem_cons_of_mem _ (List.mem_append_right _ h)) hown hK hP 0 rfl rfl 23 (by decide) (hts (.fieldLink RX7 41 "CrownTableModel" "forceFrom" "[I") (mem_i 2 rfl)) (fun _ h9 => h9) rfl dX7_forceAt_12 ?_
      refine lv_iload_n hx hb dX7_forceAt_15 rfl (lv_at hl 2 rfl) ?_
      refine va_iald hx hb hK hP 2 1 rfl rfl (vin (a := L2.toInt) rfl (by omega) (by omega)) dX7_forceAt_16 ?_
      refine lv_topi (fun x_4 ex_4 => ?_)
      refine lv_iload_n hx hb dX7_forceAt_17 rfl (lv_at hl 1 rfl) ?_
      refine iicmp_gt (a := x_4.toInt) (b := i_a1) (tgt := 28) hx hb rfl hi_a1 dX7_forceAt_18 (by decide) (fun k_5 => ?_) (fun k_5 => ?_)
      · skip
        obtain ⟨x_6, ex_6⟩ : ∃ y : Int32, y = L2 + (-1) := ⟨_, rfl⟩
        have tx_6 : x_6.toInt = L2.toInt + (-1) := by rw [ex_6]; exact add_ti (a := L2.toInt) (b := (-1)) rfl (by decide) (by omega) (by omega)
        refine lv_iinc (v := x_6) (lv' := [(2, .int x_6), (0, .ref A_self), (1, .int a1)]) hx hb dX7_forceAt_28 hl (k := 2) rfl (by rw [ex_6]; rfl) (by decide) rfl (fun ls hl => ?_)
        refine lv_goto (tgt := 7) hx hb dX7_forceAt_31 (by decide) ?_
        have hl := lv_sub hl [1, 2, 0] rfl
        exact (ih7 ((x_6.toInt + 1).toNat) (by omega) x_6 (by omega) (by omega) rfl _ hl)
      · skip
        refine lv_aload_n hx hb dX7_forceAt_21 rfl (lv_at hl 0 rfl) ?_
        refine va_get (D := D) (ci := 7) (v := .ref (q 22)) (C := RX7) (T := TX7) (N := 56) hx hb hts (fun _ h => List.mem_cons_of_mem _ (List.mem_append_right _ h)) hown hK hP 0 rfl rfl 22 (by decide) (hts (.fieldLink RX7 38 "CrownTableModel" "forceText" "[I") (mem_i 3 rfl)) (fun _ h9 => h9) rfl dX7_forceAt_22 ?_
        refine lv_iload_n hx hb dX7_forceAt_25 rfl (lv_at hl 2 rfl) ?_
        refine va_iald hx hb hK hP 1 1 rfl rfl (vin (a := L2.toInt) rfl (by omega) (by omega)) dX7_forceAt_26 ?_
        refine lv_topi (fun x_7 ex_7 => ?_)
        have ld_8 := hc_forceText (L2.toNatClampNeg)
        rw [← ex_7] at ld_8
        exact W.iret (v := x_7) hx hb hr (fun t ht hW => ⟨_, rfl, (by omega), ht⟩) (fun _ h => by cases h) dX7_forceAt_27
  have hl := lv_sub hl [1, 2, 0] rfl
  exact (lp_7 _ x_1 (by omega) (by omega) rfl _ hl)

set_option maxHeartbeats 4000000 in
set_option maxRecDepth 100000 in
theorem k_X7_inForce (l : Launch) (D : va_G) (c : Nat → ClassId) (ts : Nat × Nat) (sz : Nat) (A_self : Nat) (q : Nat → Nat) (v : Nat → Int32) (w : Nat → Int64) (f_forceText : Nat → Int32) (f_forceFrom : Nat → Int32) (a1 : Int32) (i_a1 : Int) (hi_a1 : a1.toInt = i_a1) (hv_2 : 0 ≤ (v 2).toInt ∧ (v 2).toInt ≤ 800) (hv_8 : 0 ≤ (v 8).toInt ∧ (v 8).toInt ≤ 10) (hv_21 : 0 ≤ (v 21).toInt ∧ (v 21).toInt ≤ 40) (hv_24 : 0 ≤ (v 24).toInt ∧ (v 24).toInt ≤ 1000) (hv_27 : 0 ≤ (v 27).toInt ∧ (v 27).toInt ≤ 400) (hv_42 : 0 ≤ (v 42).toInt ∧ (v 42).toInt ≤ 4000) (hv_52 : 0 ≤ (v 52).toInt ∧ (v 52).toInt ≤ 2000) (hc_forceText : ∀ j : Nat, 0 ≤ (f_forceText j).toInt ∧ (f_forceText j).toInt ≤ 9) : Met l yX7_inForce wsX7_inForce ({ frames := 1, cells := 0, slots := 0, locals := 22 }) (va_Pc [.ref A_self, .int a1] (Pre0 D c ts [(A_self, .inr (7, o7 q v w)), (q 22, .inl (c 1, 40, .inl f_forceText)), (q 23, .inl (c 1, 40, .inl f_forceFrom))] sz)) (vp_Si (fun r : Int32 => True)) 0 0 (fun _ => False) := by
  refine Met.ofW (cc := cX7_inForce) (maxL := 2) (ret := (some .int)) (by decide) rfl ?_
  intro p e s m args below meth cd s₁ B hml hv
  obtain ⟨rfl, hsz, hP, hD0, hAm, hSt⟩ := hv
  have hx := B.exec
  have hb := B.bytes
  have hr := B.returns
  have hts := atoms_spec (ws := wsX7_inForce) B.pre
  have hown : s.vm.findClass RX7 = some m.cls := findClass_of_methodNamed B.named
  have hlocks := B.notSynchronized
  have hK := hAm.1
  subst hsz
  have hD := hD0.self (sz := s.heap.size)
  generalize hAe : va_A [(A_self, .inr (7, o7 q v w)), (q 22, .inl (c 1, 40, .inl f_forceText)), (q 23, .inl (c 1, 40, .inl f_forceFrom))] s.heap.size = A at hD hSt
  have hA : ∀ q : Nat, s.heap.size ≤ q → A q := fun q h => by rw [← hAe]; exact Or.inr h
  have hS : va_S A s.heap s.heap [] := va_S.rf
  clear hD0 hAe
  have hl := lv_entry ([.ref A_self, .int a1]) (n := 2) (Nat.le_of_ble_eq_true rfl)
  rw [lg_entry_eq]
  generalize (lg_sl ([.ref A_self, .int a1]) ++ List.replicate (2 - (lg_sl ([.ref A_self, .int a1])).length) Slot.unset).toArray = ls at hl ⊢
  have hl : lv_has ls 2 [(0, .ref A_self), (1, .int a1)] := hl
  have rg_a1 := i32r a1
  refine lv_iload_n hx hb dX7_inForce_0 rfl (lv_at hl 1 rfl) ?_
  refine lv_iconst (v := 0) hx hb dX7_inForce_1 (by decide) ?_
  refine lv_sipush (v := 1000) hx hb dX7_inForce_2 (by decide) ?_
  have hPc := hP.sub (ws' := []) [] rfl
  have hDc := hD.sub (ws' := []) [] (by decide) rfl
  have hFc := va_free (wc := []) hD hS hA [] rfl
  have kzz_1 : (0 : Int32).toInt = 0 := by decide
  have kzz_2 : (1000 : Int32).toInt = 1000 := by decide
  refine va_csi (va_runS (As := [.int a1, .int 0, .int 1000]) (rest := []) ⟨hx, hb, hml, hown, hts⟩ (k_X7_in l D c ts s.heap.size a1 i_a1 hi_a1 0 0 (by decide) 1000 1000 (by decide)) (cwS 3 hts gX7_inForce_X7_in rfl rfl rfl ⟨rfl, hdX7_in⟩ ⟨(show 0 + 1 ≤ 1 by decide), (show 8 + (3 + 11) + 0 ≤ 22 by decide)⟩) ⟨Pre0.blind, Pre0.at hPc hDc hAm hSt hS hFc⟩ rfl rfl hl.1 rfl (lv_room (Nat.le_of_ble_eq_true rfl)) dX7_inForce_5 ⟨(show 0 + 0 ≤ 0 by decide), (show 0 + 0 ≤ 0 by decide)⟩) (fun r_4 hw_3 => ?_)
  rcases hw_3 with ⟨hw_3, rfl⟩ | ⟨hw_3, rfl⟩
  · skip
    refine iif_eqF (a := 1) (tgt := 19) hx hb (by decide) dX7_inForce_8 (by decide) (by decide) ?_
    refine lv_aload_n hx hb dX7_inForce_11 rfl (lv_at hl 0 rfl) ?_
    refine lv_iload_n hx hb dX7_inForce_12 rfl (lv_at hl 1 rfl) ?_
    have hPc := hP.sub (ws' := [(A_self, .inr (7, o7 q v w)), (q 22, .inl (c 1, 40, .inl f_forceText)), (q 23, .inl (c 1, 40, .inl f_forceFrom))]) [0, 1, 2] rfl
    have hDc := hD.sub (ws' := [(A_self, .inr (7, o7 q v w)), (q 22, .inl (c 1, 40, .inl f_forceText)), (q 23, .inl (c 1, 40, .inl f_forceFrom))]) [0, 1, 2] (by decide) rfl
    have hFc := va_free (wc := [(A_self, .inr (7, o7 q v w)), (q 22, .inl (c 1, 40, .inl f_forceText)), (q 23, .inl (c 1, 40, .inl f_forceFrom))]) hD hS hA [0, 1, 2] rfl
    refine va_csi (va_runV (As := [.int a1]) (rest := []) ⟨hx, hb, hml, hown, hts⟩ (k_X7_forceAt l D c ts s.heap.size A_self q v w f_forceText f_forceFrom a1 i_a1 hi_a1 (show 0 ≤ (v 2).toInt ∧ (v 2).toInt ≤ 800 by omega) (show 0 ≤ (v 8).toInt ∧ (v 8).toInt ≤ 10 by omega) (show 0 ≤ (v 21).toInt ∧ (v 21).toInt ≤ 40 by omega) (show 0 ≤ (v 24).toInt ∧ (v 24).toInt ≤ 1000 by omega) (show 0 ≤ (v 27).toInt ∧ (v 27).toInt ≤ 400 by omega) (show 0 ≤ (v 42).toInt ∧ (v 42).toInt ≤ 4000 by omega) (show 0 ≤ (v 52).toInt ∧ (v 52).toInt ≤ 2000 by omega) hc_forceText) (cwV 1 hts gX7_inForce_X7_forceAt rfl rfl rfl ⟨rfl, hdX7_forceAt⟩ ⟨(show 0 + 1 ≤ 1 by decide), (show 8 + (3 + 11) + 0 ≤ 22 by decide)⟩) ⟨Pre0.blind, va_recv hK hPc (ci := 7) (q0 := 0) rfl rfl, Pre0.at hPc hDc hAm hSt hS hFc⟩ rfl rfl hl.1 rfl (lv_room (Nat.le_of_ble_eq_true rfl)) dX7_inForce_13 ⟨(show 0 + 0 ≤ 0 by decide), (show 0 + 0 ≤ 0 by decide)⟩) (fun r_6 hw_5 => ?_)
    have hw_5 : (-1 ≤ r_6.toInt ∧ r_6.toInt ≤ 9) := hw_5
    refine lv_goto (tgt := 20) hx hb dX7_inForce_16 (by decide) ?_
    exact W.iret (v := r_6) hx hb hr (fun t ht hW => ⟨_, rfl, trivial, ht⟩) (fun _ h => by cases h) dX7_inForce_20
  · skip
    refine iif_eqT (a := 0) (tgt := 19) hx hb (by decide) dX7_inForce_8 (by decide) (by decide) ?_
    refine lv_iconst (v := (-1)) hx hb dX7_inForce_19 (by decide) ?_
    have kzz_7 : ((-1) : Int32).toInt = (-1) := by decide
    exact W.iret (v := (-1)) hx hb hr (fun t ht hW => ⟨_, rfl, trivial, ht⟩) (fun _ h => by cases h) dX7_inForce_20

set_option maxHeartbeats 4000000 in
set_option maxRecDepth 100000 in
theorem k_X7_shire (l : Launch) (D : va_G) (c : Nat → ClassId) (ts : Nat × Nat) (sz : Nat) (A_self : Nat) (q : Nat → Nat) (v : Nat → Int32) (w : Nat → Int64) (f_farm : Nat → Int32) (f_sheriff : Nat → Int32) (a1 : Int32) (i_a1 : Int) (hi_a1 : a1.toInt = i_a1) (a2 : Int32) (i_a2 : Int) (hi_a2 : a2.toInt = i_a2) (a3 : Int32) (i_a3 : Int) (hi_a3 : a3.toInt = i_a3) (hv_2 : 0 ≤ (v 2).toInt ∧ (v 2).toInt ≤ 800) (hv_8 : 0 ≤ (v 8).toInt ∧ (v 8).toInt ≤ 10) (hv_21 : 0 ≤ (v 21).toInt ∧ (v 21).toInt ≤ 40) (hv_24 : 0 ≤ (v 24).toInt ∧ (v 24).toInt ≤ 1000) (hv_27 : 0 ≤ (v 27).toInt ∧ (v 27).toInt ≤ 400) (hv_42 : 0 ≤ (v 42).toInt ∧ (v 42).toInt ≤ 4000) (hv_52 : 0 ≤ (v 52).toInt ∧ (v 52).toInt ≤ 2000) (hc_sheriff : ∀ j : Nat, -1 ≤ (f_sheriff j).toInt ∧ (f_sheriff j).toInt ≤ 15) : Met l yX7_shire wsX7_shire ({ frames := 2, cells := 0, slots := 0, locals := 42 }) (va_Pc [.ref A_self, .int a1, .int a2, .int a3] (Pre0 D c ts [(A_self, .inr (7, o7 q v w)), (q 25, .inl (c 1, 8, .inl f_farm)), (q 26, .inl (c 1, 8, .inl f_sheriff))] sz)) (va_Qi (fun (r : Int32) (u : (Nat → Int32) × (Nat → Int32) × Unit) => (((0 ≤ i_a1 ∧ i_a1 ≤ 7 ∧ 0 ≤ i_a2 ∧ i_a2 ≤ 100000 ∧ -1 ≤ i_a3 ∧ i_a3 ≤ 15) ∧ r = 1) ∨ ((¬ (0 ≤ i_a1 ∧ i_a1 ≤ 7 ∧ 0 ≤ i_a2 ∧ i_a2 ≤ 100000 ∧ -1 ≤ i_a3 ∧ i_a3 ≤ 15)) ∧ r = (-1))) ∧ (∀ j : Nat, -1 ≤ (u.2.1 j).toInt ∧ (u.2.1 j).toInt ≤ 15)) (fun u t => va_P D vwCl [(A_self, .inr (7, o7 q v w)), (q 25, .inl (c 1, 8, .inl u.1)), (q 26, .inl (c 1, 8, .inl u.2.1))] t.heap ∧ va_D (va_A [(A_self, .inr (7, o7 q v w)), (q 25, .inl (c 1, 8, .inl f_farm)), (q 26, .inl (c 1, 8, .inl f_sheriff))] sz) [(A_self, .inr (7, o7 q v w)), (q 25, .inl (c 1, 8, .inl u.1)), (q 26, .inl (c 1, 8, .inl u.2.1))]) (va_A [(A_self, .inr (7, o7 q v w)), (q 25, .inl (c 1, 8, .inl f_farm)), (q 26, .inl (c 1, 8, .inl f_sheriff))] sz)) 0 0 (va_A [(A_self, .inr (7, o7 q v w)), (q 25, .inl (c 1, 8, .inl f_farm)), (q 26, .inl (c 1, 8, .inl f_sheriff))] sz) := by
  refine Met.ofW (cc := cX7_shire) (maxL := 4) (ret := (some .int)) (by decide) rfl ?_
  intro p e s m args below meth cd s₁ B hml hv
  obtain ⟨rfl, hsz, hP, hD0, hAm, hSt⟩ := hv
  have hx := B.exec
  have hb := B.bytes
  have hr := B.returns
  have hts := atoms_spec (ws := wsX7_shire) B.pre
  have hown : s.vm.findClass RX7 = some m.cls := findClass_of_methodNamed B.named
  have hlocks := B.notSynchronized
  have hK := hAm.1
  subst hsz
  have hD := hD0.self (sz := s.heap.size)
  generalize hAe : va_A [(A_self, .inr (7, o7 q v w)), (q 25, .inl (c 1, 8, .inl f_farm)), (q 26, .inl (c 1, 8, .inl f_sheriff))] s.heap.size = A at hD hSt ⊢
  have hA : ∀ q : Nat, s.heap.size ≤ q → A q := fun q h => by rw [← hAe]; exact Or.inr h
  have hS : va_S A s.heap s.heap [] := va_S.rf
  clear hD0 hAe
  have hl := lv_entry ([.ref A_self, .int a1, .int a2, .int a3]) (n := 4) (Nat.le_of_ble_eq_true rfl)
  rw [lg_entry_eq]
  generalize (lg_sl ([.ref A_self, .int a1, .int a2, .int a3]) ++ List.replicate (4 - (lg_sl ([.ref A_self, .int a1, .int a2, .int a3])).length) Slot.unset).toArray = ls at hl ⊢
  have hl : lv_has ls 4 [(0, .ref A_self), (1, .int a1), (2, .int a2), (3, .int a3)] := hl
  have rg_a1 := i32r a1
  have rg_a2 := i32r a2
  have rg_a3 := i32r a3
  refine lv_iload_n hx hb dX7_shire_0 rfl (lv_at hl 1 rfl) ?_
  refine lv_iconst (v := 0) hx hb dX7_shire_1 (by decide) ?_
  refine lv_bipush (v := 7) hx hb dX7_shire_2 (by decide) ?_
  have hPc := hP.sub (ws' := []) [] rfl
  have hDc := hD.sub (ws' := []) [] (by decide) rfl
  have hFc := va_free (wc := []) hD hS hA [] rfl
  have kzz_1 : (0 : Int32).toInt = 0 := by decide
  have kzz_2 : (7 : Int32).toInt = 7 := by decide
  refine va_csi (va_runS (As := [.int a1, .int 0, .int 7]) (rest := []) ⟨hx, hb, hml, hown, hts⟩ (k_X7_in l D c ts s.heap.size a1 i_a1 hi_a1 0 0 (by decide) 7 7 (by decide)) (cwS 3 hts gX7_shire_X7_in rfl rfl rfl ⟨rfl, hdX7_in⟩ ⟨(show 0 + 1 ≤ 2 by decide), (show 8 + (3 + 11) + 0 ≤ 42 by decide)⟩) ⟨Pre0.blind, Pre0.at hPc hDc hAm hSt hS hFc⟩ rfl rfl hl.1 rfl (lv_room (Nat.le_of_ble_eq_true rfl)) dX7_shire_4 ⟨(show 0 + 0 ≤ 0 by decide), (show 0 + 0 ≤ 0 by decide)⟩) (fun r_4 hw_3 => ?_)
  rcases hw_3 with ⟨hw_3, rfl⟩ | ⟨hw_3, rfl⟩
  · skip
    refine iif_eqF (a := 1) (tgt := 33) hx hb (by decide) dX7_shire_7 (by decide) (by decide) ?_
    refine lv_iload_n hx hb dX7_shire_10 rfl (lv_at hl 2 rfl) ?_
    refine lv_iconst (v := 0) hx hb dX7_shire_11 (by decide) ?_
    refine lv_ldcw (v := 100000) hx hb hown (hts (.constant RX7 280 (100000)) (mem_i 1 rfl)) dX7_shire_12 ?_
    have hPc := hP.sub (ws' := []) [] rfl
    have hDc := hD.sub (ws' := []) [] (by decide) rfl
    have hFc := va_free (wc := []) hD hS hA [] rfl
    have kzz_5 : (0 : Int32).toInt = 0 := by decide
    have kzz_6 : (100000 : Int32).toInt = 100000 := by decide
    refine va_csi (va_runS (As := [.int a2, .int 0, .int 100000]) (rest := []) ⟨hx, hb, hml, hown, hts⟩ (k_X7_in l D c ts s.heap.size a2 i_a2 hi_a2 0 0 (by decide) 100000 100000 (by decide)) (cwS 3 hts gX7_shire_X7_in rfl rfl rfl ⟨rfl, hdX7_in⟩ ⟨(show 0 + 1 ≤ 2 by decide), (show 8 + (3 + 11) + 0 ≤ 42 by decide)⟩) ⟨Pre0.blind, Pre0.at hPc hDc hAm hSt hS hFc⟩ rfl rfl hl.1 rfl (lv_room (Nat.le_of_ble_eq_true rfl)) dX7_shire_15 ⟨(show 0 + 0 ≤ 0 by decide), (show 0 + 0 ≤ 0 by decide)⟩) (fun r_8 hw_7 => ?_)
    rcases hw_7 with ⟨hw_7, rfl⟩ | ⟨hw_7, rfl⟩
    · skip
      refine iif_eqF (a := 1) (tgt := 33) hx hb (by decide) dX7_shire_18 (by decide) (by decide) ?_
      refine lv_iload_n hx hb dX7_shire_21 rfl (lv_at hl 3 rfl) ?_
      refine lv_iconst (v := (-1)) hx hb dX7_shire_22 (by decide) ?_
      refine iicmp_eq (a := i_a3) (b := (-1)) (tgt := 35) hx hb hi_a3 (by decide) dX7_shire_23 (by decide) (fun k_9 => ?_) (fun k_9 => ?_)
      · skip
        refine lv_aload_n hx hb dX7_shire_35 rfl (lv_at hl 0 rfl) ?_
        refine va_get (D := D) (ci := 7) (v := .ref (q 25)) (C := RX7) (T := TX7) (N := 56) hx hb hts (fun _ h => List.mem_cons_of_mem _ (List.mem_append_right _ h)) hown hK hP 0 rfl rfl 25 (by decide) (hts (.fieldLink RX7 44 "CrownTableModel" "farm" "[I") (mem_i 2 rfl)) (fun _ h9 => h9) rfl dX7_shire_36 ?_
        refine lv_iload_n hx hb dX7_shire_39 rfl (lv_at hl 1 rfl) ?_
        refine lv_iload_n hx hb dX7_shire_40 rfl (lv_at hl 2 rfl) ?_
        refine va_iast hx hb hK hP hD hS 1 1 rfl rfl (vin (a := i_a1) hi_a1 (by omega) (by omega)) dX7_shire_41 (fun H locs hP hD hS => ?_)
        obtain ⟨f_10, ef_10, hP, hD⟩ : ∃ f_10 : Nat → Int32, f_10 = upd f_farm a1.toNatClampNeg a2 ∧ va_P D vwCl [(A_self, .inr (7, o7 q v w)), (q 25, .inl (c 1, 8, .inl f_10)), (q 26, .inl (c 1, 8, .inl f_sheriff))] H ∧ va_D A [(A_self, .inr (7, o7 q v w)), (q 25, .inl (c 1, 8, .inl f_10)), (q 26, .inl (c 1, 8, .inl f_sheriff))] := ⟨_, rfl, hP, hD⟩
        refine lv_aload_n hx hb dX7_shire_42 rfl (lv_at hl 0 rfl) ?_
        refine va_get (D := D) (ci := 7) (v := .ref (q 26)) (C := RX7) (T := TX7) (N := 56) hx hb hts (fun _ h => List.mem_cons_of_mem _ (List.mem_append_right _ h)) hown hK hP 0 rfl rfl 26 (by decide) (hts (.fieldLink RX7 47 "CrownTableModel" "sheriff" "[I") (mem_i 3 rfl)) (fun _ h9 => h9) rfl dX7_shire_43 ?_
        refine lv_iload_n hx hb dX7_shire_46 rfl (lv_at hl 1 rfl) ?_
        refine lv_iload_n hx hb dX7_shire_47 rfl (lv_at hl 3 rfl) ?_
        refine va_iast hx hb hK hP hD hS 2 1 rfl rfl (vin (a := i_a1) hi_a1 (by omega) (by omega)) dX7_shire_48 (fun H locs hP hD hS => ?_)
        obtain ⟨f_11, ef_11, hP, hD⟩ : ∃ f_11 : Nat → Int32, f_11 = upd f_sheriff a1.toNatClampNeg a3 ∧ va_P D vwCl [(A_self, .inr (7, o7 q v w)), (q 25, .inl (c 1, 8, .inl f_10)), (q 26, .inl (c 1, 8, .inl f_11))] H ∧ va_D A [(A_self, .inr (7, o7 q v w)), (q 25, .inl (c 1, 8, .inl f_10)), (q 26, .inl (c 1, 8, .inl f_11))] := ⟨_, rfl, hP, hD⟩
        have hc_12 : ∀ j : Nat, -1 ≤ (f_11 j).toInt ∧ (f_11 j).toInt ≤ 15 := by rw [ef_11]; exact iv_upd hc_sheriff (show -1 ≤ a3.toInt ∧ a3.toInt ≤ 15 by omega)
        refine lv_iconst (v := 1) hx hb dX7_shire_49 (by decide) ?_
        have kzz_13 : (1 : Int32).toInt = 1 := by decide
        have hP9 := hP.sub (ws' := [(A_self, .inr (7, o7 q v w)), (q 25, .inl (c 1, 8, .inl f_10)), (q 26, .inl (c 1, 8, .inl f_11))]) [0, 1, 2] rfl
        have hD9 := hD.sub (ws' := [(A_self, .inr (7, o7 q v w)), (q 25, .inl (c 1, 8, .inl f_10)), (q 26, .inl (c 1, 8, .inl f_11))]) [0, 1, 2] (by decide) rfl
        refine W.widen (k := 0) (n := 0) (by omega) (by omega) ?_
        exact W.iret (v := 1) hx hb hr (fun t ht hW => ⟨⟨_, (f_10, f_11, ()), rfl, ⟨Or.inl ⟨by omega, rfl⟩, (show ∀ j : Nat, -1 ≤ (f_11 j).toInt ∧ (f_11 j).toInt ≤ 15 from hc_12)⟩, ⟨by rw [ht]; exact hP9, hD9⟩⟩, hS.F ht⟩) hS.2.2 dX7_shire_50
      · skip
        refine lv_iload_n hx hb dX7_shire_26 rfl (lv_at hl 3 rfl) ?_
        have hPc := hP.sub (ws' := []) [] rfl
        have hDc := hD.sub (ws' := []) [] (by decide) rfl
        have hFc := va_free (wc := []) hD hS hA [] rfl
        refine va_csi (va_runS (As := [.int a3]) (rest := []) ⟨hx, hb, hml, hown, hts⟩ (k_X7_isPerson l D c ts s.heap.size a3 i_a3 hi_a3) (cwS 1 hts gX7_shire_X7_isPerson rfl rfl rfl ⟨rfl, hdX7_isPerson⟩ ⟨(show 1 + 1 ≤ 2 by decide), (show 8 + (1 + 11) + 22 ≤ 42 by decide)⟩) ⟨Pre0.blind, Pre0.at hPc hDc hAm hSt hS hFc⟩ rfl rfl hl.1 rfl (lv_room (Nat.le_of_ble_eq_true rfl)) dX7_shire_27 ⟨(show 0 + 0 ≤ 0 by decide), (show 0 + 0 ≤ 0 by decide)⟩) (fun r_15 hw_14 => ?_)
        rcases hw_14 with ⟨hw_14, rfl⟩ | ⟨hw_14, rfl⟩
        · skip
          refine iif_neT (a := 1) (tgt := 35) hx hb (by decide) dX7_shire_30 (by decide) (by decide) ?_
          refine lv_aload_n hx hb dX7_shire_35 rfl (lv_at hl 0 rfl) ?_
          refine va_get (D := D) (ci := 7) (v := .ref (q 25)) (C := RX7) (T := TX7) (N := 56) hx hb hts (fun _ h => List.mem_cons_of_mem _ (List.mem_append_right _ h)) hown hK hP 0 rfl rfl 25 (by decide) (hts (.fieldLink RX7 44 "CrownTableModel" "farm" "[I") (mem_i 2 rfl)) (fun _ h9 => h9) rfl dX7_shire_36 ?_
          refine lv_iload_n hx hb dX7_shire_39 rfl (lv_at hl 1 rfl) ?_
          refine lv_iload_n hx hb dX7_shire_40 rfl (lv_at hl 2 rfl) ?_
          refine va_iast hx hb hK hP hD hS 1 1 rfl rfl (vin (a := i_a1) hi_a1 (by omega) (by omega)) dX7_shire_41 (fun H locs hP hD hS => ?_)
          obtain ⟨f_16, ef_16, hP, hD⟩ : ∃ f_16 : Nat → Int32, f_16 = upd f_farm a1.toNatClampNeg a2 ∧ va_P D vwCl [(A_self, .inr (7, o7 q v w)), (q 25, .inl (c 1, 8, .inl f_16)), (q 26, .inl (c 1, 8, .inl f_sheriff))] H ∧ va_D A [(A_self, .inr (7, o7 q v w)), (q 25, .inl (c 1, 8, .inl f_16)), (q 26, .inl (c 1, 8, .inl f_sheriff))] := ⟨_, rfl, hP, hD⟩
          refine lv_aload_n hx hb dX7_shire_42 rfl (lv_at hl 0 rfl) ?_
          refine va_get (D := D) (ci := 7) (v := .ref (q 26)) (C := RX7) (T := TX7) (N := 56) hx hb hts (fun _ h => List.mem_cons_of_mem _ (List.mem_append_right _ h)) hown hK hP 0 rfl rfl 26 (by decide) (hts (.fieldLink RX7 47 "CrownTableModel" "sheriff" "[I") (mem_i 3 rfl)) (fun _ h9 => h9) rfl dX7_shire_43 ?_
          refine lv_iload_n hx hb dX7_shire_46 rfl (lv_at hl 1 rfl) ?_
          refine lv_iload_n hx hb dX7_shire_47 rfl (lv_at hl 3 rfl) ?_
          refine va_iast hx hb hK hP hD hS 2 1 rfl rfl (vin (a := i_a1) hi_a1 (by omega) (by omega)) dX7_shire_48 (fun H locs hP hD hS => ?_)
          obtain ⟨f_17, ef_17, hP, hD⟩ : ∃ f_17 : Nat → Int32, f_17 = upd f_sheriff a1.toNatClampNeg a3 ∧ va_P D vwCl [(A_self, .inr (7, o7 q v w)), (q 25, .inl (c 1, 8, .inl f_16)), (q 26, .inl (c 1, 8, .inl f_17))] H ∧ va_D A [(A_self, .inr (7, o7 q v w)), (q 25, .inl (c 1, 8, .inl f_16)), (q 26, .inl (c 1, 8, .inl f_17))] := ⟨_, rfl, hP, hD⟩
          have hc_18 : ∀ j : Nat, -1 ≤ (f_17 j).toInt ∧ (f_17 j).toInt ≤ 15 := by rw [ef_17]; exact iv_upd hc_sheriff (show -1 ≤ a3.toInt ∧ a3.toInt ≤ 15 by omega)
          refine lv_iconst (v := 1) hx hb dX7_shire_49 (by decide) ?_
          have kzz_19 : (1 : Int32).toInt = 1 := by decide
          have hP9 := hP.sub (ws' := [(A_self, .inr (7, o7 q v w)), (q 25, .inl (c 1, 8, .inl f_16)), (q 26, .inl (c 1, 8, .inl f_17))]) [0, 1, 2] rfl
          have hD9 := hD.sub (ws' := [(A_self, .inr (7, o7 q v w)), (q 25, .inl (c 1, 8, .inl f_16)), (q 26, .inl (c 1, 8, .inl f_17))]) [0, 1, 2] (by decide) rfl
          refine W.widen (k := 0) (n := 0) (by omega) (by omega) ?_
          exact W.iret (v := 1) hx hb hr (fun t ht hW => ⟨⟨_, (f_16, f_17, ()), rfl, ⟨Or.inl ⟨by omega, rfl⟩, (show ∀ j : Nat, -1 ≤ (f_17 j).toInt ∧ (f_17 j).toInt ≤ 15 from hc_18)⟩, ⟨by rw [ht]; exact hP9, hD9⟩⟩, hS.F ht⟩) hS.2.2 dX7_shire_50
        · skip
          refine iif_neF (a := 0) (tgt := 35) hx hb (by decide) dX7_shire_30 (by decide) (by decide) ?_
          refine lv_iconst (v := (-1)) hx hb dX7_shire_33 (by decide) ?_
          have kzz_20 : ((-1) : Int32).toInt = (-1) := by decide
          have hP9 := hP.sub (ws' := [(A_self, .inr (7, o7 q v w)), (q 25, .inl (c 1, 8, .inl f_farm)), (q 26, .inl (c 1, 8, .inl f_sheriff))]) [0, 1, 2] rfl
          have hD9 := hD.sub (ws' := [(A_self, .inr (7, o7 q v w)), (q 25, .inl (c 1, 8, .inl f_farm)), (q 26, .inl (c 1, 8, .inl f_sheriff))]) [0, 1, 2] (by decide) rfl
          refine W.widen (k := 0) (n := 0) (by omega) (by omega) ?_
          exact W.iret (v := (-1)) hx hb hr (fun t ht hW => ⟨⟨_, (f_farm, f_sheriff, ()), rfl, ⟨Or.inr (⟨by omega, rfl⟩), (show ∀ j : Nat, -1 ≤ (f_sheriff j).toInt ∧ (f_sheriff j).toInt ≤ 15 from hc_sheriff)⟩, ⟨by rw [ht]; exact hP9, hD9⟩⟩, hS.F ht⟩) hS.2.2 dX7_shire_34
    · skip
      refine iif_eqT (a := 0) (tgt := 33) hx hb (by decide) dX7_shire_18 (by decide) (by decide) ?_
      refine lv_iconst (v := (-1)) hx hb dX7_shire_33 (by decide) ?_
      have kzz_21 : ((-1) : Int32).toInt = (-1) := by decide
      have hP9 := hP.sub (ws' := [(A_self, .inr (7, o7 q v w)), (q 25, .inl (c 1, 8, .inl f_farm)), (q 26, .inl (c 1, 8, .inl f_sheriff))]) [0, 1, 2] rfl
      have hD9 := hD.sub (ws' := [(A_self, .inr (7, o7 q v w)), (q 25, .inl (c 1, 8, .inl f_farm)), (q 26, .inl (c 1, 8, .inl f_sheriff))]) [0, 1, 2] (by decide) rfl
      refine W.widen (k := 0) (n := 0) (by omega) (by omega) ?_
      exact W.iret (v := (-1)) hx hb hr (fun t ht hW => ⟨⟨_, (f_farm, f_sheriff, ()), rfl, ⟨Or.inr (⟨by omega, rfl⟩), (show ∀ j : Nat, -1 ≤ (f_sheriff j).toInt ∧ (f_sheriff j).toInt ≤ 15 from hc_sheriff)⟩, ⟨by rw [ht]; exact hP9, hD9⟩⟩, hS.F ht⟩) hS.2.2 dX7_shire_34
  · skip
    refine iif_eqT (a := 0) (tgt := 33) hx hb (by decide) dX7_shire_7 (by decide) (by decide) ?_
    refine lv_iconst (v := (-1)) hx hb dX7_shire_33 (by decide) ?_
    have kzz_22 : ((-1) : Int32).toInt = (-1) := by decide
    have hP9 := hP.sub (ws' := [(A_self, .inr (7, o7 q v w)), (q 25, .inl (c 1, 8, .inl f_farm)), (q 26, .inl (c 1, 8, .inl f_sheriff))]) [0, 1, 2] rfl
    have hD9 := hD.sub (ws' := [(A_self, .inr (7, o7 q v w)), (q 25, .inl (c 1, 8, .inl f_farm)), (q 26, .inl (c 1, 8, .inl f_sheriff))]) [0, 1, 2] (by decide) rfl
    refine W.widen (k := 0) (n := 0) (by omega) (by omega) ?_
    exact W.iret (v := (-1)) hx hb hr (fun t ht hW => ⟨⟨_, (f_farm, f_sheriff, ()), rfl, ⟨Or.inr (⟨by omega, rfl⟩), (show ∀ j : Nat, -1 ≤ (f_sheriff j).toInt ∧ (f_sheriff j).toInt ≤ 15 from hc_sheriff)⟩, ⟨by rw [ht]; exact hP9, hD9⟩⟩, hS.F ht⟩) hS.2.2 dX7_shire_34

set_option maxHeartbeats 4000000 in
set_option maxRecDepth 100000 in
theorem k_X7_owes (l : Launch) (D : va_G) (c : Nat → ClassId) (ts : Nat × Nat) (sz : Nat) (A_self : Nat) (q : Nat → Nat) (v : Nat → Int32) (w : Nat → Int64) (f_debtor : Nat → Int32) (f_kind : Nat → Int32) (f_whole : Nat → Int32) (f_left : Nat → Int32) (f_made : Nat → Int32) (f_pledge : Nat → Int32) (f_pardoned : Nat → Int32) (a1 : Int32) (i_a1 : Int) (hi_a1 : a1.toInt = i_a1) (a2 : Int32) (i_a2 : Int) (hi_a2 : a2.toInt = i_a2) (a3 : Int32) (i_a3 : Int) (hi_a3 : a3.toInt = i_a3) (a4 : Int32) (i_a4 : Int) (hi_a4 : a4.toInt = i_a4) (hv_2 : 0 ≤ (v 2).toInt ∧ (v 2).toInt ≤ 800) (hv_8 : 0 ≤ (v 8).toInt ∧ (v 8).toInt ≤ 10) (hv_21 : 0 ≤ (v 21).toInt ∧ (v 21).toInt ≤ 40) (hv_24 : 0 ≤ (v 24).toInt ∧ (v 24).toInt ≤ 1000) (hv_27 : 0 ≤ (v 27).toInt ∧ (v 27).toInt ≤ 400) (hv_42 : 0 ≤ (v 42).toInt ∧ (v 42).toInt ≤ 4000) (hv_52 : 0 ≤ (v 52).toInt ∧ (v 52).toInt ≤ 2000) (hc_debtor : ∀ j : Nat, 0 ≤ (f_debtor j).toInt ∧ (f_debtor j).toInt ≤ 15) (hc_pledge : ∀ j : Nat, -1 ≤ (f_pledge j).toInt ∧ (f_pledge j).toInt ≤ 15) (hv_a1 : 0 ≤ i_a1 ∧ i_a1 ≤ 15) (hv_a4 : -1 ≤ i_a4 ∧ i_a4 ≤ 15) (hq0 : (v 27).toInt ≤ 399) : Met l yX7_owes wsX7_owes ({ frames := 0, cells := 0, slots := 0, locals := 0 }) (va_Pc [.ref A_self, .int a1, .int a2, .int a3, .int a4] (Pre0 D c ts [(A_self, .inr (7, o7 q v w)), (q 28, .inl (c 1, 400, .inl f_debtor)), (q 29, .inl (c 1, 400, .inl f_kind)), (q 30, .inl (c 1, 400, .inl f_whole)), (q 31, .inl (c 1, 400, .inl f_left)), (q 32, .inl (c 1, 400, .inl f_made)), (q 33, .inl (c 1, 400, .inl f_pledge)), (q 34, .inl (c 1, 400, .inl f_pardoned))] sz)) (va_Qi (fun (r : Int32) (u : Int32 × (Nat → Int32) × (Nat → Int32) × (Nat → Int32) × (Nat → Int32) × (Nat → Int32) × (Nat → Int32) × (Nat → Int32) × Unit) => (0 ≤ u.1.toInt ∧ u.1.toInt ≤ 400) ∧ (∀ j : Nat, 0 ≤ (u.2.1 j).toInt ∧ (u.2.1 j).toInt ≤ 15) ∧ (∀ j : Nat, -1 ≤ (u.2.2.2.2.2.2.1 j).toInt ∧ (u.2.2.2.2.2.2.1 j).toInt ≤ 15) ∧ (u.1.toInt = (v 27).toInt + 1)) (fun u t => va_P D vwCl [(A_self, .inr (7, o7 q (upd v 27 u.1) w)), (q 28, .inl (c 1, 400, .inl u.2.1)), (q 29, .inl (c 1, 400, .inl u.2.2.1)), (q 30, .inl (c 1, 400, .inl u.2.2.2.1)), (q 31, .inl (c 1, 400, .inl u.2.2.2.2.1)), (q 32, .inl (c 1, 400, .inl u.2.2.2.2.2.1)), (q 33, .inl (c 1, 400, .inl u.2.2.2.2.2.2.1)), (q 34, .inl (c 1, 400, .inl u.2.2.2.2.2.2.2.1))] t.heap ∧ va_D (va_A [(A_self, .inr (7, o7 q v w)), (q 28, .inl (c 1, 400, .inl f_debtor)), (q 29, .inl (c 1, 400, .inl f_kind)), (q 30, .inl (c 1, 400, .inl f_whole)), (q 31, .inl (c 1, 400, .inl f_left)), (q 32, .inl (c 1, 400, .inl f_made)), (q 33, .inl (c 1, 400, .inl f_pledge)), (q 34, .inl (c 1, 400, .inl f_pardoned))] sz) [(A_self, .inr (7, o7 q (upd v 27 u.1) w)), (q 28, .inl (c 1, 400, .inl u.2.1)), (q 29, .inl (c 1, 400, .inl u.2.2.1)), (q 30, .inl (c 1, 400, .inl u.2.2.2.1)), (q 31, .inl (c 1, 400, .inl u.2.2.2.2.1)), (q 32, .inl (c 1, 400, .inl u.2.2.2.2.2.1)), (q 33, .inl (c 1, 400, .inl u.2.2.2.2.2.2.1)), (q 34, .inl (c 1, 400, .inl u.2.2.2.2.2.2.2.1))]) (va_A [(A_self, .inr (7, o7 q v w)), (q 28, .inl (c 1, 400, .inl f_debtor)), (q 29, .inl (c 1, 400, .inl f_kind)), (q 30, .inl (c 1, 400, .inl f_whole)), (q 31, .inl (c 1, 400, .inl f_left)), (q 32, .inl (c 1, 400, .inl f_made)), (q 33, .inl (c 1, 400, .inl f_pledge)), (q 34, .inl (c 1, 400, .inl f_pardoned))] sz)) 0 0 (va_A [(A_self, .inr (7, o7 q v w)), (q 28, .inl (c 1, 400, .inl f_debtor)), (q 29, .inl (c 1, 400, .inl f_kind)), (q 30, .inl (c 1, 400, .inl f_whole)), (q 31, .inl (c 1, 400, .inl f_left)), (q 32, .inl (c 1, 400, .inl f_made)), (q 33, .inl (c 1, 400, .inl f_pledge)), (q 34, .inl (c 1, 400, .inl f_pardoned))] sz) := by
  refine Met.ofW (cc := cX7_owes) (maxL := 6) (ret := (some .int)) (by decide) rfl ?_
  intro p e s m args below meth cd s₁ B hml hv
  obtain ⟨rfl, hsz, hP, hD0, hAm, hSt⟩ := hv
  have hx := B.exec
  have hb := B.bytes
  have hr := B.returns
  have hts := atoms_spec (ws := wsX7_owes) B.pre
  have hown : s.vm.findClass RX7 = some m.cls := findClass_of_methodNamed B.named
  have hlocks := B.notSynchronized
  have hK := hAm.1
  subst hsz
  have hD := hD0.self (sz := s.heap.size)
  generalize hAe : va_A [(A_self, .inr (7, o7 q v w)), (q 28, .inl (c 1, 400, .inl f_debtor)), (q 29, .inl (c 1, 400, .inl f_kind)), (q 30, .inl (c 1, 400, .inl f_whole)), (q 31, .inl (c 1, 400, .inl f_left)), (q 32, .inl (c 1, 400, .inl f_made)), (q 33, .inl (c 1, 400, .inl f_pledge)), (q 34, .inl (c 1, 400, .inl f_pardoned))] s.heap.size = A at hD hSt ⊢
  have hA : ∀ q : Nat, s.heap.size ≤ q → A q := fun q h => by rw [← hAe]; exact Or.inr h
  have hS : va_S A s.heap s.heap [] := va_S.rf
  clear hD0 hAe
  have hl := lv_entry ([.ref A_self, .int a1, .int a2, .int a3, .int a4]) (n := 6) (Nat.le_of_ble_eq_true rfl)
  rw [lg_entry_eq]
  generalize (lg_sl ([.ref A_self, .int a1, .int a2, .int a3, .int a4]) ++ List.replicate (6 - (lg_sl ([.ref A_self, .int a1, .int a2, .int a3, .int a4])).length) Slot.unset).toArray = ls at hl ⊢
  have hl : lv_has ls 6 [(0, .ref A_self), (1, .int a1), (2, .int a2), (3, .int a3), (4, .int a4)] := hl
  have rg_a2 := i32r a2
  have rg_a3 := i32r a3
  refine lv_aload_n hx hb dX7_owes_0 rfl (lv_at hl 0 rfl) ?_
  refine va_get (D := D) (ci := 7) (v := .int (v 27)) (C := RX7) (T := TX7) (N := 56) hx hb hts (fun _ h => List.mem_cons_of_mem _ (List.mem_append_right _ h)) hown hK hP 0 rfl rfl 27 (by decide) (hts (.fieldLink RX7 277 "CrownTableModel" "debts" "I") (mem_i 1 rfl)) (fun _ h9 => h9) rfl dX7_owes_1 ?_
  refine lv_istore (lv' := [(5, .int (v 27)), (0, .ref A_self), (1, .int a1), (2, .int a2), (3, .int a3), (4, .int a4)]) hx hb dX7_owes_4 hl (by decide) rfl (fun ls hl => ?_)
  refine lv_aload_n hx hb dX7_owes_6 rfl (lv_at hl 1 rfl) ?_
  refine va_get (D := D) (ci := 7) (v := .ref (q 28)) (C := RX7) (T := TX7) (N := 56) hx hb hts (fun _ h => List.mem_cons_of_mem _ (List.mem_append_right _ h)) hown hK hP 0 rfl rfl 28 (by decide) (hts (.fieldLink RX7 50 "CrownTableModel" "debtor" "[I") (mem_i 2 rfl)) (fun _ h9 => h9) rfl dX7_owes_7 ?_
  refine lv_iload hx hb dX7_owes_10 (lv_at hl 0 rfl) ?_
  refine lv_iload_n hx hb dX7_owes_12 rfl (lv_at hl 2 rfl) ?_
  refine va_iast hx hb hK hP hD hS 1 1 rfl rfl (vin (a := (v 27).toInt) rfl (by omega) (by omega)) dX7_owes_13 (fun H locs hP hD hS => ?_)
  obtain ⟨f_1, ef_1, hP, hD⟩ : ∃ f_1 : Nat → Int32, f_1 = upd f_debtor (v 27).toNatClampNeg a1 ∧ va_P D vwCl [(A_self, .inr (7, o7 q v w)), (q 28, .inl (c 1, 400, .inl f_1)), (q 29, .inl (c 1, 400, .inl f_kind)), (q 30, .inl (c 1, 400, .inl f_whole)), (q 31, .inl (c 1, 400, .inl f_left)), (q 32, .inl (c 1, 400, .inl f_made)), (q 33, .inl (c 1, 400, .inl f_pledge)), (q 34, .inl (c 1, 400, .inl f_pardoned))] H ∧ va_D A [(A_self, .inr (7, o7 q v w)), (q 28, .inl (c 1, 400, .inl f_1)), (q 29, .inl (c 1, 400, .inl f_kind)), (q 30, .inl (c 1, 400, .inl f_whole)), (q 31, .inl (c 1, 400, .inl f_left)), (q 32, .inl (c 1, 400, .inl f_made)), (q 33, .inl (c 1, 400, .inl f_pledge)), (q 34, .inl (c 1, 400, .inl f_pardoned))] := ⟨_, rfl, hP, hD⟩
  have hc_2 : ∀ j : Nat, 0 ≤ (f_1 j).toInt ∧ (f_1 j).toInt ≤ 15 := by rw [ef_1]; exact iv_upd hc_debtor (show 0 ≤ a1.toInt ∧ a1.toInt ≤ 15 by omega)
  refine lv_aload_n hx hb dX7_owes_14 rfl (lv_at hl 1 rfl) ?_
  refine va_get (D := D) (ci := 7) (v := .ref (q 29)) (C := RX7) (T := TX7) (N := 56) hx hb hts (fun _ h => List.mem_cons_of_mem _ (List.mem_append_right _ h)) hown hK hP 0 rfl rfl 29 (by decide) (hts (.fieldLink RX7 53 "CrownTableModel" "kind" "[I") (mem_i 3 rfl)) (fun _ h9 => h9) rfl dX7_owes_15 ?_
  refine lv_iload hx hb dX7_owes_18 (lv_at hl 0 rfl) ?_
  refine lv_iload_n hx hb dX7_owes_20 rfl (lv_at hl 3 rfl) ?_
  refine va_iast hx hb hK hP hD hS 2 1 rfl rfl (vin (a := (v 27).toInt) rfl (by omega) (by omega)) dX7_owes_21 (fun H locs hP hD hS => ?_)
  obtain ⟨f_3, ef_3, hP, hD⟩ : ∃ f_3 : Nat → Int32, f_3 = upd f_kind (v 27).toNatClampNeg a2 ∧ va_P D vwCl [(A_self, .inr (7, o7 q v w)), (q 28, .inl (c 1, 400, .inl f_1)), (q 29, .inl (c 1, 400, .inl f_3)), (q 30, .inl (c 1, 400, .inl f_whole)), (q 31, .inl (c 1, 400, .inl f_left)), (q 32, .inl (c 1, 400, .inl f_made)), (q 33, .inl (c 1, 400, .inl f_pledge)), (q 34, .inl (c 1, 400, .inl f_pardoned))] H ∧ va_D A [(A_self, .inr (7, o7 q v w)), (q 28, .inl (c 1, 400, .inl f_1)), (q 29, .inl (c 1, 400, .inl f_3)), (q 30, .inl (c 1, 400, .inl f_whole)), (q 31, .inl (c 1, 400, .inl f_left)), (q 32, .inl (c 1, 400, .inl f_made)), (q 33, .inl (c 1, 400, .inl f_pledge)), (q 34, .inl (c 1, 400, .inl f_pardoned))] := ⟨_, rfl, hP, hD⟩
  refine lv_aload_n hx hb dX7_owes_22 rfl (lv_at hl 1 rfl) ?_
  refine va_get (D := D) (ci := 7) (v := .ref (q 30)) (C := RX7) (T := TX7) (N := 56) hx hb hts (fun _ h => List.mem_cons_of_mem _ (List.mem_append_right _ h)) hown hK hP 0 rfl rfl 30 (by decide) (hts (.fieldLink RX7 56 "CrownTableModel" "whole" "[I") (mem_i 4 rfl)) (fun _ h9 => h9) rfl dX7_owes_23 ?_
  refine lv_iload hx hb dX7_owes_26 (lv_at hl 0 rfl) ?_
  refine lv_iload_n hx hb dX7_owes_28 rfl (lv_at hl 4 rfl) ?_
  refine va_iast hx hb hK hP hD hS 3 1 rfl rfl (vin (a := (v 27).toInt) rfl (by omega) (by omega)) dX7_owes_29 (fun H locs hP hD hS => ?_)
  obtain ⟨f_4, ef_4, hP, hD⟩ : ∃ f_4 : Nat → Int32, f_4 = upd f_whole (v 27).toNatClampNeg a3 ∧ va_P D vwCl [(A_self, .inr (7, o7 q v w)), (q 28, .inl (c 1, 400, .inl f_1)), (q 29, .inl (c 1, 400, .inl f_3)), (q 30, .inl (c 1, 400, .inl f_4)), (q 31, .inl (c 1, 400, .inl f_left)), (q 32, .inl (c 1, 400, .inl f_made)), (q 33, .inl (c 1, 400, .inl f_pledge)), (q 34, .inl (c 1, 400, .inl f_pardoned))] H ∧ va_D A [(A_self, .inr (7, o7 q v w)), (q 28, .inl (c 1, 400, .inl f_1)), (q 29, .inl (c 1, 400, .inl f_3)), (q 30, .inl (c 1, 400, .inl f_4)), (q 31, .inl (c 1, 400, .inl f_left)), (q 32, .inl (c 1, 400, .inl f_made)), (q 33, .inl (c 1, 400, .inl f_pledge)), (q 34, .inl (c 1, 400, .inl f_pardoned))] := ⟨_, rfl, hP, hD⟩
  refine lv_aload_n hx hb dX7_owes_30 rfl (lv_at hl 1 rfl) ?_
  refine va_get (D := D) (ci := 7) (v := .ref (q 31)) (C := RX7) (T := TX7) (N := 56) hx hb hts (fun _ h => List.mem_cons_of_mem _ (List.mem_append_right _ h)) hown hK hP 0 rfl rfl 31 (by decide) (hts (.fieldLink RX7 59 "CrownTableModel" "left" "[I") (mem_i 5 rfl)) (fun _ h9 => h9) rfl dX7_owes_31 ?_
  refine lv_iload hx hb dX7_owes_34 (lv_at hl 0 rfl) ?_
  refine lv_iload_n hx hb dX7_owes_36 rfl (lv_at hl 4 rfl) ?_
  refine va_iast hx hb hK hP hD hS 4 1 rfl rfl (vin (a := (v 27).toInt) rfl (by omega) (by omega)) dX7_owes_37 (fun H locs hP hD hS => ?_)
  obtain ⟨f_5, ef_5, hP, hD⟩ : ∃ f_5 : Nat → Int32, f_5 = upd f_left (v 27).toNatClampNeg a3 ∧ va_P D vwCl [(A_self, .inr (7, o7 q v w)), (q 28, .inl (c 1, 400, .inl f_1)), (q 29, .inl (c 1, 400, .inl f_3)), (q 30, .inl (c 1, 400, .inl f_4)), (q 31, .inl (c 1, 400, .inl f_5)), (q 32, .inl (c 1, 400, .inl f_made)), (q 33, .inl (c 1, 400, .inl f_pledge)), (q 34, .inl (c 1, 400, .inl f_pardoned))] H ∧ va_D A [(A_self, .inr (7, o7 q v w)), (q 28, .inl (c 1, 400, .inl f_1)), (q 29, .inl (c 1, 400, .inl f_3)), (q 30, .inl (c 1, 400, .inl f_4)), (q 31, .inl (c 1, 400, .inl f_5)), (q 32, .inl (c 1, 400, .inl f_made)), (q 33, .inl (c 1, 400, .inl f_pledge)), (q 34, .inl (c 1, 400, .inl f_pardoned))] := ⟨_, rfl, hP, hD⟩
  refine lv_aload_n hx hb dX7_owes_38 rfl (lv_at hl 1 rfl) ?_
  refine va_get (D := D) (ci := 7) (v := .ref (q 32)) (C := RX7) (T := TX7) (N := 56) hx hb hts (fun _ h => List.mem_cons_of_mem _ (List.mem_append_right _ h)) hown hK hP 0 rfl rfl 32 (by decide) (hts (.fieldLink RX7 62 "CrownTableModel" "made" "[I") (mem_i 6 rfl)) (fun _ h9 => h9) rfl dX7_owes_39 ?_
  refine lv_iload hx hb dX7_owes_42 (lv_at hl 0 rfl) ?_
  refine lv_aload_n hx hb dX7_owes_44 rfl (lv_at hl 1 rfl) ?_
  refine va_get (D := D) (ci := 7) (v := .int (v 24)) (C := RX7) (T := TX7) (N := 56) hx hb hts (fun _ h => List.mem_cons_of_mem _ (List.mem_append_right _ h)) hown hK hP 0 rfl rfl 24 (by decide) (hts (.fieldLink RX7 267 "CrownTableModel" "term" "I") (mem_i 7 rfl)) (fun _ h9 => h9) rfl dX7_owes_45 ?_
  refine va_iast hx hb hK hP hD hS 5 1 rfl rfl (vin (a := (v 27).toInt) rfl (by omega) (by omega)) dX7_owes_48 (fun H locs hP hD hS => ?_)
  obtain ⟨f_6, ef_6, hP, hD⟩ : ∃ f_6 : Nat → Int32, f_6 = upd f_made (v 27).toNatClampNeg (v 24) ∧ va_P D vwCl [(A_self, .inr (7, o7 q v w)), (q 28, .inl (c 1, 400, .inl f_1)), (q 29, .inl (c 1, 400, .inl f_3)), (q 30, .inl (c 1, 400, .inl f_4)), (q 31, .inl (c 1, 400, .inl f_5)), (q 32, .inl (c 1, 400, .inl f_6)), (q 33, .inl (c 1, 400, .inl f_pledge)), (q 34, .inl (c 1, 400, .inl f_pardoned))] H ∧ va_D A [(A_self, .inr (7, o7 q v w)), (q 28, .inl (c 1, 400, .inl f_1)), (q 29, .inl (c 1, 400, .inl f_3)), (q 30, .inl (c 1, 400, .inl f_4)), (q 31, .inl (c 1, 400, .inl f_5)), (q 32, .inl (c 1, 400, .inl f_6)), (q 33, .inl (c 1, 400, .inl f_pledge)), (q 34, .inl (c 1, 400, .inl f_pardoned))] := ⟨_, rfl, hP, hD⟩
  refine lv_aload_n hx hb dX7_owes_49 rfl (lv_at hl 1 rfl) ?_
  refine va_get (D := D) (ci := 7) (v := .ref (q 33)) (C := RX7) (T := TX7) (N := 56) hx hb hts (fun _ h => List.mem_cons_of_mem _ (List.mem_append_right _ h)) hown hK hP 0 rfl rfl 33 (by decide) (hts (.fieldLink RX7 65 "CrownTableModel" "pledge" "[I") (mem_i 8 rfl)) (fun _ h9 => h9) rfl dX7_owes_50 ?_
  refine lv_iload hx hb dX7_owes_53 (lv_at hl 0 rfl) ?_
  refine lv_iload hx hb dX7_owes_55 (lv_at hl 5 rfl) ?_
  refine va_iast hx hb hK hP hD hS 6 1 rfl rfl (vin (a := (v 27).toInt) rfl (by omega) (by omega)) dX7_owes_57 (fun H locs hP hD hS => ?_)
  obtain ⟨f_7, ef_7, hP, hD⟩ : ∃ f_7 : Nat → Int32, f_7 = upd f_pledge (v 27).toNatClampNeg a4 ∧ va_P D vwCl [(A_self, .inr (7, o7 q v w)), (q 28, .inl (c 1, 400, .inl f_1)), (q 29, .inl (c 1, 400, .inl f_3)), (q 30, .inl (c 1, 400, .inl f_4)), (q 31, .inl (c 1, 400, .inl f_5)), (q 32, .inl (c 1, 400, .inl f_6)), (q 33, .inl (c 1, 400, .inl f_7)), (q 34, .inl (c 1, 400, .inl f_pardoned))] H ∧ va_D A [(A_self, .inr (7, o7 q v w)), (q 28, .inl (c 1, 400, .inl f_1)), (q 29, .inl (c 1, 400, .inl f_3)), (q 30, .inl (c 1, 400, .inl f_4)), (q 31, .inl (c 1, 400, .inl f_5)), (q 32, .inl (c 1, 400, .inl f_6)), (q 33, .inl (c 1, 400, .inl f_7)), (q 34, .inl (c 1, 400, .inl f_pardoned))] := ⟨_, rfl, hP, hD⟩
  have hc_8 : ∀ j : Nat, -1 ≤ (f_7 j).toInt ∧ (f_7 j).toInt ≤ 15 := by rw [ef_7]; exact iv_upd hc_pledge (show -1 ≤ a4.toInt ∧ a4.toInt ≤ 15 by omega)
  refine lv_aload_n hx hb dX7_owes_58 rfl (lv_at hl 1 rfl) ?_
  refine va_get (D := D) (ci := 7) (v := .ref (q 34)) (C := RX7) (T := TX7) (N := 56) hx hb hts (fun _ h => List.mem_cons_of_mem _ (List.mem_append_right _ h)) hown hK hP 0 rfl rfl 34 (by decide) (hts (.fieldLink RX7 68 "CrownTableModel" "pardoned" "[I") (mem_i 9 rfl)) (fun _ h9 => h9) rfl dX7_owes_59 ?_
  refine lv_iload hx hb dX7_owes_62 (lv_at hl 0 rfl) ?_
  refine lv_iconst (v := 0) hx hb dX7_owes_64 (by decide) ?_
  refine va_iast hx hb hK hP hD hS 7 1 rfl rfl (vin (a := (v 27).toInt) rfl (by omega) (by omega)) dX7_owes_65 (fun H locs hP hD hS => ?_)
  obtain ⟨f_9, ef_9, hP, hD⟩ : ∃ f_9 : Nat → Int32, f_9 = upd f_pardoned (v 27).toNatClampNeg 0 ∧ va_P D vwCl [(A_self, .inr (7, o7 q v w)), (q 28, .inl (c 1, 400, .inl f_1)), (q 29, .inl (c 1, 400, .inl f_3)), (q 30, .inl (c 1, 400, .inl f_4)), (q 31, .inl (c 1, 400, .inl f_5)), (q 32, .inl (c 1, 400, .inl f_6)), (q 33, .inl (c 1, 400, .inl f_7)), (q 34, .inl (c 1, 400, .inl f_9))] H ∧ va_D A [(A_self, .inr (7, o7 q v w)), (q 28, .inl (c 1, 400, .inl f_1)), (q 29, .inl (c 1, 400, .inl f_3)), (q 30, .inl (c 1, 400, .inl f_4)), (q 31, .inl (c 1, 400, .inl f_5)), (q 32, .inl (c 1, 400, .inl f_6)), (q 33, .inl (c 1, 400, .inl f_7)), (q 34, .inl (c 1, 400, .inl f_9))] := ⟨_, rfl, hP, hD⟩
  refine lv_aload_n hx hb dX7_owes_66 rfl (lv_at hl 1 rfl) ?_
  refine lv_dup hx hb dX7_owes_67 rfl ?_
  refine va_get (D := D) (ci := 7) (v := .int (v 27)) (C := RX7) (T := TX7) (N := 56) hx hb hts (fun _ h => List.mem_cons_of_mem _ (List.mem_append_right _ h)) hown hK hP 0 rfl rfl 27 (by decide) (hts (.fieldLink RX7 277 "CrownTableModel" "debts" "I") (mem_i 1 rfl)) (fun _ h9 => h9) rfl dX7_owes_68 ?_
  refine lv_iconst (v := 1) hx hb dX7_owes_71 (by decide) ?_
  refine lv_iadd hx hb dX7_owes_72 ?_
  refine lv_topi (fun x_10 ex_10 => ?_)
  have tx_10 : x_10.toInt = ((v 27).toInt + 1) := by rw [ex_10]; exact add_ti (a := (v 27).toInt) (b := 1) rfl (by decide) (by omega) (by omega)
  refine va_put (D := D) (ci := 7) (v := .int x_10) (ty := .int) (C := RX7) (T := TX7) (N := 56) hx hb hts (fun _ h => List.mem_cons_of_mem _ (List.mem_append_right _ h)) tyX7 tyX7_ok nmX7 hown hK hP hD hS 0 rfl rfl 27 (by decide) (hts (.fieldLink RX7 277 "CrownTableModel" "debts" "I") (mem_i 1 rfl)) (fun _ h9 => h9) rfl (by decide +kernel) rfl rfl (Nat.le_of_ble_eq_true rfl) dX7_owes_73 (fun H locs hP hD hS => ?_)
  have hP : va_P D vwCl [(A_self, .inr (7, o7 q (upd v 27 x_10) w)), (q 28, .inl (c 1, 400, .inl f_1)), (q 29, .inl (c 1, 400, .inl f_3)), (q 30, .inl (c 1, 400, .inl f_4)), (q 31, .inl (c 1, 400, .inl f_5)), (q 32, .inl (c 1, 400, .inl f_6)), (q 33, .inl (c 1, 400, .inl f_7)), (q 34, .inl (c 1, 400, .inl f_9))] H := hP
  have hD : va_D A [(A_self, .inr (7, o7 q (upd v 27 x_10) w)), (q 28, .inl (c 1, 400, .inl f_1)), (q 29, .inl (c 1, 400, .inl f_3)), (q 30, .inl (c 1, 400, .inl f_4)), (q 31, .inl (c 1, 400, .inl f_5)), (q 32, .inl (c 1, 400, .inl f_6)), (q 33, .inl (c 1, 400, .inl f_7)), (q 34, .inl (c 1, 400, .inl f_9))] := hD
  refine lv_iload hx hb dX7_owes_76 (lv_at hl 0 rfl) ?_
  have hP9 := hP.sub (ws' := [(A_self, .inr (7, o7 q (upd v 27 x_10) w)), (q 28, .inl (c 1, 400, .inl f_1)), (q 29, .inl (c 1, 400, .inl f_3)), (q 30, .inl (c 1, 400, .inl f_4)), (q 31, .inl (c 1, 400, .inl f_5)), (q 32, .inl (c 1, 400, .inl f_6)), (q 33, .inl (c 1, 400, .inl f_7)), (q 34, .inl (c 1, 400, .inl f_9))]) [0, 1, 2, 3, 4, 5, 6, 7] rfl
  have hD9 := hD.sub (ws' := [(A_self, .inr (7, o7 q (upd v 27 x_10) w)), (q 28, .inl (c 1, 400, .inl f_1)), (q 29, .inl (c 1, 400, .inl f_3)), (q 30, .inl (c 1, 400, .inl f_4)), (q 31, .inl (c 1, 400, .inl f_5)), (q 32, .inl (c 1, 400, .inl f_6)), (q 33, .inl (c 1, 400, .inl f_7)), (q 34, .inl (c 1, 400, .inl f_9))]) [0, 1, 2, 3, 4, 5, 6, 7] (by decide) rfl
  refine W.widen (k := 0) (n := 0) (by omega) (by omega) ?_
  exact W.iret (v := (v 27)) hx hb hr (fun t ht hW => ⟨⟨_, (x_10, f_1, f_3, f_4, f_5, f_6, f_7, f_9, ()), rfl, ⟨(show 0 ≤ x_10.toInt ∧ x_10.toInt ≤ 400 by omega), (show ∀ j : Nat, 0 ≤ (f_1 j).toInt ∧ (f_1 j).toInt ≤ 15 from hc_2), (show ∀ j : Nat, -1 ≤ (f_7 j).toInt ∧ (f_7 j).toInt ≤ 15 from hc_8), (show x_10.toInt = (v 27).toInt + 1 by omega)⟩, ⟨by rw [ht]; exact hP9, hD9⟩⟩, hS.F ht⟩) hS.2.2 dX7_owes_78

set_option maxHeartbeats 4000000 in
set_option maxRecDepth 100000 in
theorem k_X7_debt (l : Launch) (D : va_G) (c : Nat → ClassId) (ts : Nat × Nat) (sz : Nat) (A_self : Nat) (q : Nat → Nat) (v : Nat → Int32) (w : Nat → Int64) (f_debtor : Nat → Int32) (f_kind : Nat → Int32) (f_whole : Nat → Int32) (f_left : Nat → Int32) (f_made : Nat → Int32) (f_pledge : Nat → Int32) (f_pardoned : Nat → Int32) (a1 : Int32) (i_a1 : Int) (hi_a1 : a1.toInt = i_a1) (a2 : Int32) (i_a2 : Int) (hi_a2 : a2.toInt = i_a2) (a3 : Int32) (i_a3 : Int) (hi_a3 : a3.toInt = i_a3) (a4 : Int32) (i_a4 : Int) (hi_a4 : a4.toInt = i_a4) (hv_2 : 0 ≤ (v 2).toInt ∧ (v 2).toInt ≤ 800) (hv_8 : 0 ≤ (v 8).toInt ∧ (v 8).toInt ≤ 10) (hv_21 : 0 ≤ (v 21).toInt ∧ (v 21).toInt ≤ 40) (hv_24 : 0 ≤ (v 24).toInt ∧ (v 24).toInt ≤ 1000) (hv_27 : 0 ≤ (v 27).toInt ∧ (v 27).toInt ≤ 400) (hv_42 : 0 ≤ (v 42).toInt ∧ (v 42).toInt ≤ 4000) (hv_52 : 0 ≤ (v 52).toInt ∧ (v 52).toInt ≤ 2000) (hc_debtor : ∀ j : Nat, 0 ≤ (f_debtor j).toInt ∧ (f_debtor j).toInt ≤ 15) (hc_pledge : ∀ j : Nat, -1 ≤ (f_pledge j).toInt ∧ (f_pledge j).toInt ≤ 15) : Met l yX7_debt wsX7_debt ({ frames := 2, cells := 0, slots := 0, locals := 42 }) (va_Pc [.ref A_self, .int a1, .int a2, .int a3, .int a4] (Pre0 D c ts [(A_self, .inr (7, o7 q v w)), (q 28, .inl (c 1, 400, .inl f_debtor)), (q 29, .inl (c 1, 400, .inl f_kind)), (q 30, .inl (c 1, 400, .inl f_whole)), (q 31, .inl (c 1, 400, .inl f_left)), (q 32, .inl (c 1, 400, .inl f_made)), (q 33, .inl (c 1, 400, .inl f_pledge)), (q 34, .inl (c 1, 400, .inl f_pardoned))] sz)) (va_Qi (fun (r : Int32) (u : Int32 × (Nat → Int32) × (Nat → Int32) × (Nat → Int32) × (Nat → Int32) × (Nat → Int32) × (Nat → Int32) × (Nat → Int32) × Unit) => (0 ≤ u.1.toInt ∧ u.1.toInt ≤ 400) ∧ (∀ j : Nat, 0 ≤ (u.2.1 j).toInt ∧ (u.2.1 j).toInt ≤ 15) ∧ (∀ j : Nat, -1 ≤ (u.2.2.2.2.2.2.1 j).toInt ∧ (u.2.2.2.2.2.2.1 j).toInt ≤ 15)) (fun u t => va_P D vwCl [(A_self, .inr (7, o7 q (upd v 27 u.1) w)), (q 28, .inl (c 1, 400, .inl u.2.1)), (q 29, .inl (c 1, 400, .inl u.2.2.1)), (q 30, .inl (c 1, 400, .inl u.2.2.2.1)), (q 31, .inl (c 1, 400, .inl u.2.2.2.2.1)), (q 32, .inl (c 1, 400, .inl u.2.2.2.2.2.1)), (q 33, .inl (c 1, 400, .inl u.2.2.2.2.2.2.1)), (q 34, .inl (c 1, 400, .inl u.2.2.2.2.2.2.2.1))] t.heap ∧ va_D (va_A [(A_self, .inr (7, o7 q v w)), (q 28, .inl (c 1, 400, .inl f_debtor)), (q 29, .inl (c 1, 400, .inl f_kind)), (q 30, .inl (c 1, 400, .inl f_whole)), (q 31, .inl (c 1, 400, .inl f_left)), (q 32, .inl (c 1, 400, .inl f_made)), (q 33, .inl (c 1, 400, .inl f_pledge)), (q 34, .inl (c 1, 400, .inl f_pardoned))] sz) [(A_self, .inr (7, o7 q (upd v 27 u.1) w)), (q 28, .inl (c 1, 400, .inl u.2.1)), (q 29, .inl (c 1, 400, .inl u.2.2.1)), (q 30, .inl (c 1, 400, .inl u.2.2.2.1)), (q 31, .inl (c 1, 400, .inl u.2.2.2.2.1)), (q 32, .inl (c 1, 400, .inl u.2.2.2.2.2.1)), (q 33, .inl (c 1, 400, .inl u.2.2.2.2.2.2.1)), (q 34, .inl (c 1, 400, .inl u.2.2.2.2.2.2.2.1))]) (va_A [(A_self, .inr (7, o7 q v w)), (q 28, .inl (c 1, 400, .inl f_debtor)), (q 29, .inl (c 1, 400, .inl f_kind)), (q 30, .inl (c 1, 400, .inl f_whole)), (q 31, .inl (c 1, 400, .inl f_left)), (q 32, .inl (c 1, 400, .inl f_made)), (q 33, .inl (c 1, 400, .inl f_pledge)), (q 34, .inl (c 1, 400, .inl f_pardoned))] sz)) 0 0 (va_A [(A_self, .inr (7, o7 q v w)), (q 28, .inl (c 1, 400, .inl f_debtor)), (q 29, .inl (c 1, 400, .inl f_kind)), (q 30, .inl (c 1, 400, .inl f_whole)), (q 31, .inl (c 1, 400, .inl f_left)), (q 32, .inl (c 1, 400, .inl f_made)), (q 33, .inl (c 1, 400, .inl f_pledge)), (q 34, .inl (c 1, 400, .inl f_pardoned))] sz) := by
  refine Met.ofW (cc := cX7_debt) (maxL := 5) (ret := (some .int)) (by decide) rfl ?_
  intro p e s m args below meth cd s₁ B hml hv
  obtain ⟨rfl, hsz, hP, hD0, hAm, hSt⟩ := hv
  have hx := B.exec
  have hb := B.bytes
  have hr := B.returns
  have hts := atoms_spec (ws := wsX7_debt) B.pre
  have hown : s.vm.findClass RX7 = some m.cls := findClass_of_methodNamed B.named
  have hlocks := B.notSynchronized
  have hK := hAm.1
  subst hsz
  have hD := hD0.self (sz := s.heap.size)
  generalize hAe : va_A [(A_self, .inr (7, o7 q v w)), (q 28, .inl (c 1, 400, .inl f_debtor)), (q 29, .inl (c 1, 400, .inl f_kind)), (q 30, .inl (c 1, 400, .inl f_whole)), (q 31, .inl (c 1, 400, .inl f_left)), (q 32, .inl (c 1, 400, .inl f_made)), (q 33, .inl (c 1, 400, .inl f_pledge)), (q 34, .inl (c 1, 400, .inl f_pardoned))] s.heap.size = A at hD hSt ⊢
  have hA : ∀ q : Nat, s.heap.size ≤ q → A q := fun q h => by rw [← hAe]; exact Or.inr h
  have hS : va_S A s.heap s.heap [] := va_S.rf
  clear hD0 hAe
  have hl := lv_entry ([.ref A_self, .int a1, .int a2, .int a3, .int a4]) (n := 5) (Nat.le_of_ble_eq_true rfl)
  rw [lg_entry_eq]
  generalize (lg_sl ([.ref A_self, .int a1, .int a2, .int a3, .int a4]) ++ List.replicate (5 - (lg_sl ([.ref A_self, .int a1, .int a2, .int a3, .int a4])).length) Slot.unset).toArray = ls at hl ⊢
  have hl : lv_has ls 5 [(0, .ref A_self), (1, .int a1), (2, .int a2), (3, .int a3), (4, .int a4)] := hl
  have rg_a1 := i32r a1
  have rg_a2 := i32r a2
  have rg_a3 := i32r a3
  have rg_a4 := i32r a4
  refine lv_iload_n hx hb dX7_debt_0 rfl (lv_at hl 1 rfl) ?_
  have hPc := hP.sub (ws' := []) [] rfl
  have hDc := hD.sub (ws' := []) [] (by decide) rfl
  have hFc := va_free (wc := []) hD hS hA [] rfl
  refine va_csi (va_runS (As := [.int a1]) (rest := []) ⟨hx, hb, hml, hown, hts⟩ (k_X7_isPerson l D c ts s.heap.size a1 i_a1 hi_a1) (cwS 1 hts gX7_debt_X7_isPerson rfl rfl rfl ⟨rfl, hdX7_isPerson⟩ ⟨(show 1 + 1 ≤ 2 by decide), (show 8 + (1 + 11) + 22 ≤ 42 by decide)⟩) ⟨Pre0.blind, Pre0.at hPc hDc hAm hSt hS hFc⟩ rfl rfl hl.1 rfl (lv_room (Nat.le_of_ble_eq_true rfl)) dX7_debt_1 ⟨(show 0 + 0 ≤ 0 by decide), (show 0 + 0 ≤ 0 by decide)⟩) (fun r_2 hw_1 => ?_)
  rcases hw_1 with ⟨hw_1, rfl⟩ | ⟨hw_1, rfl⟩
  · skip
    refine iif_eqF (a := 1) (tgt := 27) hx hb (by decide) dX7_debt_4 (by decide) (by decide) ?_
    refine lv_iload_n hx hb dX7_debt_7 rfl (lv_at hl 2 rfl) ?_
    refine lv_iconst (v := 1) hx hb dX7_debt_8 (by decide) ?_
    refine lv_iconst (v := 3) hx hb dX7_debt_9 (by decide) ?_
    have hPc := hP.sub (ws' := []) [] rfl
    have hDc := hD.sub (ws' := []) [] (by decide) rfl
    have hFc := va_free (wc := []) hD hS hA [] rfl
    have kzz_3 : (1 : Int32).toInt = 1 := by decide
    have kzz_4 : (3 : Int32).toInt = 3 := by decide
    refine va_csi (va_runS (As := [.int a2, .int 1, .int 3]) (rest := []) ⟨hx, hb, hml, hown, hts⟩ (k_X7_in l D c ts s.heap.size a2 i_a2 hi_a2 1 1 (by decide) 3 3 (by decide)) (cwS 3 hts gX7_debt_X7_in rfl rfl rfl ⟨rfl, hdX7_in⟩ ⟨(show 0 + 1 ≤ 2 by decide), (show 8 + (3 + 11) + 0 ≤ 42 by decide)⟩) ⟨Pre0.blind, Pre0.at hPc hDc hAm hSt hS hFc⟩ rfl rfl hl.1 rfl (lv_room (Nat.le_of_ble_eq_true rfl)) dX7_debt_10 ⟨(show 0 + 0 ≤ 0 by decide), (show 0 + 0 ≤ 0 by decide)⟩) (fun r_6 hw_5 => ?_)
    rcases hw_5 with ⟨hw_5, rfl⟩ | ⟨hw_5, rfl⟩
    · skip
      refine iif_eqF (a := 1) (tgt := 27) hx hb (by decide) dX7_debt_13 (by decide) (by decide) ?_
      refine lv_iload_n hx hb dX7_debt_16 rfl (lv_at hl 3 rfl) ?_
      refine lv_iconst (v := 1) hx hb dX7_debt_17 (by decide) ?_
      refine lv_ldcw (v := 1000000) hx hb hown (hts (.constant RX7 284 (1000000)) (mem_i 1 rfl)) dX7_debt_18 ?_
      have hPc := hP.sub (ws' := []) [] rfl
      have hDc := hD.sub (ws' := []) [] (by decide) rfl
      have hFc := va_free (wc := []) hD hS hA [] rfl
      have kzz_7 : (1 : Int32).toInt = 1 := by decide
      have kzz_8 : (1000000 : Int32).toInt = 1000000 := by decide
      refine va_csi (va_runS (As := [.int a3, .int 1, .int 1000000]) (rest := []) ⟨hx, hb, hml, hown, hts⟩ (k_X7_in l D c ts s.heap.size a3 i_a3 hi_a3 1 1 (by decide) 1000000 1000000 (by decide)) (cwS 3 hts gX7_debt_X7_in rfl rfl rfl ⟨rfl, hdX7_in⟩ ⟨(show 0 + 1 ≤ 2 by decide), (show 8 + (3 + 11) + 0 ≤ 42 by decide)⟩) ⟨Pre0.blind, Pre0.at hPc hDc hAm hSt hS hFc⟩ rfl rfl hl.1 rfl (lv_room (Nat.le_of_ble_eq_true rfl)) dX7_debt_21 ⟨(show 0 + 0 ≤ 0 by decide), (show 0 + 0 ≤ 0 by decide)⟩) (fun r_10 hw_9 => ?_)
      rcases hw_9 with ⟨hw_9, rfl⟩ | ⟨hw_9, rfl⟩
      · skip
        refine iif_neT (a := 1) (tgt := 29) hx hb (by decide) dX7_debt_24 (by decide) (by decide) ?_
        refine lv_iload_n hx hb dX7_debt_29 rfl (lv_at hl 2 rfl) ?_
        refine lv_iconst (v := 3) hx hb dX7_debt_30 (by decide) ?_
        refine iicmp_ne (a := i_a2) (b := 3) (tgt := 51) hx hb hi_a2 (by decide) dX7_debt_31 (by decide) (fun k_11 => ?_) (fun k_11 => ?_)
        · skip
          refine lv_iload hx hb dX7_debt_51 (lv_at hl 4 rfl) ?_
          refine lv_iconst (v := (-1)) hx hb dX7_debt_53 (by decide) ?_
          refine iicmp_eq (a := i_a4) (b := (-1)) (tgt := 59) hx hb hi_a4 (by decide) dX7_debt_54 (by decide) (fun k_12 => ?_) (fun k_12 => ?_)
          · skip
            refine lv_aload_n hx hb dX7_debt_59 rfl (lv_at hl 0 rfl) ?_
            refine va_get (D := D) (ci := 7) (v := .int (v 27)) (C := RX7) (T := TX7) (N := 56) hx hb hts (fun _ h => List.mem_cons_of_mem _ (List.mem_append_right _ h)) hown hK hP 0 rfl rfl 27 (by decide) (hts (.fieldLink RX7 277 "CrownTableModel" "debts" "I") (mem_i 2 rfl)) (fun _ h9 => h9) rfl dX7_debt_60 ?_
            refine lv_sipush (v := 400) hx hb dX7_debt_63 (by decide) ?_
            refine iicmp_ne (a := (v 27).toInt) (b := 400) (tgt := 74) hx hb rfl (by decide) dX7_debt_66 (by decide) (fun k_13 => ?_) (fun k_13 => ?_)
            · skip
              refine lv_aload_n hx hb dX7_debt_74 rfl (lv_at hl 0 rfl) ?_
              refine lv_iload_n hx hb dX7_debt_75 rfl (lv_at hl 1 rfl) ?_
              refine lv_iload_n hx hb dX7_debt_76 rfl (lv_at hl 2 rfl) ?_
              refine lv_iload_n hx hb dX7_debt_77 rfl (lv_at hl 3 rfl) ?_
              refine lv_iload hx hb dX7_debt_78 (lv_at hl 4 rfl) ?_
              have hPc := hP.sub (ws' := [(A_self, .inr (7, o7 q v w)), (q 28, .inl (c 1, 400, .inl f_debtor)), (q 29, .inl (c 1, 400, .inl f_kind)), (q 30, .inl (c 1, 400, .inl f_whole)), (q 31, .inl (c 1, 400, .inl f_left)), (q 32, .inl (c 1, 400, .inl f_made)), (q 33, .inl (c 1, 400, .inl f_pledge)), (q 34, .inl (c 1, 400, .inl f_pardoned))]) [0, 1, 2, 3, 4, 5, 6, 7] rfl
              have hDc := hD.sub (ws' := [(A_self, .inr (7, o7 q v w)), (q 28, .inl (c 1, 400, .inl f_debtor)), (q 29, .inl (c 1, 400, .inl f_kind)), (q 30, .inl (c 1, 400, .inl f_whole)), (q 31, .inl (c 1, 400, .inl f_left)), (q 32, .inl (c 1, 400, .inl f_made)), (q 33, .inl (c 1, 400, .inl f_pledge)), (q 34, .inl (c 1, 400, .inl f_pardoned))]) [0, 1, 2, 3, 4, 5, 6, 7] (by decide) rfl
              have hFc := va_free (wc := [(A_self, .inr (7, o7 q v w)), (q 28, .inl (c 1, 400, .inl f_debtor)), (q 29, .inl (c 1, 400, .inl f_kind)), (q 30, .inl (c 1, 400, .inl f_whole)), (q 31, .inl (c 1, 400, .inl f_left)), (q 32, .inl (c 1, 400, .inl f_made)), (q 33, .inl (c 1, 400, .inl f_pledge)), (q 34, .inl (c 1, 400, .inl f_pardoned))]) hD hS hA [0, 1, 2, 3, 4, 5, 6, 7] rfl
              refine va_calli (va_runV (As := [.int a1, .int a2, .int a3, .int a4]) (rest := []) ⟨hx, hb, hml, hown, hts⟩ (k_X7_owes l D c ts s.heap.size A_self q v w f_debtor f_kind f_whole f_left f_made f_pledge f_pardoned a1 i_a1 hi_a1 a2 i_a2 hi_a2 a3 i_a3 hi_a3 a4 i_a4 hi_a4 (show 0 ≤ (v 2).toInt ∧ (v 2).toInt ≤ 800 by omega) (show 0 ≤ (v 8).toInt ∧ (v 8).toInt ≤ 10 by omega) (show 0 ≤ (v 21).toInt ∧ (v 21).toInt ≤ 40 by omega) (show 0 ≤ (v 24).toInt ∧ (v 24).toInt ≤ 1000 by omega) (show 0 ≤ (v 27).toInt ∧ (v 27).toInt ≤ 400 by omega) (show 0 ≤ (v 42).toInt ∧ (v 42).toInt ≤ 4000 by omega) (show 0 ≤ (v 52).toInt ∧ (v 52).toInt ≤ 2000 by omega) hc_debtor hc_pledge (show 0 ≤ i_a1 ∧ i_a1 ≤ 15 by omega) (show -1 ≤ i_a4 ∧ i_a4 ≤ 15 by omega) (show (v 27).toInt ≤ 399 by omega)) (cwV 4 hts gX7_debt_X7_owes rfl rfl rfl ⟨rfl, hdX7_owes⟩ ⟨(show 0 + 1 ≤ 2 by decide), (show 8 + (6 + 11) + 0 ≤ 42 by decide)⟩) ⟨Pre0.blind, va_recv hK hPc (ci := 7) (q0 := 0) rfl rfl, Pre0.at hPc hDc hAm hSt hS hFc⟩ rfl rfl hl.1 rfl (lv_room (Nat.le_of_ble_eq_true rfl)) dX7_debt_80 ⟨(show 0 + 0 ≤ 0 by decide), (show 0 + 0 ≤ 0 by decide)⟩) hS (fun q _ h => hFc q h) hFc (fun r_15 u_16 t1 H locs ht hvm hw_14 hB_9 hz1_9 hk1_9 hS => ?_)
              obtain ⟨y_17, f_18, f_19, f_20, f_21, f_22, f_23, f_24, _⟩ := u_16
              have hw_14 : (0 ≤ y_17.toInt ∧ y_17.toInt ≤ 400) ∧ (∀ j : Nat, 0 ≤ (f_18 j).toInt ∧ (f_18 j).toInt ≤ 15) ∧ (∀ j : Nat, -1 ≤ (f_23 j).toInt ∧ (f_23 j).toInt ≤ 15) ∧ (y_17.toInt = (v 27).toInt + 1) := hw_14
              obtain ⟨hw_25, hw_26, hw_27, hw_28⟩ := hw_14
              obtain ⟨hP1_9, hD1_9⟩ := hB_9
              rw [ht] at hP1_9
              have hP1_9 : va_P D vwCl [(A_self, .inr (7, o7 q (upd v 27 y_17) w)), (q 28, .inl (c 1, 400, .inl f_18)), (q 29, .inl (c 1, 400, .inl f_19)), (q 30, .inl (c 1, 400, .inl f_20)), (q 31, .inl (c 1, 400, .inl f_21)), (q 32, .inl (c 1, 400, .inl f_22)), (q 33, .inl (c 1, 400, .inl f_23)), (q 34, .inl (c 1, 400, .inl f_24))] H := hP1_9
              obtain ⟨hP, hD⟩ := va_join (wr := []) (w1 := [(A_self, .inr (7, o7 q (upd v 27 y_17) w)), (q 28, .inl (c 1, 400, .inl f_18)), (q 29, .inl (c 1, 400, .inl f_19)), (q 30, .inl (c 1, 400, .inl f_20)), (q 31, .inl (c 1, 400, .inl f_21)), (q 32, .inl (c 1, 400, .inl f_22)), (q 33, .inl (c 1, 400, .inl f_23)), (q 34, .inl (c 1, 400, .inl f_24))]) hP hD [0, 1, 2, 3, 4, 5, 6, 7] [] rfl rfl (by decide) (by decide) hk1_9 hFc hP1_9 hD1_9
              have hP : va_P D vwCl [(A_self, .inr (7, o7 q (upd v 27 y_17) w)), (q 28, .inl (c 1, 400, .inl f_18)), (q 29, .inl (c 1, 400, .inl f_19)), (q 30, .inl (c 1, 400, .inl f_20)), (q 31, .inl (c 1, 400, .inl f_21)), (q 32, .inl (c 1, 400, .inl f_22)), (q 33, .inl (c 1, 400, .inl f_23)), (q 34, .inl (c 1, 400, .inl f_24))] H := hP
              have hD : va_D A [(A_self, .inr (7, o7 q (upd v 27 y_17) w)), (q 28, .inl (c 1, 400, .inl f_18)), (q 29, .inl (c 1, 400, .inl f_19)), (q 30, .inl (c 1, 400, .inl f_20)), (q 31, .inl (c 1, 400, .inl f_21)), (q 32, .inl (c 1, 400, .inl f_22)), (q 33, .inl (c 1, 400, .inl f_23)), (q 34, .inl (c 1, 400, .inl f_24))] := hD
              refine W.widen (k := 0) (n := 0) (by omega) (by omega) ?_
              have rg_r_15 := i32r r_15
              have hP9 := hP.sub (ws' := [(A_self, .inr (7, o7 q (upd v 27 y_17) w)), (q 28, .inl (c 1, 400, .inl f_18)), (q 29, .inl (c 1, 400, .inl f_19)), (q 30, .inl (c 1, 400, .inl f_20)), (q 31, .inl (c 1, 400, .inl f_21)), (q 32, .inl (c 1, 400, .inl f_22)), (q 33, .inl (c 1, 400, .inl f_23)), (q 34, .inl (c 1, 400, .inl f_24))]) [0, 1, 2, 3, 4, 5, 6, 7] rfl
              have hD9 := hD.sub (ws' := [(A_self, .inr (7, o7 q (upd v 27 y_17) w)), (q 28, .inl (c 1, 400, .inl f_18)), (q 29, .inl (c 1, 400, .inl f_19)), (q 30, .inl (c 1, 400, .inl f_20)), (q 31, .inl (c 1, 400, .inl f_21)), (q 32, .inl (c 1, 400, .inl f_22)), (q 33, .inl (c 1, 400, .inl f_23)), (q 34, .inl (c 1, 400, .inl f_24))]) [0, 1, 2, 3, 4, 5, 6, 7] (by decide) rfl
              refine W.widen (k := 0) (n := 0) (by omega) (by omega) ?_
              exact W.iret (v := r_15) hx hb hr (fun t ht hW => ⟨⟨_, (y_17, f_18, f_19, f_20, f_21, f_22, f_23, f_24, ()), rfl, ⟨(show 0 ≤ y_17.toInt ∧ y_17.toInt ≤ 400 by omega), (show ∀ j : Nat, 0 ≤ (f_18 j).toInt ∧ (f_18 j).toInt ≤ 15 from hw_26), (show ∀ j : Nat, -1 ≤ (f_23 j).toInt ∧ (f_23 j).toInt ≤ 15 from hw_27)⟩, ⟨by rw [ht]; exact hP9, hD9⟩⟩, hS.F ht⟩) hS.2.2 dX7_debt_83
            · skip
              refine lv_bipush (v := (-3)) hx hb dX7_debt_69 (by decide) ?_
              refine lv_goto (tgt := 83) hx hb dX7_debt_71 (by decide) ?_
              have kzz_29 : ((-3) : Int32).toInt = (-3) := by decide
              have hP9 := hP.sub (ws' := [(A_self, .inr (7, o7 q v w)), (q 28, .inl (c 1, 400, .inl f_debtor)), (q 29, .inl (c 1, 400, .inl f_kind)), (q 30, .inl (c 1, 400, .inl f_whole)), (q 31, .inl (c 1, 400, .inl f_left)), (q 32, .inl (c 1, 400, .inl f_made)), (q 33, .inl (c 1, 400, .inl f_pledge)), (q 34, .inl (c 1, 400, .inl f_pardoned))]) [0, 1, 2, 3, 4, 5, 6, 7] rfl
              have hD9 := hD.sub (ws' := [(A_self, .inr (7, o7 q v w)), (q 28, .inl (c 1, 400, .inl f_debtor)), (q 29, .inl (c 1, 400, .inl f_kind)), (q 30, .inl (c 1, 400, .inl f_whole)), (q 31, .inl (c 1, 400, .inl f_left)), (q 32, .inl (c 1, 400, .inl f_made)), (q 33, .inl (c 1, 400, .inl f_pledge)), (q 34, .inl (c 1, 400, .inl f_pardoned))]) [0, 1, 2, 3, 4, 5, 6, 7] (by decide) rfl
              refine W.widen (k := 0) (n := 0) (by omega) (by omega) ?_
              exact W.iret (v := (-3)) hx hb hr (fun t ht hW => ⟨⟨_, ((v 27), f_debtor, f_kind, f_whole, f_left, f_made, f_pledge, f_pardoned, ()), rfl, ⟨(show 0 ≤ (v 27).toInt ∧ (v 27).toInt ≤ 400 by omega), (show ∀ j : Nat, 0 ≤ (f_debtor j).toInt ∧ (f_debtor j).toInt ≤ 15 from hc_debtor), (show ∀ j : Nat, -1 ≤ (f_pledge j).toInt ∧ (f_pledge j).toInt ≤ 15 from hc_pledge)⟩, ⟨by rw [ht]; exact hP9, hD9⟩⟩, hS.F ht⟩) hS.2.2 dX7_debt_83
          · skip
            refine lv_iconst (v := (-1)) hx hb dX7_debt_57 (by decide) ?_
            have kzz_30 : ((-1) : Int32).toInt = (-1) := by decide
            have hP9 := hP.sub (ws' := [(A_self, .inr (7, o7 q v w)), (q 28, .inl (c 1, 400, .inl f_debtor)), (q 29, .inl (c 1, 400, .inl f_kind)), (q 30, .inl (c 1, 400, .inl f_whole)), (q 31, .inl (c 1, 400, .inl f_left)), (q 32, .inl (c 1, 400, .inl f_made)), (q 33, .inl (c 1, 400, .inl f_pledge)), (q 34, .inl (c 1, 400, .inl f_pardoned))]) [0, 1, 2, 3, 4, 5, 6, 7] rfl
            have hD9 := hD.sub (ws' := [(A_self, .inr (7, o7 q v w)), (q 28, .inl (c 1, 400, .inl f_debtor)), (q 29, .inl (c 1, 400, .inl f_kind)), (q 30, .inl (c 1, 400, .inl f_whole)), (q 31, .inl (c 1, 400, .inl f_left)), (q 32, .inl (c 1, 400, .inl f_made)), (q 33, .inl (c 1, 400, .inl f_pledge)), (q 34, .inl (c 1, 400, .inl f_pardoned))]) [0, 1, 2, 3, 4, 5, 6, 7] (by decide) rfl
            refine W.widen (k := 0) (n := 0) (by omega) (by omega) ?_
            exact W.iret (v := (-1)) hx hb hr (fun t ht hW => ⟨⟨_, ((v 27), f_debtor, f_kind, f_whole, f_left, f_made, f_pledge, f_pardoned, ()), rfl, ⟨(show 0 ≤ (v 27).toInt ∧ (v 27).toInt ≤ 400 by omega), (show ∀ j : Nat, 0 ≤ (f_debtor j).toInt ∧ (f_debtor j).toInt ≤ 15 from hc_debtor), (show ∀ j : Nat, -1 ≤ (f_pledge j).toInt ∧ (f_pledge j).toInt ≤ 15 from hc_pledge)⟩, ⟨by rw [ht]; exact hP9, hD9⟩⟩, hS.F ht⟩) hS.2.2 dX7_debt_58
        · skip
          refine lv_iload hx hb dX7_debt_34 (lv_at hl 4 rfl) ?_
          have hPc := hP.sub (ws' := []) [] rfl
          have hDc := hD.sub (ws' := []) [] (by decide) rfl
          have hFc := va_free (wc := []) hD hS hA [] rfl
          refine va_csi (va_runS (As := [.int a4]) (rest := []) ⟨hx, hb, hml, hown, hts⟩ (k_X7_isPerson l D c ts s.heap.size a4 i_a4 hi_a4) (cwS 1 hts gX7_debt_X7_isPerson rfl rfl rfl ⟨rfl, hdX7_isPerson⟩ ⟨(show 1 + 1 ≤ 2 by decide), (show 8 + (1 + 11) + 22 ≤ 42 by decide)⟩) ⟨Pre0.blind, Pre0.at hPc hDc hAm hSt hS hFc⟩ rfl rfl hl.1 rfl (lv_room (Nat.le_of_ble_eq_true rfl)) dX7_debt_36 ⟨(show 0 + 0 ≤ 0 by decide), (show 0 + 0 ≤ 0 by decide)⟩) (fun r_32 hw_31 => ?_)
          rcases hw_31 with ⟨hw_31, rfl⟩ | ⟨hw_31, rfl⟩
          · skip
            refine iif_eqF (a := 1) (tgt := 57) hx hb (by decide) dX7_debt_39 (by decide) (by decide) ?_
            refine lv_iload hx hb dX7_debt_42 (lv_at hl 4 rfl) ?_
            refine lv_iload_n hx hb dX7_debt_44 rfl (lv_at hl 1 rfl) ?_
            refine iicmp_ne (a := i_a4) (b := i_a1) (tgt := 59) hx hb hi_a4 hi_a1 dX7_debt_45 (by decide) (fun k_33 => ?_) (fun k_33 => ?_)
            · skip
              refine lv_aload_n hx hb dX7_debt_59 rfl (lv_at hl 0 rfl) ?_
              refine va_get (D := D) (ci := 7) (v := .int (v 27)) (C := RX7) (T := TX7) (N := 56) hx hb hts (fun _ h => List.mem_cons_of_mem _ (List.mem_append_right _ h)) hown hK hP 0 rfl rfl 27 (by decide) (hts (.fieldLink RX7 277 "CrownTableModel" "debts" "I") (mem_i 2 rfl)) (fun _ h9 => h9) rfl dX7_debt_60 ?_
              refine lv_sipush (v := 400) hx hb dX7_debt_63 (by decide) ?_
              refine iicmp_ne (a := (v 27).toInt) (b := 400) (tgt := 74) hx hb rfl (by decide) dX7_debt_66 (by decide) (fun k_34 => ?_) (fun k_34 => ?_)
              · skip
                refine lv_aload_n hx hb dX7_debt_74 rfl (lv_at hl 0 rfl) ?_
                refine lv_iload_n hx hb dX7_debt_75 rfl (lv_at hl 1 rfl) ?_
                refine lv_iload_n hx hb dX7_debt_76 rfl (lv_at hl 2 rfl) ?_
                refine lv_iload_n hx hb dX7_debt_77 rfl (lv_at hl 3 rfl) ?_
                refine lv_iload hx hb dX7_debt_78 (lv_at hl 4 rfl) ?_
                have hPc := hP.sub (ws' := [(A_self, .inr (7, o7 q v w)), (q 28, .inl (c 1, 400, .inl f_debtor)), (q 29, .inl (c 1, 400, .inl f_kind)), (q 30, .inl (c 1, 400, .inl f_whole)), (q 31, .inl (c 1, 400, .inl f_left)), (q 32, .inl (c 1, 400, .inl f_made)), (q 33, .inl (c 1, 400, .inl f_pledge)), (q 34, .inl (c 1, 400, .inl f_pardoned))]) [0, 1, 2, 3, 4, 5, 6, 7] rfl
                have hDc := hD.sub (ws' := [(A_self, .inr (7, o7 q v w)), (q 28, .inl (c 1, 400, .inl f_debtor)), (q 29, .inl (c 1, 400, .inl f_kind)), (q 30, .inl (c 1, 400, .inl f_whole)), (q 31, .inl (c 1, 400, .inl f_left)), (q 32, .inl (c 1, 400, .inl f_made)), (q 33, .inl (c 1, 400, .inl f_pledge)), (q 34, .inl (c 1, 400, .inl f_pardoned))]) [0, 1, 2, 3, 4, 5, 6, 7] (by decide) rfl
                have hFc := va_free (wc := [(A_self, .inr (7, o7 q v w)), (q 28, .inl (c 1, 400, .inl f_debtor)), (q 29, .inl (c 1, 400, .inl f_kind)), (q 30, .inl (c 1, 400, .inl f_whole)), (q 31, .inl (c 1, 400, .inl f_left)), (q 32, .inl (c 1, 400, .inl f_made)), (q 33, .inl (c 1, 400, .inl f_pledge)), (q 34, .inl (c 1, 400, .inl f_pardoned))]) hD hS hA [0, 1, 2, 3, 4, 5, 6, 7] rfl
                refine va_calli (va_runV (As := [.int a1, .int a2, .int a3, .int a4]) (rest := []) ⟨hx, hb, hml, hown, hts⟩ (k_X7_owes l D c ts s.heap.size A_self q v w f_debtor f_kind f_whole f_left f_made f_pledge f_pardoned a1 i_a1 hi_a1 a2 i_a2 hi_a2 a3 i_a3 hi_a3 a4 i_a4 hi_a4 (show 0 ≤ (v 2).toInt ∧ (v 2).toInt ≤ 800 by omega) (show 0 ≤ (v 8).toInt ∧ (v 8).toInt ≤ 10 by omega) (show 0 ≤ (v 21).toInt ∧ (v 21).toInt ≤ 40 by omega) (show 0 ≤ (v 24).toInt ∧ (v 24).toInt ≤ 1000 by omega) (show 0 ≤ (v 27).toInt ∧ (v 27).toInt ≤ 400 by omega) (show 0 ≤ (v 42).toInt ∧ (v 42).toInt ≤ 4000 by omega) (show 0 ≤ (v 52).toInt ∧ (v 52).toInt ≤ 2000 by omega) hc_debtor hc_pledge (show 0 ≤ i_a1 ∧ i_a1 ≤ 15 by omega) (show -1 ≤ i_a4 ∧ i_a4 ≤ 15 by omega) (show (v 27).toInt ≤ 399 by omega)) (cwV 4 hts gX7_debt_X7_owes rfl rfl rfl ⟨rfl, hdX7_owes⟩ ⟨(show 0 + 1 ≤ 2 by decide), (show 8 + (6 + 11) + 0 ≤ 42 by decide)⟩) ⟨Pre0.blind, va_recv hK hPc (ci := 7) (q0 := 0) rfl rfl, Pre0.at hPc hDc hAm hSt hS hFc⟩ rfl rfl hl.1 rfl (lv_room (Nat.le_of_ble_eq_true rfl)) dX7_debt_80 ⟨(show 0 + 0 ≤ 0 by decide), (show 0 + 0 ≤ 0 by decide)⟩) hS (fun q _ h => hFc q h) hFc (fun r_36 u_37 t1 H locs ht hvm hw_35 hB_9 hz1_9 hk1_9 hS => ?_)
                obtain ⟨y_38, f_39, f_40, f_41, f_42, f_43, f_44, f_45, _⟩ := u_37
                have hw_35 : (0 ≤ y_38.toInt ∧ y_38.toInt ≤ 400) ∧ (∀ j : Nat, 0 ≤ (f_39 j).toInt ∧ (f_39 j).toInt ≤ 15) ∧ (∀ j : Nat, -1 ≤ (f_44 j).toInt ∧ (f_44 j).toInt ≤ 15) ∧ (y_38.toInt = (v 27).toInt + 1) := hw_35
                obtain ⟨hw_46, hw_47, hw_48, hw_49⟩ := hw_35
                obtain ⟨hP1_9, hD1_9⟩ := hB_9
                rw [ht] at hP1_9
                have hP1_9 : va_P D vwCl [(A_self, .inr (7, o7 q (upd v 27 y_38) w)), (q 28, .inl (c 1, 400, .inl f_39)), (q 29, .inl (c 1, 400, .inl f_40)), (q 30, .inl (c 1, 400, .inl f_41)), (q 31, .inl (c 1, 400, .inl f_42)), (q 32, .inl (c 1, 400, .inl f_43)), (q 33, .inl (c 1, 400, .inl f_44)), (q 34, .inl (c 1, 400, .inl f_45))] H := hP1_9
                obtain ⟨hP, hD⟩ := va_join (wr := []) (w1 := [(A_self, .inr (7, o7 q (upd v 27 y_38) w)), (q 28, .inl (c 1, 400, .inl f_39)), (q 29, .inl (c 1, 400, .inl f_40)), (q 30, .inl (c 1, 400, .inl f_41)), (q 31, .inl (c 1, 400, .inl f_42)), (q 32, .inl (c 1, 400, .inl f_43)), (q 33, .inl (c 1, 400, .inl f_44)), (q 34, .inl (c 1, 400, .inl f_45))]) hP hD [0, 1, 2, 3, 4, 5, 6, 7] [] rfl rfl (by decide) (by decide) hk1_9 hFc hP1_9 hD1_9
                have hP : va_P D vwCl [(A_self, .inr (7, o7 q (upd v 27 y_38) w)), (q 28, .inl (c 1, 400, .inl f_39)), (q 29, .inl (c 1, 400, .inl f_40)), (q 30, .inl (c 1, 400, .inl f_41)), (q 31, .inl (c 1, 400, .inl f_42)), (q 32, .inl (c 1, 400, .inl f_43)), (q 33, .inl (c 1, 400, .inl f_44)), (q 34, .inl (c 1, 400, .inl f_45))] H := hP
                have hD : va_D A [(A_self, .inr (7, o7 q (upd v 27 y_38) w)), (q 28, .inl (c 1, 400, .inl f_39)), (q 29, .inl (c 1, 400, .inl f_40)), (q 30, .inl (c 1, 400, .inl f_41)), (q 31, .inl (c 1, 400, .inl f_42)), (q 32, .inl (c 1, 400, .inl f_43)), (q 33, .inl (c 1, 400, .inl f_44)), (q 34, .inl (c 1, 400, .inl f_45))] := hD
                refine W.widen (k := 0) (n := 0) (by omega) (by omega) ?_
                have rg_r_36 := i32r r_36
                have hP9 := hP.sub (ws' := [(A_self, .inr (7, o7 q (upd v 27 y_38) w)), (q 28, .inl (c 1, 400, .inl f_39)), (q 29, .inl (c 1, 400, .inl f_40)), (q 30, .inl (c 1, 400, .inl f_41)), (q 31, .inl (c 1, 400, .inl f_42)), (q 32, .inl (c 1, 400, .inl f_43)), (q 33, .inl (c 1, 400, .inl f_44)), (q 34, .inl (c 1, 400, .inl f_45))]) [0, 1, 2, 3, 4, 5, 6, 7] rfl
                have hD9 := hD.sub (ws' := [(A_self, .inr (7, o7 q (upd v 27 y_38) w)), (q 28, .inl (c 1, 400, .inl f_39)), (q 29, .inl (c 1, 400, .inl f_40)), (q 30, .inl (c 1, 400, .inl f_41)), (q 31, .inl (c 1, 400, .inl f_42)), (q 32, .inl (c 1, 400, .inl f_43)), (q 33, .inl (c 1, 400, .inl f_44)), (q 34, .inl (c 1, 400, .inl f_45))]) [0, 1, 2, 3, 4, 5, 6, 7] (by decide) rfl
                refine W.widen (k := 0) (n := 0) (by omega) (by omega) ?_
                exact W.iret (v := r_36) hx hb hr (fun t ht hW => ⟨⟨_, (y_38, f_39, f_40, f_41, f_42, f_43, f_44, f_45, ()), rfl, ⟨(show 0 ≤ y_38.toInt ∧ y_38.toInt ≤ 400 by omega), (show ∀ j : Nat, 0 ≤ (f_39 j).toInt ∧ (f_39 j).toInt ≤ 15 from hw_47), (show ∀ j : Nat, -1 ≤ (f_44 j).toInt ∧ (f_44 j).toInt ≤ 15 from hw_48)⟩, ⟨by rw [ht]; exact hP9, hD9⟩⟩, hS.F ht⟩) hS.2.2 dX7_debt_83
              · skip
                refine lv_bipush (v := (-3)) hx hb dX7_debt_69 (by decide) ?_
                refine lv_goto (tgt := 83) hx hb dX7_debt_71 (by decide) ?_
                have kzz_50 : ((-3) : Int32).toInt = (-3) := by decide
                have hP9 := hP.sub (ws' := [(A_self, .inr (7, o7 q v w)), (q 28, .inl (c 1, 400, .inl f_debtor)), (q 29, .inl (c 1, 400, .inl f_kind)), (q 30, .inl (c 1, 400, .inl f_whole)), (q 31, .inl (c 1, 400, .inl f_left)), (q 32, .inl (c 1, 400, .inl f_made)), (q 33, .inl (c 1, 400, .inl f_pledge)), (q 34, .inl (c 1, 400, .inl f_pardoned))]) [0, 1, 2, 3, 4, 5, 6, 7] rfl
                have hD9 := hD.sub (ws' := [(A_self, .inr (7, o7 q v w)), (q 28, .inl (c 1, 400, .inl f_debtor)), (q 29, .inl (c 1, 400, .inl f_kind)), (q 30, .inl (c 1, 400, .inl f_whole)), (q 31, .inl (c 1, 400, .inl f_left)), (q 32, .inl (c 1, 400, .inl f_made)), (q 33, .inl (c 1, 400, .inl f_pledge)), (q 34, .inl (c 1, 400, .inl f_pardoned))]) [0, 1, 2, 3, 4, 5, 6, 7] (by decide) rfl
                refine W.widen (k := 0) (n := 0) (by omega) (by omega) ?_
                exact W.iret (v := (-3)) hx hb hr (fun t ht hW => ⟨⟨_, ((v 27), f_debtor, f_kind, f_whole, f_left, f_made, f_pledge, f_pardoned, ()), rfl, ⟨(show 0 ≤ (v 27).toInt ∧ (v 27).toInt ≤ 400 by omega), (show ∀ j : Nat, 0 ≤ (f_debtor j).toInt ∧ (f_debtor j).toInt ≤ 15 from hc_debtor), (show ∀ j : Nat, -1 ≤ (f_pledge j).toInt ∧ (f_pledge j).toInt ≤ 15 from hc_pledge)⟩, ⟨by rw [ht]; exact hP9, hD9⟩⟩, hS.F ht⟩) hS.2.2 dX7_debt_83
            · skip
              refine lv_goto (tgt := 57) hx hb dX7_debt_48 (by decide) ?_
              refine lv_iconst (v := (-1)) hx hb dX7_debt_57 (by decide) ?_
              have kzz_51 : ((-1) : Int32).toInt = (-1) := by decide
              have hP9 := hP.sub (ws' := [(A_self, .inr (7, o7 q v w)), (q 28, .inl (c 1, 400, .inl f_debtor)), (q 29, .inl (c 1, 400, .inl f_kind)), (q 30, .inl (c 1, 400, .inl f_whole)), (q 31, .inl (c 1, 400, .inl f_left)), (q 32, .inl (c 1, 400, .inl f_made)), (q 33, .inl (c 1, 400, .inl f_pledge)), (q 34, .inl (c 1, 400, .inl f_pardoned))]) [0, 1, 2, 3, 4, 5, 6, 7] rfl
              have hD9 := hD.sub (ws' := [(A_self, .inr (7, o7 q v w)), (q 28, .inl (c 1, 400, .inl f_debtor)), (q 29, .inl (c 1, 400, .inl f_kind)), (q 30, .inl (c 1, 400, .inl f_whole)), (q 31, .inl (c 1, 400, .inl f_left)), (q 32, .inl (c 1, 400, .inl f_made)), (q 33, .inl (c 1, 400, .inl f_pledge)), (q 34, .inl (c 1, 400, .inl f_pardoned))]) [0, 1, 2, 3, 4, 5, 6, 7] (by decide) rfl
              refine W.widen (k := 0) (n := 0) (by omega) (by omega) ?_
              exact W.iret (v := (-1)) hx hb hr (fun t ht hW => ⟨⟨_, ((v 27), f_debtor, f_kind, f_whole, f_left, f_made, f_pledge, f_pardoned, ()), rfl, ⟨(show 0 ≤ (v 27).toInt ∧ (v 27).toInt ≤ 400 by omega), (show ∀ j : Nat, 0 ≤ (f_debtor j).toInt ∧ (f_debtor j).toInt ≤ 15 from hc_debtor), (show ∀ j : Nat, -1 ≤ (f_pledge j).toInt ∧ (f_pledge j).toInt ≤ 15 from hc_pledge)⟩, ⟨by rw [ht]; exact hP9, hD9⟩⟩, hS.F ht⟩) hS.2.2 dX7_debt_58
          · skip
            refine iif_eqT (a := 0) (tgt := 57) hx hb (by decide) dX7_debt_39 (by decide) (by decide) ?_
            refine lv_iconst (v := (-1)) hx hb dX7_debt_57 (by decide) ?_
            have kzz_52 : ((-1) : Int32).toInt = (-1) := by decide
            have hP9 := hP.sub (ws' := [(A_self, .inr (7, o7 q v w)), (q 28, .inl (c 1, 400, .inl f_debtor)), (q 29, .inl (c 1, 400, .inl f_kind)), (q 30, .inl (c 1, 400, .inl f_whole)), (q 31, .inl (c 1, 400, .inl f_left)), (q 32, .inl (c 1, 400, .inl f_made)), (q 33, .inl (c 1, 400, .inl f_pledge)), (q 34, .inl (c 1, 400, .inl f_pardoned))]) [0, 1, 2, 3, 4, 5, 6, 7] rfl
            have hD9 := hD.sub (ws' := [(A_self, .inr (7, o7 q v w)), (q 28, .inl (c 1, 400, .inl f_debtor)), (q 29, .inl (c 1, 400, .inl f_kind)), (q 30, .inl (c 1, 400, .inl f_whole)), (q 31, .inl (c 1, 400, .inl f_left)), (q 32, .inl (c 1, 400, .inl f_made)), (q 33, .inl (c 1, 400, .inl f_pledge)), (q 34, .inl (c 1, 400, .inl f_pardoned))]) [0, 1, 2, 3, 4, 5, 6, 7] (by decide) rfl
            refine W.widen (k := 0) (n := 0) (by omega) (by omega) ?_
            exact W.iret (v := (-1)) hx hb hr (fun t ht hW => ⟨⟨_, ((v 27), f_debtor, f_kind, f_whole, f_left, f_made, f_pledge, f_pardoned, ()), rfl, ⟨(show 0 ≤ (v 27).toInt ∧ (v 27).toInt ≤ 400 by omega), (show ∀ j : Nat, 0 ≤ (f_debtor j).toInt ∧ (f_debtor j).toInt ≤ 15 from hc_debtor), (show ∀ j : Nat, -1 ≤ (f_pledge j).toInt ∧ (f_pledge j).toInt ≤ 15 from hc_pledge)⟩, ⟨by rw [ht]; exact hP9, hD9⟩⟩, hS.F ht⟩) hS.2.2 dX7_debt_58
      · skip
        refine iif_neF (a := 0) (tgt := 29) hx hb (by decide) dX7_debt_24 (by decide) (by decide) ?_
        refine lv_iconst (v := (-1)) hx hb dX7_debt_27 (by decide) ?_
        have kzz_53 : ((-1) : Int32).toInt = (-1) := by decide
        have hP9 := hP.sub (ws' := [(A_self, .inr (7, o7 q v w)), (q 28, .inl (c 1, 400, .inl f_debtor)), (q 29, .inl (c 1, 400, .inl f_kind)), (q 30, .inl (c 1, 400, .inl f_whole)), (q 31, .inl (c 1, 400, .inl f_left)), (q 32, .inl (c 1, 400, .inl f_made)), (q 33, .inl (c 1, 400, .inl f_pledge)), (q 34, .inl (c 1, 400, .inl f_pardoned))]) [0, 1, 2, 3, 4, 5, 6, 7] rfl
        have hD9 := hD.sub (ws' := [(A_self, .inr (7, o7 q v w)), (q 28, .inl (c 1, 400, .inl f_debtor)), (q 29, .inl (c 1, 400, .inl f_kind)), (q 30, .inl (c 1, 400, .inl f_whole)), (q 31, .inl (c 1, 400, .inl f_left)), (q 32, .inl (c 1, 400, .inl f_made)), (q 33, .inl (c 1, 400, .inl f_pledge)), (q 34, .inl (c 1, 400, .inl f_pardoned))]) [0, 1, 2, 3, 4, 5, 6, 7] (by decide) rfl
        refine W.widen (k := 0) (n := 0) (by omega) (by omega) ?_
        exact W.iret (v := (-1)) hx hb hr (fun t ht hW => ⟨⟨_, ((v 27), f_debtor, f_kind, f_whole, f_left, f_made, f_pledge, f_pardoned, ()), rfl, ⟨(show 0 ≤ (v 27).toInt ∧ (v 27).toInt ≤ 400 by omega), (show ∀ j : Nat, 0 ≤ (f_debtor j).toInt ∧ (f_debtor j).toInt ≤ 15 from hc_debtor), (show ∀ j : Nat, -1 ≤ (f_pledge j).toInt ∧ (f_pledge j).toInt ≤ 15 from hc_pledge)⟩, ⟨by rw [ht]; exact hP9, hD9⟩⟩, hS.F ht⟩) hS.2.2 dX7_debt_28
    · skip
      refine iif_eqT (a := 0) (tgt := 27) hx hb (by decide) dX7_debt_13 (by decide) (by decide) ?_
      refine lv_iconst (v := (-1)) hx hb dX7_debt_27 (by decide) ?_
      have kzz_54 : ((-1) : Int32).toInt = (-1) := by decide
      have hP9 := hP.sub (ws' := [(A_self, .inr (7, o7 q v w)), (q 28, .inl (c 1, 400, .inl f_debtor)), (q 29, .inl (c 1, 400, .inl f_kind)), (q 30, .inl (c 1, 400, .inl f_whole)), (q 31, .inl (c 1, 400, .inl f_left)), (q 32, .inl (c 1, 400, .inl f_made)), (q 33, .inl (c 1, 400, .inl f_pledge)), (q 34, .inl (c 1, 400, .inl f_pardoned))]) [0, 1, 2, 3, 4, 5, 6, 7] rfl
      have hD9 := hD.sub (ws' := [(A_self, .inr (7, o7 q v w)), (q 28, .inl (c 1, 400, .inl f_debtor)), (q 29, .inl (c 1, 400, .inl f_kind)), (q 30, .inl (c 1, 400, .inl f_whole)), (q 31, .inl (c 1, 400, .inl f_left)), (q 32, .inl (c 1, 400, .inl f_made)), (q 33, .inl (c 1, 400, .inl f_pledge)), (q 34, .inl (c 1, 400, .inl f_pardoned))]) [0, 1, 2, 3, 4, 5, 6, 7] (by decide) rfl
      refine W.widen (k := 0) (n := 0) (by omega) (by omega) ?_
      exact W.iret (v := (-1)) hx hb hr (fun t ht hW => ⟨⟨_, ((v 27), f_debtor, f_kind, f_whole, f_left, f_made, f_pledge, f_pardoned, ()), rfl, ⟨(show 0 ≤ (v 27).toInt ∧ (v 27).toInt ≤ 400 by omega), (show ∀ j : Nat, 0 ≤ (f_debtor j).toInt ∧ (f_debtor j).toInt ≤ 15 from hc_debtor), (show ∀ j : Nat, -1 ≤ (f_pledge j).toInt ∧ (f_pledge j).toInt ≤ 15 from hc_pledge)⟩, ⟨by rw [ht]; exact hP9, hD9⟩⟩, hS.F ht⟩) hS.2.2 dX7_debt_28
  · skip
    refine iif_eqT (a := 0) (tgt := 27) hx hb (by decide) dX7_debt_4 (by decide) (by decide) ?_
    refine lv_iconst (v := (-1)) hx hb dX7_debt_27 (by decide) ?_
    have kzz_55 : ((-1) : Int32).toInt = (-1) := by decide
    have hP9 := hP.sub (ws' := [(A_self, .inr (7, o7 q v w)), (q 28, .inl (c 1, 400, .inl f_debtor)), (q 29, .inl (c 1, 400, .inl f_kind)), (q 30, .inl (c 1, 400, .inl f_whole)), (q 31, .inl (c 1, 400, .inl f_left)), (q 32, .inl (c 1, 400, .inl f_made)), (q 33, .inl (c 1, 400, .inl f_pledge)), (q 34, .inl (c 1, 400, .inl f_pardoned))]) [0, 1, 2, 3, 4, 5, 6, 7] rfl
    have hD9 := hD.sub (ws' := [(A_self, .inr (7, o7 q v w)), (q 28, .inl (c 1, 400, .inl f_debtor)), (q 29, .inl (c 1, 400, .inl f_kind)), (q 30, .inl (c 1, 400, .inl f_whole)), (q 31, .inl (c 1, 400, .inl f_left)), (q 32, .inl (c 1, 400, .inl f_made)), (q 33, .inl (c 1, 400, .inl f_pledge)), (q 34, .inl (c 1, 400, .inl f_pardoned))]) [0, 1, 2, 3, 4, 5, 6, 7] (by decide) rfl
    refine W.widen (k := 0) (n := 0) (by omega) (by omega) ?_
    exact W.iret (v := (-1)) hx hb hr (fun t ht hW => ⟨⟨_, ((v 27), f_debtor, f_kind, f_whole, f_left, f_made, f_pledge, f_pardoned, ()), rfl, ⟨(show 0 ≤ (v 27).toInt ∧ (v 27).toInt ≤ 400 by omega), (show ∀ j : Nat, 0 ≤ (f_debtor j).toInt ∧ (f_debtor j).toInt ≤ 15 from hc_debtor), (show ∀ j : Nat, -1 ≤ (f_pledge j).toInt ∧ (f_pledge j).toInt ≤ 15 from hc_pledge)⟩, ⟨by rw [ht]; exact hP9, hD9⟩⟩, hS.F ht⟩) hS.2.2 dX7_debt_28
