set_option maxHeartbeats 4000000 in
set_option maxRecDepth 100000 in
theorem k_X7_advance (l : Launch) (D : va_G) (c : Nat → ClassId) (ts : Nat × Nat) (sz : Nat) (A_self : Nat) (q : Nat → Nat) (v : Nat → Int32) (w : Nat → Int64) (f_tape : Nat → Int32) (hv_2 : 0 ≤ (v 2).toInt ∧ (v 2).toInt ≤ 800) (hv_8 : 0 ≤ (v 8).toInt ∧ (v 8).toInt ≤ 10) (hv_21 : 0 ≤ (v 21).toInt ∧ (v 21).toInt ≤ 40) (hv_24 : 0 ≤ (v 24).toInt ∧ (v 24).toInt ≤ 1000) (hv_27 : 0 ≤ (v 27).toInt ∧ (v 27).toInt ≤ 400) (hv_42 : 0 ≤ (v 42).toInt ∧ (v 42).toInt ≤ 4000) (hv_52 : 0 ≤ (v 52).toInt ∧ (v 52).toInt ≤ 2000) (hq0 : 0 ≤ (v 3).toInt ∧ (v 3).toInt ≤ (v 2).toInt) : Met l yX7_advance wsX7_advance ({ frames := 1, cells := 0, slots := 0, locals := 21 }) (va_Pc [.ref A_self] (Pre0 D c ts [(A_self, .inr (7, o7 q v w)), (q 1, .inl (c 0, 800, .inl f_tape))] sz)) (va_Qv (fun (u : Int32 × Int32 × Int32 × Int32 × Int32 × Unit) => ((v 3).toInt ≤ u.2.2.1.toInt ∧ u.2.2.1.toInt ≤ u.1.toInt ∧ u.1.toInt ≤ (v 2).toInt) ∧ (u.2.1.toInt = 0 ∨ u.2.2.1.toInt + 1 ≤ u.1.toInt)) (fun u t => va_P D vwCl [(A_self, .inr (7, o7 q (upd (upd (upd (upd (upd v 3 u.1) 4 u.2.1) 5 u.2.2.1) 6 u.2.2.2.1) 7 u.2.2.2.2.1) w)), (q 1, .inl (c 0, 800, .inl f_tape))] t.heap ∧ va_D (va_A [(A_self, .inr (7, o7 q v w)), (q 1, .inl (c 0, 800, .inl f_tape))] sz) [(A_self, .inr (7, o7 q (upd (upd (upd (upd (upd v 3 u.1) 4 u.2.1) 5 u.2.2.1) 6 u.2.2.2.1) 7 u.2.2.2.2.1) w)), (q 1, .inl (c 0, 800, .inl f_tape))]) (va_A [(A_self, .inr (7, o7 q v w)), (q 1, .inl (c 0, 800, .inl f_tape))] sz)) 0 0 (va_A [(A_self, .inr (7, o7 q v w)), (q 1, .inl (c 0, 800, .inl f_tape))] sz) := by
  refine Met.ofW (cc := cX7_advance) (maxL := 5) (ret := none) (by decide) rfl ?_
  intro p e s m args below meth cd s₁ B hml hv
  obtain ⟨rfl, hsz, hP, hD0, hAm, hSt⟩ := hv
  have hx := B.exec
  have hb := B.bytes
  have hr := B.returns
  have hts := atoms_spec (ws := wsX7_advance) B.pre
  have hown : s.vm.findClass RX7 = some m.cls := findClass_of_methodNamed B.named
  have hlocks := B.notSynchronized
  have hK := hAm.1
  subst hsz
  have hD := hD0.self (sz := s.heap.size)
  generalize hAe : va_A [(A_self, .inr (7, o7 q v w)), (q 1, .inl (c 0, 800, .inl f_tape))] s.heap.size = A at hD hSt ⊢
  have hA : ∀ q : Nat, s.heap.size ≤ q → A q := fun q h => by rw [← hAe]; exact Or.inr h
  have hS : va_S A s.heap s.heap [] := va_S.rf
  clear hD0 hAe
  have hl := lv_entry ([.ref A_self]) (n := 5) (Nat.le_of_ble_eq_true rfl)
  rw [lg_entry_eq]
  generalize (lg_sl ([.ref A_self]) ++ List.replicate (5 - (lg_sl ([.ref A_self])).length) Slot.unset).toArray = ls at hl ⊢
  have hl : lv_has ls 5 [(0, .ref A_self)] := hl
  have lp_0 : ∀ (N : Nat) (M_self_at : Int32) (hf0_0 : (v 3).toInt ≤ M_self_at.toInt ∧ M_self_at.toInt ≤ (v 2).toInt) (hN0 : (800 - M_self_at.toInt).toNat = N) (H : Heap) (locs : List Loc) (ls : Array Slot), va_P D vwCl [(A_self, .inr (7, o7 q (upd v 3 M_self_at) w)), (q 1, .inl (c 0, 800, .inl f_tape))] H → va_D A [(A_self, .inr (7, o7 q (upd v 3 M_self_at) w)), (q 1, .inl (c 0, 800, .inl f_tape))] → va_S A s.heap H locs → lv_has ls 5 [(0, .ref A_self)] → W p l e (headSpec wsX7_advance ({ frames := 1, cells := 0, slots := 0, locals := 21 })).room s m (([.ref A_self] : List Value).toArray) below meth cd H locs 0 0 (MQ below (va_Qv (fun (u : Int32 × Int32 × Int32 × Int32 × Int32 × Unit) => ((v 3).toInt ≤ u.2.2.1.toInt ∧ u.2.2.1.toInt ≤ u.1.toInt ∧ u.1.toInt ≤ (v 2).toInt) ∧ (u.2.1.toInt = 0 ∨ u.2.2.1.toInt + 1 ≤ u.1.toInt)) (fun u t => va_P D vwCl [(A_self, .inr (7, o7 q (upd (upd (upd (upd (upd v 3 u.1) 4 u.2.1) 5 u.2.2.1) 6 u.2.2.2.1) 7 u.2.2.2.2.1) w)), (q 1, .inl (c 0, 800, .inl f_tape))] t.heap ∧ va_D A [(A_self, .inr (7, o7 q (upd (upd (upd (upd (upd v 3 u.1) 4 u.2.1) 5 u.2.2.1) 6 u.2.2.2.1) 7 u.2.2.2.2.1) w)), (q 1, .inl (c 0, 800, .inl f_tape))]) A) ([.ref A_self] : List Value).toArray s 0 0 A) (F0 m 0 ls []) := by
    refine st_ind (fun N ih0 => ?_)
    intro M_self_at hf0_0 hN0 H locs ls hP hD hS hl
    have rg_M_self_at := i32r M_self_at
    refine lv_aload_n hx hb dX7_advance_0 rfl (lv_at hl 0 rfl) ?_
    refine va_get (D := D) (ci := 7) (v := .int M_self_at) (C := RX7) (T := TX7) (N := 56) hx hb hts (fun _ h => List.mem_cons_of_mem _ (List.mem_append_right _ h)) hown hK hP 0 rfl rfl 3 (by decide) (hts (.fieldLink RX7 136 "CrownTableModel" "at" "I") (mem_i 1 rfl)) (fun _ h9 => h9) rfl dX7_advance_1 ?_
    refine lv_aload_n hx hb dX7_advance_4 rfl (lv_at hl 0 rfl) ?_
    refine va_get (D := D) (ci := 7) (v := .int (v 2)) (C := RX7) (T := TX7) (N := 56) hx hb hts (fun _ h => List.mem_cons_of_mem _ (List.mem_append_right _ h)) hown hK hP 0 rfl rfl 2 (by decide) (hts (.fieldLink RX7 125 "CrownTableModel" "taped" "I") (mem_i 2 rfl)) (fun _ h9 => h9) rfl dX7_advance_5 ?_
    refine iicmp_ge (a := M_self_at.toInt) (b := (v 2).toInt) (tgt := 52) hx hb rfl rfl dX7_advance_8 (by decide) (fun k_1 => ?_) (fun k_1 => ?_)
    · skip
      refine lv_aload_n hx hb dX7_advance_52 rfl (lv_at hl 0 rfl) ?_
      refine lv_aload_n hx hb dX7_advance_53 rfl (lv_at hl 0 rfl) ?_
      refine va_get (D := D) (ci := 7) (v := .int M_self_at) (C := RX7) (T := TX7) (N := 56) hx hb hts (fun _ h => List.mem_cons_of_mem _ (List.mem_append_right _ h)) hown hK hP 0 rfl rfl 3 (by decide) (hts (.fieldLink RX7 136 "CrownTableModel" "at" "I") (mem_i 1 rfl)) (fun _ h9 => h9) rfl dX7_advance_54 ?_
      refine va_put (D := D) (ci := 7) (v := .int M_self_at) (ty := .int) (C := RX7) (T := TX7) (N := 56) hx hb hts (fun _ h => List.mem_cons_of_mem _ (List.mem_append_right _ h)) tyX7 tyX7_ok nmX7 hown hK hP hD hS 0 rfl rfl 5 (by decide) (hts (.fieldLink RX7 139 "CrownTableModel" "tkAt" "I") (mem_i 4 rfl)) (fun _ h9 => h9) rfl (by decide +kernel) rfl rfl (Nat.le_of_ble_eq_true rfl) dX7_advance_57 (fun H locs hP hD hS => ?_)
      have hP : va_P D vwCl [(A_self, .inr (7, o7 q (upd (upd v 3 M_self_at) 5 M_self_at) w)), (q 1, .inl (c 0, 800, .inl f_tape))] H := hP
      have hD : va_D A [(A_self, .inr (7, o7 q (upd (upd v 3 M_self_at) 5 M_self_at) w)), (q 1, .inl (c 0, 800, .inl f_tape))] := hD
      refine lv_aload_n hx hb dX7_advance_60 rfl (lv_at hl 0 rfl) ?_
      refine va_get (D := D) (ci := 7) (v := .int M_self_at) (C := RX7) (T := TX7) (N := 56) hx hb hts (fun _ h => List.mem_cons_of_mem _ (List.mem_append_right _ h)) hown hK hP 0 rfl rfl 3 (by decide) (hts (.fieldLink RX7 136 "CrownTableModel" "at" "I") (mem_i 1 rfl)) (fun _ h9 => h9) rfl dX7_advance_61 ?_
      refine lv_aload_n hx hb dX7_advance_64 rfl (lv_at hl 0 rfl) ?_
      refine va_get (D := D) (ci := 7) (v := .int (v 2)) (C := RX7) (T := TX7) (N := 56) hx hb hts (fun _ h => List.mem_cons_of_mem _ (List.mem_append_right _ h)) hown hK hP 0 rfl rfl 2 (by decide) (hts (.fieldLink RX7 125 "CrownTableModel" "taped" "I") (mem_i 2 rfl)) (fun _ h9 => h9) rfl dX7_advance_65 ?_
      refine iicmp_ne (a := M_self_at.toInt) (b := (v 2).toInt) (tgt := 77) hx hb rfl rfl dX7_advance_68 (by decide) (fun k_2 => ?_) (fun k_2 => ?_)
      · skip
        refine lv_aload_n hx hb dX7_advance_77 rfl (lv_at hl 0 rfl) ?_
        refine va_get (D := D) (ci := 7) (v := .ref (q 1)) (C := RX7) (T := TX7) (N := 56) hx hb hts (fun _ h => List.mem_cons_of_mem _ (List.mem_append_right _ h)) hown hK hP 0 rfl rfl 1 (by decide) (hts (.fieldLink RX7 7 "CrownTableModel" "tape" "[B") (mem_i 3 rfl)) (fun _ h9 => h9) rfl dX7_advance_78 ?_
        refine lv_aload_n hx hb dX7_advance_81 rfl (lv_at hl 0 rfl) ?_
        refine va_get (D := D) (ci := 7) (v := .int M_self_at) (C := RX7) (T := TX7) (N := 56) hx hb hts (fun _ h => List.mem_cons_of_mem _ (List.mem_append_right _ h)) hown hK hP 0 rfl rfl 3 (by decide) (hts (.fieldLink RX7 136 "CrownTableModel" "at" "I") (mem_i 1 rfl)) (fun _ h9 => h9) rfl dX7_advance_82 ?_
        refine va_bald hx hb hK hP 1 0 rfl rfl (vin (a := M_self_at.toInt) rfl (by omega) (by omega)) dX7_advance_85 ?_
        refine lv_topi (fun x_3 ex_3 => ?_)
        have lf_4 : (f_tape M_self_at.toInt.toNat).toInt = x_3.toInt := by rw [ex_3, clampN (x := M_self_at) rfl]
        refine lv_istore_n (lv' := [(1, .int x_3), (0, .ref A_self)]) hx hb dX7_advance_86 rfl hl (by decide) rfl (fun ls hl => ?_)
        refine lv_iload_n hx hb dX7_advance_87 rfl (lv_at hl 0 rfl) ?_
        have hPc := hP.sub (ws' := []) [] rfl
        have hDc := hD.sub (ws' := []) [] (by decide) rfl
        have hFc := va_free (wc := []) hD hS hA [] rfl
        refine va_csi (va_runS (As := [.int x_3]) (rest := []) ⟨hx, hb, hml, hown, hts⟩ (k_X7_isLetter l D c ts H.size x_3 x_3.toInt rfl) (cwS 1 hts gX7_advance_X7_isLetter rfl rfl rfl ⟨rfl, hdX7_isLetter⟩ ⟨(show 0 + 1 ≤ 1 by decide), (show 8 + (1 + 11) + 0 ≤ 21 by decide)⟩) ⟨Pre0.blind, Pre0.at hPc hDc hAm hSt hS hFc⟩ rfl rfl hl.1 rfl (lv_room (Nat.le_of_ble_eq_true rfl)) dX7_advance_88 ⟨(show 0 + 0 ≤ 0 by decide), (show 0 + 0 ≤ 0 by decide)⟩) (fun r_6 hw_5 => ?_)
        rcases hw_5 with ⟨hw_5, rfl⟩ | ⟨hw_5, rfl⟩
        · skip
          refine iif_eqF (a := 1) (tgt := 183) hx hb (by decide) dX7_advance_91 (by decide) (by decide) ?_
          refine lv_lconst (v := 0) hx hb dX7_advance_94 (by decide) ?_
          refine lv_lstore_n (lv' := [(2, .long 0), (1, .int x_3), (0, .ref A_self)]) hx hb dX7_advance_95 rfl hl (by decide) rfl (fun ls hl => ?_)
          refine lv_iconst (v := 0) hx hb dX7_advance_96 (by decide) ?_
          refine lv_istore (lv' := [(4, .int 0), (2, .long 0), (1, .int x_3), (0, .ref A_self)]) hx hb dX7_advance_97 hl (by decide) rfl (fun ls hl => ?_)
          have lp_99 : ∀ (N : Nat) (L2 : Int64) (L4 : Int32) (M_self_at_99 : Int32) (hf99_0 : 0 ≤ L4.toInt) (hf99_1 : L4.toInt ≤ 800) (hf99_2 : (v 3).toInt ≤ M_self_at.toInt ∧ M_self_at.toInt ≤ M_self_at_99.toInt ∧ M_self_at_99.toInt ≤ (v 2).toInt) (hf99_3 : M_self_at.toInt + 1 ≤ M_self_at_99.toInt ∨ (M_self_at_99.toInt = M_self_at.toInt ∧ M_self_at_99.toInt < (v 2).toInt ∧ 97 ≤ (f_tape (M_self_at_99.toInt).toNat).toInt ∧ (f_tape (M_self_at_99.toInt).toNat).toInt ≤ 122)) (hf99_4 : L4.toInt ≤ M_self_at_99.toInt) (hN99 : (800 - M_self_at_99.toInt).toNat = N) (H : Heap) (locs : List Loc) (ls : Array Slot), va_P D vwCl [(A_self, .inr (7, o7 q (upd (upd v 3 M_self_at_99) 5 M_self_at) w)), (q 1, .inl (c 0, 800, .inl f_tape))] H → va_D A [(A_self, .inr (7, o7 q (upd (upd v 3 M_self_at_99) 5 M_self_at) w)), (q 1, .inl (c 0, 800, .inl f_tape))] → va_S A s.heap H locs → lv_has ls 5 [(1, .int x_3), (0, .ref A_self), (2, .long L2), (4, .int L4)] → W p l e (headSpec wsX7_advance ({ frames := 1, cells := 0, slots := 0, locals := 21 })).room s m (([.ref A_self] : List Value).toArray) below meth cd H locs 0 0 (MQ below (va_Qv (fun (u : Int32 × Int32 × Int32 × Int32 × Int32 × Unit) => ((v 3).toInt ≤ u.2.2.1.toInt ∧ u.2.2.1.toInt ≤ u.1.toInt ∧ u.1.toInt ≤ (v 2).toInt) ∧ (u.2.1.toInt = 0 ∨ u.2.2.1.toInt + 1 ≤ u.1.toInt)) (fun u t => va_P D vwCl [(A_self, .inr (7, o7 q (upd (upd (upd (upd (upd v 3 u.1) 4 u.2.1) 5 u.2.2.1) 6 u.2.2.2.1) 7 u.2.2.2.2.1) w)), (q 1, .inl (c 0, 800, .inl f_tape))] t.heap ∧ va_D A [(A_self, .inr (7, o7 q (upd (upd (upd (upd (upd v 3 u.1) 4 u.2.1) 5 u.2.2.1) 6 u.2.2.2.1) 7 u.2.2.2.2.1) w)), (q 1, .inl (c 0, 800, .inl f_tape))]) A) ([.ref A_self] : List Value).toArray s 0 0 A) (F0 m 99 ls []) := by
            refine st_ind (fun N ih99 => ?_)
            intro L2 L4 M_self_at_99 hf99_0 hf99_1 hf99_2 hf99_3 hf99_4 hN99 H locs ls hP hD hS hl
            have rg_M_self_at_99 := i32r M_self_at_99
            refine lv_aload_n hx hb dX7_advance_99 rfl (lv_at hl 1 rfl) ?_
            refine va_get (D := D) (ci := 7) (v := .int M_self_at_99) (C := RX7) (T := TX7) (N := 56) hx hb hts (fun _ h => List.mem_cons_of_mem _ (List.mem_append_right _ h)) hown hK hP 0 rfl rfl 3 (by decide) (hts (.fieldLink RX7 136 "CrownTableModel" "at" "I") (mem_i 1 rfl)) (fun _ h9 => h9) rfl dX7_advance_100 ?_
            refine lv_aload_n hx hb dX7_advance_103 rfl (lv_at hl 1 rfl) ?_
            refine va_get (D := D) (ci := 7) (v := .int (v 2)) (C := RX7) (T := TX7) (N := 56) hx hb hts (fun _ h => List.mem_cons_of_mem _ (List.mem_append_right _ h)) hown hK hP 0 rfl rfl 2 (by decide) (hts (.fieldLink RX7 125 "CrownTableModel" "taped" "I") (mem_i 2 rfl)) (fun _ h9 => h9) rfl dX7_advance_104 ?_
            refine iicmp_ge (a := M_self_at_99.toInt) (b := (v 2).toInt) (tgt := 162) hx hb rfl rfl dX7_advance_107 (by decide) (fun k_7 => ?_) (fun k_7 => ?_)
            · skip
              refine lv_aload_n hx hb dX7_advance_162 rfl (lv_at hl 1 rfl) ?_
              refine lv_iload hx hb dX7_advance_163 (lv_at hl 3 rfl) ?_
              refine lv_bipush (v := 7) hx hb dX7_advance_165 (by decide) ?_
              refine iicmp_le (a := L4.toInt) (b := 7) (tgt := 175) hx hb rfl (by decide) dX7_advance_167 (by decide) (fun k_8 => ?_) (fun k_8 => ?_)
              · skip
                refine lv_lload_n hx hb dX7_advance_175 rfl (lv_at hl 2 rfl) ?_
                have hPc := hP.sub (ws' := []) [] rfl
                have hDc := hD.sub (ws' := []) [] (by decide) rfl
                have hFc := va_free (wc := []) hD hS hA [] rfl
                refine va_csi (va_runS (As := [.long L2]) (rest := [.ref A_self]) ⟨hx, hb, hml, hown, hts⟩ (k_X7_wordOf l D c ts H.size L2) (cwS 1 hts gX7_advance_X7_wordOf rfl rfl rfl ⟨rfl, hdX7_wordOf⟩ ⟨(show 0 + 1 ≤ 1 by decide), (show 8 + (2 + 11) + 0 ≤ 21 by decide)⟩) ⟨Pre0.blind, Pre0.at hPc hDc hAm hSt hS hFc⟩ rfl rfl hl.1 rfl (lv_room (Nat.le_of_ble_eq_true rfl)) dX7_advance_176 ⟨(show 0 + 0 ≤ 0 by decide), (show 0 + 0 ≤ 0 by decide)⟩) (fun r_10 hw_9 => ?_)
                have rg_r_10 := i32r r_10
                refine va_put (D := D) (ci := 7) (v := .int r_10) (ty := .int) (C := RX7) (T := TX7) (N := 56) hx hb hts (fun _ h => List.mem_cons_of_mem _ (List.mem_append_right _ h)) tyX7 tyX7_ok nmX7 hown hK hP hD hS 0 rfl rfl 4 (by decide) (hts (.fieldLink RX7 142 "CrownTableModel" "tk" "I") (mem_i 5 rfl)) (fun _ h9 => h9) rfl (by decide +kernel) rfl rfl (Nat.le_of_ble_eq_true rfl) dX7_advance_179 (fun H locs hP hD hS => ?_)
                have hP : va_P D vwCl [(A_self, .inr (7, o7 q (upd (upd (upd v 3 M_self_at_99) 4 r_10) 5 M_self_at) w)), (q 1, .inl (c 0, 800, .inl f_tape))] H := hP
                have hD : va_D A [(A_self, .inr (7, o7 q (upd (upd (upd v 3 M_self_at_99) 4 r_10) 5 M_self_at) w)), (q 1, .inl (c 0, 800, .inl f_tape))] := hD
                have hP9 := hP.sub (ws' := [(A_self, .inr (7, o7 q (upd (upd (upd v 3 M_self_at_99) 4 r_10) 5 M_self_at) w)), (q 1, .inl (c 0, 800, .inl f_tape))]) [0, 1] rfl
                have hD9 := hD.sub (ws' := [(A_self, .inr (7, o7 q (upd (upd (upd v 3 M_self_at_99) 4 r_10) 5 M_self_at) w)), (q 1, .inl (c 0, 800, .inl f_tape))]) [0, 1] (by decide) rfl
                refine W.widen (k := 0) (n := 0) (by omega) (by omega) ?_
                exact W.vret hx hb hr (fun t ht hW => ⟨⟨(M_self_at_99, r_10, M_self_at, (v 6), (v 7), ()), rfl, ⟨(show (v 3).toInt ≤ M_self_at.toInt ∧ M_self_at.toInt ≤ M_self_at_99.toInt ∧ M_self_at_99.toInt ≤ (v 2).toInt by omega), (show r_10.toInt = 0 ∨ M_self_at.toInt + 1 ≤ M_self_at_99.toInt by omega)⟩, ⟨by rw [ht]; exact hP9, hD9⟩⟩, hS.F ht⟩) hS.2.2 dX7_advance_182
              · skip
                refine lv_bipush (v := 51) hx hb dX7_advance_170 (by decide) ?_
                refine lv_goto (tgt := 179) hx hb dX7_advance_172 (by decide) ?_
                refine va_put (D := D) (ci := 7) (v := .int 51) (ty := .int) (C := RX7) (T := TX7) (N := 56) hx hb hts (fun _ h => List.mem_cons_of_mem _ (List.mem_append_right _ h)) tyX7 tyX7_ok nmX7 hown hK hP hD hS 0 rfl rfl 4 (by decide) (hts (.fieldLink RX7 142 "CrownTableModel" "tk" "I") (mem_i 5 rfl)) (fun _ h9 => h9) rfl (by decide +kernel) rfl rfl (Nat.le_of_ble_eq_true rfl) dX7_advance_179 (fun H locs hP hD hS => ?_)
                have hP : va_P D vwCl [(A_self, .inr (7, o7 q (upd (upd (upd v 3 M_self_at_99) 4 51) 5 M_self_at) w)), (q 1, .inl (c 0, 800, .inl f_tape))] H := hP
                have hD : va_D A [(A_self, .inr (7, o7 q (upd (upd (upd v 3 M_self_at_99) 4 51) 5 M_self_at) w)), (q 1, .inl (c 0, 800, .inl f_tape))] := hD
                have kzz_11 : (51 : Int32).toInt = 51 := by decide
                have hP9 := hP.sub (ws' := [(A_self, .inr (7, o7 q (upd (upd (upd v 3 M_self_at_99) 4 51) 5 M_self_at) w)), (q 1, .inl (c 0, 800, .inl f_tape))]) [0, 1] rfl
                have hD9 := hD.sub (ws' := [(A_self, .inr (7, o7 q (upd (upd (upd v 3 M_self_at_99) 4 51) 5 M_self_at) w)), (q 1, .inl (c 0, 800, .inl f_tape))]) [0, 1] (by decide) rfl
                refine W.widen (k := 0) (n := 0) (by omega) (by omega) ?_
                exact W.vret hx hb hr (fun t ht hW => ⟨⟨(M_self_at_99, 51, M_self_at, (v 6), (v 7), ()), rfl, ⟨(show (v 3).toInt ≤ M_self_at.toInt ∧ M_self_at.toInt ≤ M_self_at_99.toInt ∧ M_self_at_99.toInt ≤ (v 2).toInt by omega), (show (51 : Int32).toInt = 0 ∨ M_self_at.toInt + 1 ≤ M_self_at_99.toInt by omega)⟩, ⟨by rw [ht]; exact hP9, hD9⟩⟩, hS.F ht⟩) hS.2.2 dX7_advance_182
            · skip
              refine lv_aload_n hx hb dX7_advance_110 rfl (lv_at hl 1 rfl) ?_
              refine va_get (D := D) (ci := 7) (v := .ref (q 1)) (C := RX7) (T := TX7) (N := 56) hx hb hts (fun _ h => List.mem_cons_of_mem _ (List.mem_append_right _ h)) hown hK hP 0 rfl rfl 1 (by decide) (hts (.fieldLink RX7 7 "CrownTableModel" "tape" "[B") (mem_i 3 rfl)) (fun _ h9 => h9) rfl dX7_advance_111 ?_
              refine lv_aload_n hx hb dX7_advance_114 rfl (lv_at hl 1 rfl) ?_
              refine va_get (D := D) (ci := 7) (v := .int M_self_at_99) (C := RX7) (T := TX7) (N := 56) hx hb hts (fun _ h => List.mem_cons_of_mem _ (List.mem_append_right _ h)) hown hK hP 0 rfl rfl 3 (by decide) (hts (.fieldLink RX7 136 "CrownTableModel" "at" "I") (mem_i 1 rfl)) (fun _ h9 => h9) rfl dX7_advance_115 ?_
              refine va_bald hx hb hK hP 1 0 rfl rfl (vin (a := M_self_at_99.toInt) rfl (by omega) (by omega)) dX7_advance_118 ?_
              refine lv_topi (fun x_12 ex_12 => ?_)
              have lf_13 : (f_tape M_self_at_99.toInt.toNat).toInt = x_12.toInt := by rw [ex_12, clampN (x := M_self_at_99) rfl]
              have hPc := hP.sub (ws' := []) [] rfl
              have hDc := hD.sub (ws' := []) [] (by decide) rfl
              have hFc := va_free (wc := []) hD hS hA [] rfl
              refine va_csi (va_runS (As := [.int x_12]) (rest := []) ⟨hx, hb, hml, hown, hts⟩ (k_X7_isLetter l D c ts H.size x_12 x_12.toInt rfl) (cwS 1 hts gX7_advance_X7_isLetter rfl rfl rfl ⟨rfl, hdX7_isLetter⟩ ⟨(show 0 + 1 ≤ 1 by decide), (show 8 + (1 + 11) + 0 ≤ 21 by decide)⟩) ⟨Pre0.blind, Pre0.at hPc hDc hAm hSt hS hFc⟩ rfl rfl hl.1 rfl (lv_room (Nat.le_of_ble_eq_true rfl)) dX7_advance_119 ⟨(show 0 + 0 ≤ 0 by decide), (show 0 + 0 ≤ 0 by decide)⟩) (fun r_15 hw_14 => ?_)
              rcases hw_14 with ⟨hw_14, rfl⟩ | ⟨hw_14, rfl⟩
              · skip
                refine iif_eqF (a := 1) (tgt := 162) hx hb (by decide) dX7_advance_122 (by decide) (by decide) ?_
                refine lv_lload_n hx hb dX7_advance_125 rfl (lv_at hl 2 rfl) ?_
                refine lv_ldc2 (v := 27) hx hb hown (hts (.constantLong RX7 149 (27)) (mem_i 6 rfl)) dX7_advance_126 ?_
                refine lv_lmul hx hb dX7_advance_129 ?_
                refine lv_topl (fun x_16 ex_16 => ?_)
                refine lv_aload_n hx hb dX7_advance_130 rfl (lv_at hl 1 rfl) ?_
                refine va_get (D := D) (ci := 7) (v := .ref (q 1)) (C := RX7) (T := TX7) (N := 56) hx hb hts (fun _ h => List.mem_cons_of_mem _ (List.mem_append_right _ h)) hown hK hP 0 rfl rfl 1 (by decide) (hts (.fieldLink RX7 7 "CrownTableModel" "tape" "[B") (mem_i 3 rfl)) (fun _ h9 => h9) rfl dX7_advance_131 ?_
                refine lv_aload_n hx hb dX7_advance_134 rfl (lv_at hl 1 rfl) ?_
                refine va_get (D := D) (ci := 7) (v := .int M_self_at_99) (C := RX7) (T := TX7) (N := 56) hx hb hts (fun _ h => List.mem_cons_of_mem _ (List.mem_append_right _ h)) hown hK hP 0 rfl rfl 3 (by decide) (hts (.fieldLink RX7 136 "CrownTableModel" "at" "I") (mem_i 1 rfl)) (fun _ h9 => h9) rfl dX7_advance_135 ?_
                refine va_bald hx hb hK hP 1 0 rfl rfl (vin (a := M_self_at_99.toInt) rfl (by omega) (by omega)) dX7_advance_138 ?_
                refine lv_topi (fun x_17 ex_17 => ?_)
                have lf_18 : (f_tape M_self_at_99.toInt.toNat).toInt = x_17.toInt := by rw [ex_17, clampN (x := M_self_at_99) rfl]
                refine lv_i2l hx hb dX7_advance_139 rfl ?_
                refine lv_ladd hx hb dX7_advance_140 ?_
                refine lv_topl (fun x_19 ex_19 => ?_)
                refine lv_ldc2 (v := 96) hx hb hown (hts (.constantLong RX7 151 (96)) (mem_i 7 rfl)) dX7_advance_141 ?_
                refine lv_lsub hx hb dX7_advance_144 ?_
                refine lv_topl (fun x_20 ex_20 => ?_)
                refine lv_lstore_n (lv' := [(2, .long x_20), (1, .int x_3), (0, .ref A_self), (4, .int L4)]) hx hb dX7_advance_145 rfl hl (by decide) rfl (fun ls hl => ?_)
                refine lv_aload_n hx hb dX7_advance_146 rfl (lv_at hl 2 rfl) ?_
                refine lv_dup hx hb dX7_advance_147 rfl ?_
                refine va_get (D := D) (ci := 7) (v := .int M_self_at_99) (C := RX7) (T := TX7) (N := 56) hx hb hts (fun _ h => List.mem_cons_of_mem _ (List.mem_append_right _ h)) hown hK hP 0 rfl rfl 3 (by decide) (hts (.fieldLink RX7 136 "CrownTableModel" "at" "I") (mem_i 1 rfl)) (fun _ h9 => h9) rfl dX7_advance_148 ?_
                refine lv_iconst (v := 1) hx hb dX7_advance_151 (by decide) ?_
                refine lv_iadd hx hb dX7_advance_152 ?_
                refine lv_topi (fun x_21 ex_21 => ?_)
                have tx_21 : x_21.toInt = (M_self_at_99.toInt + 1) := by rw [ex_21]; exact add_ti (a := M_self_at_99.toInt) (b := 1) rfl (by decide) (by omega) (by omega)
                refine va_put (D := D) (ci := 7) (v := .int x_21) (ty := .int) (C := RX7) (T := TX7) (N := 56) hx hb hts (fun _ h => List.mem_cons_of_mem _ (List.mem_append_right _ h)) tyX7 tyX7_ok nmX7 hown hK hP hD hS 0 rfl rfl 3 (by decide) (hts (.fieldLink RX7 136 "CrownTableModel" "at" "I") (mem_i 1 rfl)) (fun _ h9 => h9) rfl (by decide +kernel) rfl rfl (Nat.le_of_ble_eq_true rfl) dX7_advance_153 (fun H locs hP hD hS => ?_)
                have hP : va_P D vwCl [(A_self, .inr (7, o7 q (upd (upd v 3 x_21) 5 M_self_at) w)), (q 1, .inl (c 0, 800, .inl f_tape))] H := hP
                have hD : va_D A [(A_self, .inr (7, o7 q (upd (upd v 3 x_21) 5 M_self_at) w)), (q 1, .inl (c 0, 800, .inl f_tape))] := hD
                obtain ⟨x_22, ex_22⟩ : ∃ y : Int32, y = L4 + 1 := ⟨_, rfl⟩
                have tx_22 : x_22.toInt = L4.toInt + 1 := by rw [ex_22]; exact add_ti (a := L4.toInt) (b := 1) rfl (by decide) (by omega) (by omega)
                refine lv_iinc (v := x_22) (lv' := [(4, .int x_22), (2, .long x_20), (1, .int x_3), (0, .ref A_self)]) hx hb dX7_advance_156 hl (k := 3) rfl (by rw [ex_22]; rfl) (by decide) rfl (fun ls hl => ?_)
                refine lv_goto (tgt := 99) hx hb dX7_advance_159 (by decide) ?_
                have hl := lv_sub hl [2, 3, 1, 0] rfl
                exact (ih99 ((800 - x_21.toInt).toNat) (by omega) x_20 x_22 x_21 (by omega) (by omega) (by omega) (by omega) (by omega) rfl _ _ _ hP hD hS hl)
              · skip
                refine iif_eqT (a := 0) (tgt := 162) hx hb (by decide) dX7_advance_122 (by decide) (by decide) ?_
                refine lv_aload_n hx hb dX7_advance_162 rfl (lv_at hl 1 rfl) ?_
                refine lv_iload hx hb dX7_advance_163 (lv_at hl 3 rfl) ?_
                refine lv_bipush (v := 7) hx hb dX7_advance_165 (by decide) ?_
                refine iicmp_le (a := L4.toInt) (b := 7) (tgt := 175) hx hb rfl (by decide) dX7_advance_167 (by decide) (fun k_23 => ?_) (fun k_23 => ?_)
                · skip
                  refine lv_lload_n hx hb dX7_advance_175 rfl (lv_at hl 2 rfl) ?_
                  have hPc := hP.sub (ws' := []) [] rfl
                  have hDc := hD.sub (ws' := []) [] (by decide) rfl
                  have hFc := va_free (wc := []) hD hS hA [] rfl
                  refine va_csi (va_runS (As := [.long L2]) (rest := [.ref A_self]) ⟨hx, hb, hml, hown, hts⟩ (k_X7_wordOf l D c ts H.size L2) (cwS 1 hts gX7_advance_X7_wordOf rfl rfl rfl ⟨rfl, hdX7_wordOf⟩ ⟨(show 0 + 1 ≤ 1 by decide), (show 8 + (2 + 11) + 0 ≤ 21 by decide)⟩) ⟨Pre0.blind, Pre0.at hPc hDc hAm hSt hS hFc⟩ rfl rfl hl.1 rfl (lv_room (Nat.le_of_ble_eq_true rfl)) dX7_advance_176 ⟨(show 0 + 0 ≤ 0 by decide), (show 0 + 0 ≤ 0 by decide)⟩) (fun r_25 hw_24 => ?_)
                  have rg_r_25 := i32r r_25
                  refine va_put (D := D) (ci := 7) (v := .int r_25) (ty := .int) (C := RX7) (T := TX7) (N := 56) hx hb hts (fun _ h => List.mem_cons_of_mem _ (List.mem_append_right _ h)) tyX7 tyX7_ok nmX7 hown hK hP hD hS 0 rfl rfl 4 (by decide) (hts (.fieldLink RX7 142 "CrownTableModel" "tk" "I") (mem_i 5 rfl)) (fun _ h9 => h9) rfl (by decide +kernel) rfl rfl (Nat.le_of_ble_eq_true rfl) dX7_advance_179 (fun H locs hP hD hS => ?_)
                  have hP : va_P D vwCl [(A_self, .inr (7, o7 q (upd (upd (upd v 3 M_self_at_99) 4 r_25) 5 M_self_at) w)), (q 1, .inl (c 0, 800, .inl f_tape))] H := hP
                  have hD : va_D A [(A_self, .inr (7, o7 q (upd (upd (upd v 3 M_self_at_99) 4 r_25) 5 M_self_at) w)), (q 1, .inl (c 0, 800, .inl f_tape))] := hD
                  have hP9 := hP.sub (ws' := [(A_self, .inr (7, o7 q (upd (upd (upd v 3 M_self_at_99) 4 r_25) 5 M_self_at) w)), (q 1, .inl (c 0, 800, .inl f_tape))]) [0, 1] rfl
                  have hD9 := hD.sub (ws' := [(A_self, .inr (7, o7 q (upd (upd (upd v 3 M_self_at_99) 4 r_25) 5 M_self_at) w)), (q 1, .inl (c 0, 800, .inl f_tape))]) [0, 1] (by decide) rfl
                  refine W.widen (k := 0) (n := 0) (by omega) (by omega) ?_
                  exact W.vret hx hb hr (fun t ht hW => ⟨⟨(M_self_at_99, r_25, M_self_at, (v 6), (v 7), ()), rfl, ⟨(show (v 3).toInt ≤ M_self_at.toInt ∧ M_self_at.toInt ≤ M_self_at_99.toInt ∧ M_self_at_99.toInt ≤ (v 2).toInt by omega), (show r_25.toInt = 0 ∨ M_self_at.toInt + 1 ≤ M_self_at_99.toInt by omega)⟩, ⟨by rw [ht]; exact hP9, hD9⟩⟩, hS.F ht⟩) hS.2.2 dX7_advance_182
                · skip
                  refine lv_bipush (v := 51) hx hb dX7_advance_170 (by decide) ?_
                  refine lv_goto (tgt := 179) hx hb dX7_advance_172 (by decide) ?_
                  refine va_put (D := D) (ci := 7) (v := .int 51) (ty := .int) (C := RX7) (T := TX7) (N := 56) hx hb hts (fun _ h => List.mem_cons_of_mem _ (List.mem_append_right _ h)) tyX7 tyX7_ok nmX7 hown hK hP hD hS 0 rfl rfl 4 (by decide) (hts (.fieldLink RX7 142 "CrownTableModel" "tk" "I") (mem_i 5 rfl)) (fun _ h9 => h9) rfl (by decide +kernel) rfl rfl (Nat.le_of_ble_eq_true rfl) dX7_advance_179 (fun H locs hP hD hS => ?_)
                  have hP : va_P D vwCl [(A_self, .inr (7, o7 q (upd (upd (upd v 3 M_self_at_99) 4 51) 5 M_self_at) w)), (q 1, .inl (c 0, 800, .inl f_tape))] H := hP
                  have hD : va_D A [(A_self, .inr (7, o7 q (upd (upd (upd v 3 M_self_at_99) 4 51) 5 M_self_at) w)), (q 1, .inl (c 0, 800, .inl f_tape))] := hD
                  have kzz_26 : (51 : Int32).toInt = 51 := by decide
                  have hP9 := hP.sub (ws' := [(A_self, .inr (7, o7 q (upd (upd (upd v 3 M_self_at_99) 4 51) 5 M_self_at) w)), (q 1, .inl (c 0, 800, .inl f_tape))]) [0, 1] rfl
                  have hD9 := hD.sub (ws' := [(A_self, .inr (7, o7 q (upd (upd (upd v 3 M_self_at_99) 4 51) 5 M_self_at) w)), (q 1, .inl (c 0, 800, .inl f_tape))]) [0, 1] (by decide) rfl
                  refine W.widen (k := 0) (n := 0) (by omega) (by omega) ?_
                  exact W.vret hx hb hr (fun t ht hW => ⟨⟨(M_self_at_99, 51, M_self_at, (v 6), (v 7), ()), rfl, ⟨(show (v 3).toInt ≤ M_self_at.toInt ∧ M_self_at.toInt ≤ M_self_at_99.toInt ∧ M_self_at_99.toInt ≤ (v 2).toInt by omega), (show (51 : Int32).toInt = 0 ∨ M_self_at.toInt + 1 ≤ M_self_at_99.toInt by omega)⟩, ⟨by rw [ht]; exact hP9, hD9⟩⟩, hS.F ht⟩) hS.2.2 dX7_advance_182
          have kzz_27 : (0 : Int32).toInt = 0 := by decide
          have hl := lv_sub hl [2, 3, 1, 0] rfl
          exact (lp_99 _ 0 0 M_self_at (by omega) (by omega) (by omega) (by omega) (by omega) rfl _ _ _ hP hD hS hl)
        · skip
          refine iif_eqT (a := 0) (tgt := 183) hx hb (by decide) dX7_advance_91 (by decide) (by decide) ?_
          refine lv_iload_n hx hb dX7_advance_183 rfl (lv_at hl 0 rfl) ?_
          have hPc := hP.sub (ws' := []) [] rfl
          have hDc := hD.sub (ws' := []) [] (by decide) rfl
          have hFc := va_free (wc := []) hD hS hA [] rfl
          refine va_csi (va_runS (As := [.int x_3]) (rest := []) ⟨hx, hb, hml, hown, hts⟩ (k_X7_isDigit l D c ts H.size x_3 x_3.toInt rfl) (cwS 1 hts gX7_advance_X7_isDigit rfl rfl rfl ⟨rfl, hdX7_isDigit⟩ ⟨(show 0 + 1 ≤ 1 by decide), (show 8 + (1 + 11) + 0 ≤ 21 by decide)⟩) ⟨Pre0.blind, Pre0.at hPc hDc hAm hSt hS hFc⟩ rfl rfl hl.1 rfl (lv_room (Nat.le_of_ble_eq_true rfl)) dX7_advance_184 ⟨(show 0 + 0 ≤ 0 by decide), (show 0 + 0 ≤ 0 by decide)⟩) (fun r_29 hw_28 => ?_)
          rcases hw_28 with ⟨hw_28, rfl⟩ | ⟨hw_28, rfl⟩
          · skip
            refine iif_eqF (a := 1) (tgt := 296) hx hb (by decide) dX7_advance_187 (by decide) (by decide) ?_
            refine lv_aload_n hx hb dX7_advance_190 rfl (lv_at hl 1 rfl) ?_
            refine lv_iconst (v := 0) hx hb dX7_advance_191 (by decide) ?_
            refine va_put (D := D) (ci := 7) (v := .int 0) (ty := .int) (C := RX7) (T := TX7) (N := 56) hx hb hts (fun _ h => List.mem_cons_of_mem _ (List.mem_append_right _ h)) tyX7 tyX7_ok nmX7 hown hK hP hD hS 0 rfl rfl 6 (by decide) (hts (.fieldLink RX7 160 "CrownTableModel" "tkNumber" "I") (mem_i 8 rfl)) (fun _ h9 => h9) rfl (by decide +kernel) rfl rfl (Nat.le_of_ble_eq_true rfl) dX7_advance_192 (fun H locs hP hD hS => ?_)
            have hP : va_P D vwCl [(A_self, .inr (7, o7 q (upd (upd (upd v 3 M_self_at) 5 M_self_at) 6 0) w)), (q 1, .inl (c 0, 800, .inl f_tape))] H := hP
            have hD : va_D A [(A_self, .inr (7, o7 q (upd (upd (upd v 3 M_self_at) 5 M_self_at) 6 0) w)), (q 1, .inl (c 0, 800, .inl f_tape))] := hD
            refine lv_aload_n hx hb dX7_advance_195 rfl (lv_at hl 1 rfl) ?_
            refine lv_iconst (v := 0) hx hb dX7_advance_196 (by decide) ?_
            refine va_put (D := D) (ci := 7) (v := .int 0) (ty := .int) (C := RX7) (T := TX7) (N := 56) hx hb hts (fun _ h => List.mem_cons_of_mem _ (List.mem_append_right _ h)) tyX7 tyX7_ok nmX7 hown hK hP hD hS 0 rfl rfl 7 (by decide) (hts (.fieldLink RX7 163 "CrownTableModel" "tkDigits" "I") (mem_i 9 rfl)) (fun _ h9 => h9) rfl (by decide +kernel) rfl rfl (Nat.le_of_ble_eq_true rfl) dX7_advance_197 (fun H locs hP hD hS => ?_)
            have hP : va_P D vwCl [(A_self, .inr (7, o7 q (upd (upd (upd (upd v 3 M_self_at) 5 M_self_at) 6 0) 7 0) w)), (q 1, .inl (c 0, 800, .inl f_tape))] H := hP
            have hD : va_D A [(A_self, .inr (7, o7 q (upd (upd (upd (upd v 3 M_self_at) 5 M_self_at) 6 0) 7 0) w)), (q 1, .inl (c 0, 800, .inl f_tape))] := hD
            have lp_200 : ∀ (N : Nat) (M_self_at_200 : Int32) (M_self_tkNumber : Int32) (M_self_tkDigits : Int32) (hf200_0 : (v 3).toInt ≤ M_self_at.toInt ∧ M_self_at.toInt ≤ M_self_at_200.toInt ∧ M_self_at_200.toInt ≤ (v 2).toInt) (hf200_1 : M_self_at.toInt + 1 ≤ M_self_at_200.toInt ∨ (M_self_at_200.toInt = M_self_at.toInt ∧ M_self_at_200.toInt < (v 2).toInt ∧ 48 ≤ (f_tape (M_self_at_200.toInt).toNat).toInt ∧ (f_tape (M_self_at_200.toInt).toNat).toInt ≤ 57)) (hN200 : (800 - M_self_at_200.toInt).toNat = N) (H : Heap) (locs : List Loc) (ls : Array Slot), va_P D vwCl [(A_self, .inr (7, o7 q (upd (upd (upd (upd v 3 M_self_at_200) 5 M_self_at) 6 M_self_tkNumber) 7 M_self_tkDigits) w)), (q 1, .inl (c 0, 800, .inl f_tape))] H → va_D A [(A_self, .inr (7, o7 q (upd (upd (upd (upd v 3 M_self_at_200) 5 M_self_at) 6 M_self_tkNumber) 7 M_self_tkDigits) w)), (q 1, .inl (c 0, 800, .inl f_tape))] → va_S A s.heap H locs → lv_has ls 5 [(1, .int x_3), (0, .ref A_self)] → W p l e (headSpec wsX7_advance ({ frames := 1, cells := 0, slots := 0, locals := 21 })).room s m (([.ref A_self] : List Value).toArray) below meth cd H locs 0 0 (MQ below (va_Qv (fun (u : Int32 × Int32 × Int32 × Int32 × Int32 × Unit) => ((v 3).toInt ≤ u.2.2.1.toInt ∧ u.2.2.1.toInt ≤ u.1.toInt ∧ u.1.toInt ≤ (v 2).toInt) ∧ (u.2.1.toInt = 0 ∨ u.2.2.1.toInt + 1 ≤ u.1.toInt)) (fun u t => va_P D vwCl [(A_self, .inr (7, o7 q (upd (upd (upd (upd (upd v 3 u.1) 4 u.2.1) 5 u.2.2.1) 6 u.2.2.2.1) 7 u.2.2.2.2.1) w)), (q 1, .inl (c 0, 800, .inl f_tape))] t.heap ∧ va_D A [(A_self, .inr (7, o7 q (upd (upd (upd (upd (upd v 3 u.1) 4 u.2.1) 5 u.2.2.1) 6 u.2.2.2.1) 7 u.2.2.2.2.1) w)), (q 1, .inl (c 0, 800, .inl f_tape))]) A) ([.ref A_self] : List Value).toArray s 0 0 A) (F0 m 200 ls []) := by
              refine st_ind (fun N ih200 => ?_)
              intro M_self_at_200 M_self_tkNumber M_self_tkDigits hf200_0 hf200_1 hN200 H locs ls hP hD hS hl
              have rg_M_self_at_200 := i32r M_self_at_200
              have rg_M_self_tkNumber := i32r M_self_tkNumber
              have rg_M_self_tkDigits := i32r M_self_tkDigits
              refine lv_aload_n hx hb dX7_advance_200 rfl (lv_at hl 1 rfl) ?_
              refine va_get (D := D) (ci := 7) (v := .int M_self_at_200) (C := RX7) (T := TX7) (N := 56) hx hb hts (fun _ h => List.mem_cons_of_mem _ (List.mem_append_right _ h)) hown hK hP 0 rfl rfl 3 (by decide) (hts (.fieldLink RX7 136 "CrownTableModel" "at" "I") (mem_i 1 rfl)) (fun _ h9 => h9) rfl dX7_advance_201 ?_
              refine lv_aload_n hx hb dX7_advance_204 rfl (lv_at hl 1 rfl) ?_
              refine va_get (D := D) (ci := 7) (v := .int (v 2)) (C := RX7) (T := TX7) (N := 56) hx hb hts (fun _ h => List.mem_cons_of_mem _ (List.mem_append_right _ h)) hown hK hP 0 rfl rfl 2 (by decide) (hts (.fieldLink RX7 125 "CrownTableModel" "taped" "I") (mem_i 2 rfl)) (fun _ h9 => h9) rfl dX7_advance_205 ?_
              refine iicmp_ge (a := M_self_at_200.toInt) (b := (v 2).toInt) (tgt := 289) hx hb rfl rfl dX7_advance_208 (by decide) (fun k_30 => ?_) (fun k_30 => ?_)
              · skip
                refine lv_aload_n hx hb dX7_advance_289 rfl (lv_at hl 1 rfl) ?_
                refine lv_bipush (v := 50) hx hb dX7_advance_290 (by decide) ?_
                refine va_put (D := D) (ci := 7) (v := .int 50) (ty := .int) (C := RX7) (T := TX7) (N := 56) hx hb hts (fun _ h => List.mem_cons_of_mem _ (List.mem_append_right _ h)) tyX7 tyX7_ok nmX7 hown hK hP hD hS 0 rfl rfl 4 (by decide) (hts (.fieldLink RX7 142 "CrownTableModel" "tk" "I") (mem_i 5 rfl)) (fun _ h9 => h9) rfl (by decide +kernel) rfl rfl (Nat.le_of_ble_eq_true rfl) dX7_advance_292 (fun H locs hP hD hS => ?_)
                have hP : va_P D vwCl [(A_self, .inr (7, o7 q (upd (upd (upd (upd (upd v 3 M_self_at_200) 4 50) 5 M_self_at) 6 M_self_tkNumber) 7 M_self_tkDigits) w)), (q 1, .inl (c 0, 800, .inl f_tape))] H := hP
                have hD : va_D A [(A_self, .inr (7, o7 q (upd (upd (upd (upd (upd v 3 M_self_at_200) 4 50) 5 M_self_at) 6 M_self_tkNumber) 7 M_self_tkDigits) w)), (q 1, .inl (c 0, 800, .inl f_tape))] := hD
                have kzz_31 : (50 : Int32).toInt = 50 := by decide
                have hP9 := hP.sub (ws' := [(A_self, .inr (7, o7 q (upd (upd (upd (upd (upd v 3 M_self_at_200) 4 50) 5 M_self_at) 6 M_self_tkNumber) 7 M_self_tkDigits) w)), (q 1, .inl (c 0, 800, .inl f_tape))]) [0, 1] rfl
                have hD9 := hD.sub (ws' := [(A_self, .inr (7, o7 q (upd (upd (upd (upd (upd v 3 M_self_at_200) 4 50) 5 M_self_at) 6 M_self_tkNumber) 7 M_self_tkDigits) w)), (q 1, .inl (c 0, 800, .inl f_tape))]) [0, 1] (by decide) rfl
                refine W.widen (k := 0) (n := 0) (by omega) (by omega) ?_
                exact W.vret hx hb hr (fun t ht hW => ⟨⟨(M_self_at_200, 50, M_self_at, M_self_tkNumber, M_self_tkDigits, ()), rfl, ⟨(show (v 3).toInt ≤ M_self_at.toInt ∧ M_self_at.toInt ≤ M_self_at_200.toInt ∧ M_self_at_200.toInt ≤ (v 2).toInt by omega), (show (50 : Int32).toInt = 0 ∨ M_self_at.toInt + 1 ≤ M_self_at_200.toInt by omega)⟩, ⟨by rw [ht]; exact hP9, hD9⟩⟩, hS.F ht⟩) hS.2.2 dX7_advance_295
              · skip
                refine lv_aload_n hx hb dX7_advance_211 rfl (lv_at hl 1 rfl) ?_
                refine va_get (D := D) (ci := 7) (v := .ref (q 1)) (C := RX7) (T := TX7) (N := 56) hx hb hts (fun _ h => List.mem_cons_of_mem _ (List.mem_append_right _ h)) hown hK hP 0 rfl rfl 1 (by decide) (hts (.fieldLink RX7 7 "CrownTableModel" "tape" "[B") (mem_i 3 rfl)) (fun _ h9 => h9) rfl dX7_advance_212 ?_
                refine lv_aload_n hx hb dX7_advance_215 rfl (lv_at hl 1 rfl) ?_
                refine va_get (D := D) (ci := 7) (v := .int M_self_at_200) (C := RX7) (T := TX7) (N := 56) hx hb hts (fun _ h => List.mem_cons_of_mem _ (List.mem_append_right _ h)) hown hK hP 0 rfl rfl 3 (by decide) (hts (.fieldLink RX7 136 "CrownTableModel" "at" "I") (mem_i 1 rfl)) (fun _ h9 => h9) rfl dX7_advance_216 ?_
                refine va_bald hx hb hK hP 1 0 rfl rfl (vin (a := M_self_at_200.toInt) rfl (by omega) (by omega)) dX7_advance_219 ?_
                refine lv_topi (fun x_32 ex_32 => ?_)
                have lf_33 : (f_tape M_self_at_200.toInt.toNat).toInt = x_32.toInt := by rw [ex_32, clampN (x := M_self_at_200) rfl]
                have hPc := hP.sub (ws' := []) [] rfl
                have hDc := hD.sub (ws' := []) [] (by decide) rfl
                have hFc := va_free (wc := []) hD hS hA [] rfl
                refine va_csi (va_runS (As := [.int x_32]) (rest := []) ⟨hx, hb, hml, hown, hts⟩ (k_X7_isDigit l D c ts H.size x_32 x_32.toInt rfl) (cwS 1 hts gX7_advance_X7_isDigit rfl rfl rfl ⟨rfl, hdX7_isDigit⟩ ⟨(show 0 + 1 ≤ 1 by decide), (show 8 + (1 + 11) + 0 ≤ 21 by decide)⟩) ⟨Pre0.blind, Pre0.at hPc hDc hAm hSt hS hFc⟩ rfl rfl hl.1 rfl (lv_room (Nat.le_of_ble_eq_true rfl)) dX7_advance_220 ⟨(show 0 + 0 ≤ 0 by decide), (show 0 + 0 ≤ 0 by decide)⟩) (fun r_35 hw_34 => ?_)
                rcases hw_34 with ⟨hw_34, rfl⟩ | ⟨hw_34, rfl⟩
                · skip
                  refine iif_eqF (a := 1) (tgt := 289) hx hb (by decide) dX7_advance_223 (by decide) (by decide) ?_
                  refine lv_aload_n hx hb dX7_advance_226 rfl (lv_at hl 1 rfl) ?_
                  have lp_263 : ∀ (K0 : Int32) (H : Heap) (locs : List Loc) (ls : Array Slot), va_P D vwCl [(A_self, .inr (7, o7 q (upd (upd (upd (upd v 3 M_self_at_200) 5 M_self_at) 6 M_self_tkNumber) 7 M_self_tkDigits) w)), (q 1, .inl (c 0, 800, .inl f_tape))] H → va_D A [(A_self, .inr (7, o7 q (upd (upd (upd (upd v 3 M_self_at_200) 5 M_self_at) 6 M_self_tkNumber) 7 M_self_tkDigits) w)), (q 1, .inl (c 0, 800, .inl f_tape))] → va_S A s.heap H locs → lv_has ls 5 [(1, .int x_3), (0, .ref A_self)] → W p l e (headSpec wsX7_advance ({ frames := 1, cells := 0, slots := 0, locals := 21 })).room s m (([.ref A_self] : List Value).toArray) below meth cd H locs 0 0 (MQ below (va_Qv (fun (u : Int32 × Int32 × Int32 × Int32 × Int32 × Unit) => ((v 3).toInt ≤ u.2.2.1.toInt ∧ u.2.2.1.toInt ≤ u.1.toInt ∧ u.1.toInt ≤ (v 2).toInt) ∧ (u.2.1.toInt = 0 ∨ u.2.2.1.toInt + 1 ≤ u.1.toInt)) (fun u t => va_P D vwCl [(A_self, .inr (7, o7 q (upd (upd (upd (upd (upd v 3 u.1) 4 u.2.1) 5 u.2.2.1) 6 u.2.2.2.1) 7 u.2.2.2.2.1) w)), (q 1, .inl (c 0, 800, .inl f_tape))] t.heap ∧ va_D A [(A_self, .inr (7, o7 q (upd (upd (upd (upd (upd v 3 u.1) 4 u.2.1) 5 u.2.2.1) 6 u.2.2.2.1) 7 u.2.2.2.2.1) w)), (q 1, .inl (c 0, 800, .inl f_tape))]) A) ([.ref A_self] : List Value).toArray s 0 0 A) (F0 m 263 ls [.int K0, .ref A_self]) := by
                    intro K0 H locs ls hP hD hS hl
                    have rg_K0 := i32r K0
                    refine va_put (D := D) (ci := 7) (v := .int K0) (ty := .int) (C := RX7) (T := TX7) (N := 56) hx hb hts (fun _ h => List.mem_cons_of_mem _ (List.mem_append_right _ h)) tyX7 tyX7_ok nmX7 hown hK hP hD hS 0 rfl rfl 6 (by decide) (hts (.fieldLink RX7 160 "CrownTableModel" "tkNumber" "I") (mem_i 8 rfl)) (fun _ h9 => h9) rfl (by decide +kernel) rfl rfl (Nat.le_of_ble_eq_true rfl) dX7_advance_263 (fun H locs hP hD hS => ?_)
                    have hP : va_P D vwCl [(A_self, .inr (7, o7 q (upd (upd (upd (upd v 3 M_self_at_200) 5 M_self_at) 6 K0) 7 M_self_tkDigits) w)), (q 1, .inl (c 0, 800, .inl f_tape))] H := hP
                    have hD : va_D A [(A_self, .inr (7, o7 q (upd (upd (upd (upd v 3 M_self_at_200) 5 M_self_at) 6 K0) 7 M_self_tkDigits) w)), (q 1, .inl (c 0, 800, .inl f_tape))] := hD
                    refine lv_aload_n hx hb dX7_advance_266 rfl (lv_at hl 1 rfl) ?_
                    refine lv_dup hx hb dX7_advance_267 rfl ?_
                    refine va_get (D := D) (ci := 7) (v := .int M_self_tkDigits) (C := RX7) (T := TX7) (N := 56) hx hb hts (fun _ h => List.mem_cons_of_mem _ (List.mem_append_right _ h)) hown hK hP 0 rfl rfl 7 (by decide) (hts (.fieldLink RX7 163 "CrownTableModel" "tkDigits" "I") (mem_i 9 rfl)) (fun _ h9 => h9) rfl dX7_advance_268 ?_
                    refine lv_iconst (v := 1) hx hb dX7_advance_271 (by decide) ?_
                    refine lv_iadd hx hb dX7_advance_272 ?_
                    refine lv_topi (fun x_36 ex_36 => ?_)
                    refine va_put (D := D) (ci := 7) (v := .int x_36) (ty := .int) (C := RX7) (T := TX7) (N := 56) hx hb hts (fun _ h => List.mem_cons_of_mem _ (List.mem_append_right _ h)) tyX7 tyX7_ok nmX7 hown hK hP hD hS 0 rfl rfl 7 (by decide) (hts (.fieldLink RX7 163 "CrownTableModel" "tkDigits" "I") (mem_i 9 rfl)) (fun _ h9 => h9) rfl (by decide +kernel) rfl rfl (Nat.le_of_ble_eq_true rfl) dX7_advance_273 (fun H locs hP hD hS => ?_)
                    have hP : va_P D vwCl [(A_self, .inr (7, o7 q (upd (upd (upd (upd v 3 M_self_at_200) 5 M_self_at) 6 K0) 7 x_36) w)), (q 1, .inl (c 0, 800, .inl f_tape))] H := hP
                    have hD : va_D A [(A_self, .inr (7, o7 q (upd (upd (upd (upd v 3 M_self_at_200) 5 M_self_at) 6 K0) 7 x_36) w)), (q 1, .inl (c 0, 800, .inl f_tape))] := hD
                    refine lv_aload_n hx hb dX7_advance_276 rfl (lv_at hl 1 rfl) ?_
                    refine lv_dup hx hb dX7_advance_277 rfl ?_
                    refine va_get (D := D) (ci := 7) (v := .int M_self_at_200) (C := RX7) (T := TX7) (N := 56) hx hb hts (fun _ h => List.mem_cons_of_mem _ (List.mem_append_right _ h)) hown hK hP 0 rfl rfl 3 (by decide) (hts (.fieldLink RX7 136 "CrownTableModel" "at" "I") (mem_i 1 rfl)) (fun _ h9 => h9) rfl dX7_advance_278 ?_
                    refine lv_iconst (v := 1) hx hb dX7_advance_281 (by decide) ?_
                    refine lv_iadd hx hb dX7_advance_282 ?_
                    refine lv_topi (fun x_37 ex_37 => ?_)
                    have tx_37 : x_37.toInt = (M_self_at_200.toInt + 1) := by rw [ex_37]; exact add_ti (a := M_self_at_200.toInt) (b := 1) rfl (by decide) (by omega) (by omega)
                    refine va_put (D := D) (ci := 7) (v := .int x_37) (ty := .int) (C := RX7) (T := TX7) (N := 56) hx hb hts (fun _ h => List.mem_cons_of_mem _ (List.mem_append_right _ h)) tyX7 tyX7_ok nmX7 hown hK hP hD hS 0 rfl rfl 3 (by decide) (hts (.fieldLink RX7 136 "CrownTableModel" "at" "I") (mem_i 1 rfl)) (fun _ h9 => h9) rfl (by decide +kernel) rfl rfl (Nat.le_of_ble_eq_true rfl) dX7_advance_283 (fun H locs hP hD hS => ?_)
                    have hP : va_P D vwCl [(A_self, .inr (7, o7 q (upd (upd (upd (upd v 3 x_37) 5 M_self_at) 6 K0) 7 x_36) w)), (q 1, .inl (c 0, 800, .inl f_tape))] H := hP
                    have hD : va_D A [(A_self, .inr (7, o7 q (upd (upd (upd (upd v 3 x_37) 5 M_self_at) 6 K0) 7 x_36) w)), (q 1, .inl (c 0, 800, .inl f_tape))] := hD
                    refine lv_goto (tgt := 200) hx hb dX7_advance_286 (by decide) ?_
                    exact (ih200 ((800 - x_37.toInt).toNat) (by omega) x_37 K0 x_36 (by omega) (by omega) rfl _ _ _ hP hD hS hl)
                  refine lv_aload_n hx hb dX7_advance_227 rfl (lv_at hl 1 rfl) ?_
                  refine va_get (D := D) (ci := 7) (v := .int M_self_tkDigits) (C := RX7) (T := TX7) (N := 56) hx hb hts (fun _ h => List.mem_cons_of_mem _ (List.mem_append_right _ h)) hown hK hP 0 rfl rfl 7 (by decide) (hts (.fieldLink RX7 163 "CrownTableModel" "tkDigits" "I") (mem_i 9 rfl)) (fun _ h9 => h9) rfl dX7_advance_228 ?_
                  refine lv_bipush (v := 6) hx hb dX7_advance_231 (by decide) ?_
                  refine iicmp_ge (a := M_self_tkDigits.toInt) (b := 6) (tgt := 259) hx hb rfl (by decide) dX7_advance_233 (by decide) (fun k_38 => ?_) (fun k_38 => ?_)
                  · skip
                    refine lv_aload_n hx hb dX7_advance_259 rfl (lv_at hl 1 rfl) ?_
                    refine va_get (D := D) (ci := 7) (v := .int M_self_tkNumber) (C := RX7) (T := TX7) (N := 56) hx hb hts (fun _ h => List.mem_cons_of_mem _ (List.mem_append_right _ h)) hown hK hP 0 rfl rfl 6 (by decide) (hts (.fieldLink RX7 160 "CrownTableModel" "tkNumber" "I") (mem_i 8 rfl)) (fun _ h9 => h9) rfl dX7_advance_260 ?_
                    exact lp_263 M_self_tkNumber _ _ _ hP hD hS hl
                  · skip
                    refine lv_bipush (v := 10) hx hb dX7_advance_236 (by decide) ?_
                    refine lv_aload_n hx hb dX7_advance_238 rfl (lv_at hl 1 rfl) ?_
                    refine va_get (D := D) (ci := 7) (v := .int M_self_tkNumber) (C := RX7) (T := TX7) (N := 56) hx hb hts (fun _ h => List.mem_cons_of_mem _ (List.mem_append_right _ h)) hown hK hP 0 rfl rfl 6 (by decide) (hts (.fieldLink RX7 160 "CrownTableModel" "tkNumber" "I") (mem_i 8 rfl)) (fun _ h9 => h9) rfl dX7_advance_239 ?_
                    refine lv_imul hx hb dX7_advance_242 ?_
                    refine lv_topi (fun x_39 ex_39 => ?_)
                    refine lv_aload_n hx hb dX7_advance_243 rfl (lv_at hl 1 rfl) ?_
                    refine va_get (D := D) (ci := 7) (v := .ref (q 1)) (C := RX7) (T := TX7) (N := 56) hx hb hts (fun _ h => List.mem_cons_of_mem _ (List.mem_append_right _ h)) hown hK hP 0 rfl rfl 1 (by decide) (hts (.fieldLink RX7 7 "CrownTableModel" "tape" "[B") (mem_i 3 rfl)) (fun _ h9 => h9) rfl dX7_advance_244 ?_
                    refine lv_aload_n hx hb dX7_advance_247 rfl (lv_at hl 1 rfl) ?_
                    refine va_get (D := D) (ci := 7) (v := .int M_self_at_200) (C := RX7) (T := TX7) (N := 56) hx hb hts (fun _ h => List.mem_cons_of_mem _ (List.mem_append_right _ h)) hown hK hP 0 rfl rfl 3 (by decide) (hts (.fieldLink RX7 136 "CrownTableModel" "at" "I") (mem_i 1 rfl)) (fun _ h9 => h9) rfl dX7_advance_248 ?_
                    refine va_bald hx hb hK hP 1 0 rfl rfl (vin (a := M_self_at_200.toInt) rfl (by omega) (by omega)) dX7_advance_251 ?_
                    refine lv_topi (fun x_40 ex_40 => ?_)
                    have lf_41 : (f_tape M_self_at_200.toInt.toNat).toInt = x_40.toInt := by rw [ex_40, clampN (x := M_self_at_200) rfl]
                    refine lv_iadd hx hb dX7_advance_252 ?_
                    refine lv_topi (fun x_42 ex_42 => ?_)
                    refine lv_bipush (v := 48) hx hb dX7_advance_253 (by decide) ?_
                    refine lv_isub hx hb dX7_advance_255 ?_
                    refine lv_topi (fun x_43 ex_43 => ?_)
                    refine lv_goto (tgt := 263) hx hb dX7_advance_256 (by decide) ?_
                    exact lp_263 x_43 _ _ _ hP hD hS hl
                · skip
                  refine iif_eqT (a := 0) (tgt := 289) hx hb (by decide) dX7_advance_223 (by decide) (by decide) ?_
                  refine lv_aload_n hx hb dX7_advance_289 rfl (lv_at hl 1 rfl) ?_
                  refine lv_bipush (v := 50) hx hb dX7_advance_290 (by decide) ?_
                  refine va_put (D := D) (ci := 7) (v := .int 50) (ty := .int) (C := RX7) (T := TX7) (N := 56) hx hb hts (fun _ h => List.mem_cons_of_mem _ (List.mem_append_right _ h)) tyX7 tyX7_ok nmX7 hown hK hP hD hS 0 rfl rfl 4 (by decide) (hts (.fieldLink RX7 142 "CrownTableModel" "tk" "I") (mem_i 5 rfl)) (fun _ h9 => h9) rfl (by decide +kernel) rfl rfl (Nat.le_of_ble_eq_true rfl) dX7_advance_292 (fun H locs hP hD hS => ?_)
                  have hP : va_P D vwCl [(A_self, .inr (7, o7 q (upd (upd (upd (upd (upd v 3 M_self_at_200) 4 50) 5 M_self_at) 6 M_self_tkNumber) 7 M_self_tkDigits) w)), (q 1, .inl (c 0, 800, .inl f_tape))] H := hP
                  have hD : va_D A [(A_self, .inr (7, o7 q (upd (upd (upd (upd (upd v 3 M_self_at_200) 4 50) 5 M_self_at) 6 M_self_tkNumber) 7 M_self_tkDigits) w)), (q 1, .inl (c 0, 800, .inl f_tape))] := hD
                  have kzz_44 : (50 : Int32).toInt = 50 := by decide
                  have hP9 := hP.sub (ws' := [(A_self, .inr (7, o7 q (upd (upd (upd (upd (upd v 3 M_self_at_200) 4 50) 5 M_self_at) 6 M_self_tkNumber) 7 M_self_tkDigits) w)), (q 1, .inl (c 0, 800, .inl f_tape))]) [0, 1] rfl
                  have hD9 := hD.sub (ws' := [(A_self, .inr (7, o7 q (upd (upd (upd (upd (upd v 3 M_self_at_200) 4 50) 5 M_self_at) 6 M_self_tkNumber) 7 M_self_tkDigits) w)), (q 1, .inl (c 0, 800, .inl f_tape))]) [0, 1] (by decide) rfl
                  refine W.widen (k := 0) (n := 0) (by omega) (by omega) ?_
                  exact W.vret hx hb hr (fun t ht hW => ⟨⟨(M_self_at_200, 50, M_self_at, M_self_tkNumber, M_self_tkDigits, ()), rfl, ⟨(show (v 3).toInt ≤ M_self_at.toInt ∧ M_self_at.toInt ≤ M_self_at_200.toInt ∧ M_self_at_200.toInt ≤ (v 2).toInt by omega), (show (50 : Int32).toInt = 0 ∨ M_self_at.toInt + 1 ≤ M_self_at_200.toInt by omega)⟩, ⟨by rw [ht]; exact hP9, hD9⟩⟩, hS.F ht⟩) hS.2.2 dX7_advance_295
            have kzz_45 : (0 : Int32).toInt = 0 := by decide
            exact (lp_200 _ M_self_at 0 0 (by omega) (by omega) rfl _ _ _ hP hD hS hl)
          · skip
            refine iif_eqT (a := 0) (tgt := 296) hx hb (by decide) dX7_advance_187 (by decide) (by decide) ?_
            refine lv_aload_n hx hb dX7_advance_296 rfl (lv_at hl 1 rfl) ?_
            refine lv_dup hx hb dX7_advance_297 rfl ?_
            refine va_get (D := D) (ci := 7) (v := .int M_self_at) (C := RX7) (T := TX7) (N := 56) hx hb hts (fun _ h => List.mem_cons_of_mem _ (List.mem_append_right _ h)) hown hK hP 0 rfl rfl 3 (by decide) (hts (.fieldLink RX7 136 "CrownTableModel" "at" "I") (mem_i 1 rfl)) (fun _ h9 => h9) rfl dX7_advance_298 ?_
            refine lv_iconst (v := 1) hx hb dX7_advance_301 (by decide) ?_
            refine lv_iadd hx hb dX7_advance_302 ?_
            refine lv_topi (fun x_46 ex_46 => ?_)
            refine va_put (D := D) (ci := 7) (v := .int x_46) (ty := .int) (C := RX7) (T := TX7) (N := 56) hx hb hts (fun _ h => List.mem_cons_of_mem _ (List.mem_append_right _ h)) tyX7 tyX7_ok nmX7 hown hK hP hD hS 0 rfl rfl 3 (by decide) (hts (.fieldLink RX7 136 "CrownTableModel" "at" "I") (mem_i 1 rfl)) (fun _ h9 => h9) rfl (by decide +kernel) rfl rfl (Nat.le_of_ble_eq_true rfl) dX7_advance_303 (fun H locs hP hD hS => ?_)
            have hP : va_P D vwCl [(A_self, .inr (7, o7 q (upd (upd v 3 x_46) 5 M_self_at) w)), (q 1, .inl (c 0, 800, .inl f_tape))] H := hP
            have hD : va_D A [(A_self, .inr (7, o7 q (upd (upd v 3 x_46) 5 M_self_at) w)), (q 1, .inl (c 0, 800, .inl f_tape))] := hD
            refine lv_aload_n hx hb dX7_advance_306 rfl (lv_at hl 1 rfl) ?_
            refine lv_iload_n hx hb dX7_advance_307 rfl (lv_at hl 0 rfl) ?_
            refine lv_bipush (v := 59) hx hb dX7_advance_308 (by decide) ?_
            refine iicmp_eq (a := x_3.toInt) (b := 59) (tgt := 361) hx hb rfl (by decide) dX7_advance_310 (by decide) (fun k_47 => ?_) (fun k_47 => ?_)
            · skip
              refine lv_iload_n hx hb dX7_advance_361 rfl (lv_at hl 0 rfl) ?_
              refine lv_goto (tgt := 367) hx hb dX7_advance_362 (by decide) ?_
              refine va_put (D := D) (ci := 7) (v := .int x_3) (ty := .int) (C := RX7) (T := TX7) (N := 56) hx hb hts (fun _ h => List.mem_cons_of_mem _ (List.mem_append_right _ h)) tyX7 tyX7_ok nmX7 hown hK hP hD hS 0 rfl rfl 4 (by decide) (hts (.fieldLink RX7 142 "CrownTableModel" "tk" "I") (mem_i 5 rfl)) (fun _ h9 => h9) rfl (by decide +kernel) rfl rfl (Nat.le_of_ble_eq_true rfl) dX7_advance_367 (fun H locs hP hD hS => ?_)
              have hP : va_P D vwCl [(A_self, .inr (7, o7 q (upd (upd (upd v 3 x_46) 4 x_3) 5 M_self_at) w)), (q 1, .inl (c 0, 800, .inl f_tape))] H := hP
              have hD : va_D A [(A_self, .inr (7, o7 q (upd (upd (upd v 3 x_46) 4 x_3) 5 M_self_at) w)), (q 1, .inl (c 0, 800, .inl f_tape))] := hD
              have hP9 := hP.sub (ws' := [(A_self, .inr (7, o7 q (upd (upd (upd v 3 x_46) 4 x_3) 5 M_self_at) w)), (q 1, .inl (c 0, 800, .inl f_tape))]) [0, 1] rfl
              have hD9 := hD.sub (ws' := [(A_self, .inr (7, o7 q (upd (upd (upd v 3 x_46) 4 x_3) 5 M_self_at) w)), (q 1, .inl (c 0, 800, .inl f_tape))]) [0, 1] (by decide) rfl
              refine W.widen (k := 0) (n := 0) (by omega) (by omega) ?_
              exact W.vret hx hb hr (fun t ht hW => ⟨⟨(x_46, x_3, M_self_at, (v 6), (v 7), ()), rfl, ⟨(show (v 3).toInt ≤ M_self_at.toInt ∧ M_self_at.toInt ≤ x_46.toInt ∧ x_46.toInt ≤ (v 2).toInt by omega), (show x_3.toInt = 0 ∨ M_self_at.toInt + 1 ≤ x_46.toInt by omega)⟩, ⟨by rw [ht]; exact hP9, hD9⟩⟩, hS.F ht⟩) hS.2.2 dX7_advance_370
            · skip
              refine lv_iload_n hx hb dX7_advance_313 rfl (lv_at hl 0 rfl) ?_
              refine lv_bipush (v := 40) hx hb dX7_advance_314 (by decide) ?_
              refine iicmp_eq (a := x_3.toInt) (b := 40) (tgt := 361) hx hb rfl (by decide) dX7_advance_316 (by decide) (fun k_48 => ?_) (fun k_48 => ?_)
              · skip
                refine lv_iload_n hx hb dX7_advance_361 rfl (lv_at hl 0 rfl) ?_
                refine lv_goto (tgt := 367) hx hb dX7_advance_362 (by decide) ?_
                refine va_put (D := D) (ci := 7) (v := .int x_3) (ty := .int) (C := RX7) (T := TX7) (N := 56) hx hb hts (fun _ h => List.mem_cons_of_mem _ (List.mem_append_right _ h)) tyX7 tyX7_ok nmX7 hown hK hP hD hS 0 rfl rfl 4 (by decide) (hts (.fieldLink RX7 142 "CrownTableModel" "tk" "I") (mem_i 5 rfl)) (fun _ h9 => h9) rfl (by decide +kernel) rfl rfl (Nat.le_of_ble_eq_true rfl) dX7_advance_367 (fun H locs hP hD hS => ?_)
                have hP : va_P D vwCl [(A_self, .inr (7, o7 q (upd (upd (upd v 3 x_46) 4 x_3) 5 M_self_at) w)), (q 1, .inl (c 0, 800, .inl f_tape))] H := hP
                have hD : va_D A [(A_self, .inr (7, o7 q (upd (upd (upd v 3 x_46) 4 x_3) 5 M_self_at) w)), (q 1, .inl (c 0, 800, .inl f_tape))] := hD
                have hP9 := hP.sub (ws' := [(A_self, .inr (7, o7 q (upd (upd (upd v 3 x_46) 4 x_3) 5 M_self_at) w)), (q 1, .inl (c 0, 800, .inl f_tape))]) [0, 1] rfl
                have hD9 := hD.sub (ws' := [(A_self, .inr (7, o7 q (upd (upd (upd v 3 x_46) 4 x_3) 5 M_self_at) w)), (q 1, .inl (c 0, 800, .inl f_tape))]) [0, 1] (by decide) rfl
                refine W.widen (k := 0) (n := 0) (by omega) (by omega) ?_
                exact W.vret hx hb hr (fun t ht hW => ⟨⟨(x_46, x_3, M_self_at, (v 6), (v 7), ()), rfl, ⟨(show (v 3).toInt ≤ M_self_at.toInt ∧ M_self_at.toInt ≤ x_46.toInt ∧ x_46.toInt ≤ (v 2).toInt by omega), (show x_3.toInt = 0 ∨ M_self_at.toInt + 1 ≤ x_46.toInt by omega)⟩, ⟨by rw [ht]; exact hP9, hD9⟩⟩, hS.F ht⟩) hS.2.2 dX7_advance_370
              · skip
                refine lv_iload_n hx hb dX7_advance_319 rfl (lv_at hl 0 rfl) ?_
                refine lv_bipush (v := 41) hx hb dX7_advance_320 (by decide) ?_
                refine iicmp_eq (a := x_3.toInt) (b := 41) (tgt := 361) hx hb rfl (by decide) dX7_advance_322 (by decide) (fun k_49 => ?_) (fun k_49 => ?_)
                · skip
                  refine lv_iload_n hx hb dX7_advance_361 rfl (lv_at hl 0 rfl) ?_
                  refine lv_goto (tgt := 367) hx hb dX7_advance_362 (by decide) ?_
                  refine va_put (D := D) (ci := 7) (v := .int x_3) (ty := .int) (C := RX7) (T := TX7) (N := 56) hx hb hts (fun _ h => List.mem_cons_of_mem _ (List.mem_append_right _ h)) tyX7 tyX7_ok nmX7 hown hK hP hD hS 0 rfl rfl 4 (by decide) (hts (.fieldLink RX7 142 "CrownTableModel" "tk" "I") (mem_i 5 rfl)) (fun _ h9 => h9) rfl (by decide +kernel) rfl rfl (Nat.le_of_ble_eq_true rfl) dX7_advance_367 (fun H locs hP hD hS => ?_)
                  have hP : va_P D vwCl [(A_self, .inr (7, o7 q (upd (upd (upd v 3 x_46) 4 x_3) 5 M_self_at) w)), (q 1, .inl (c 0, 800, .inl f_tape))] H := hP
                  have hD : va_D A [(A_self, .inr (7, o7 q (upd (upd (upd v 3 x_46) 4 x_3) 5 M_self_at) w)), (q 1, .inl (c 0, 800, .inl f_tape))] := hD
                  have hP9 := hP.sub (ws' := [(A_self, .inr (7, o7 q (upd (upd (upd v 3 x_46) 4 x_3) 5 M_self_at) w)), (q 1, .inl (c 0, 800, .inl f_tape))]) [0, 1] rfl
                  have hD9 := hD.sub (ws' := [(A_self, .inr (7, o7 q (upd (upd (upd v 3 x_46) 4 x_3) 5 M_self_at) w)), (q 1, .inl (c 0, 800, .inl f_tape))]) [0, 1] (by decide) rfl
                  refine W.widen (k := 0) (n := 0) (by omega) (by omega) ?_
                  exact W.vret hx hb hr (fun t ht hW => ⟨⟨(x_46, x_3, M_self_at, (v 6), (v 7), ()), rfl, ⟨(show (v 3).toInt ≤ M_self_at.toInt ∧ M_self_at.toInt ≤ x_46.toInt ∧ x_46.toInt ≤ (v 2).toInt by omega), (show x_3.toInt = 0 ∨ M_self_at.toInt + 1 ≤ x_46.toInt by omega)⟩, ⟨by rw [ht]; exact hP9, hD9⟩⟩, hS.F ht⟩) hS.2.2 dX7_advance_370
                · skip
                  refine lv_iload_n hx hb dX7_advance_325 rfl (lv_at hl 0 rfl) ?_
                  refine lv_bipush (v := 60) hx hb dX7_advance_326 (by decide) ?_
                  refine iicmp_eq (a := x_3.toInt) (b := 60) (tgt := 361) hx hb rfl (by decide) dX7_advance_328 (by decide) (fun k_50 => ?_) (fun k_50 => ?_)
                  · skip
                    refine lv_iload_n hx hb dX7_advance_361 rfl (lv_at hl 0 rfl) ?_
                    refine lv_goto (tgt := 367) hx hb dX7_advance_362 (by decide) ?_
                    refine va_put (D := D) (ci := 7) (v := .int x_3) (ty := .int) (C := RX7) (T := TX7) (N := 56) hx hb hts (fun _ h => List.mem_cons_of_mem _ (List.mem_append_right _ h)) tyX7 tyX7_ok nmX7 hown hK hP hD hS 0 rfl rfl 4 (by decide) (hts (.fieldLink RX7 142 "CrownTableModel" "tk" "I") (mem_i 5 rfl)) (fun _ h9 => h9) rfl (by decide +kernel) rfl rfl (Nat.le_of_ble_eq_true rfl) dX7_advance_367 (fun H locs hP hD hS => ?_)
                    have hP : va_P D vwCl [(A_self, .inr (7, o7 q (upd (upd (upd v 3 x_46) 4 x_3) 5 M_self_at) w)), (q 1, .inl (c 0, 800, .inl f_tape))] H := hP
                    have hD : va_D A [(A_self, .inr (7, o7 q (upd (upd (upd v 3 x_46) 4 x_3) 5 M_self_at) w)), (q 1, .inl (c 0, 800, .inl f_tape))] := hD
                    have hP9 := hP.sub (ws' := [(A_self, .inr (7, o7 q (upd (upd (upd v 3 x_46) 4 x_3) 5 M_self_at) w)), (q 1, .inl (c 0, 800, .inl f_tape))]) [0, 1] rfl
                    have hD9 := hD.sub (ws' := [(A_self, .inr (7, o7 q (upd (upd (upd v 3 x_46) 4 x_3) 5 M_self_at) w)), (q 1, .inl (c 0, 800, .inl f_tape))]) [0, 1] (by decide) rfl
                    refine W.widen (k := 0) (n := 0) (by omega) (by omega) ?_
                    exact W.vret hx hb hr (fun t ht hW => ⟨⟨(x_46, x_3, M_self_at, (v 6), (v 7), ()), rfl, ⟨(show (v 3).toInt ≤ M_self_at.toInt ∧ M_self_at.toInt ≤ x_46.toInt ∧ x_46.toInt ≤ (v 2).toInt by omega), (show x_3.toInt = 0 ∨ M_self_at.toInt + 1 ≤ x_46.toInt by omega)⟩, ⟨by rw [ht]; exact hP9, hD9⟩⟩, hS.F ht⟩) hS.2.2 dX7_advance_370
                  · skip
                    refine lv_iload_n hx hb dX7_advance_331 rfl (lv_at hl 0 rfl) ?_
                    refine lv_bipush (v := 61) hx hb dX7_advance_332 (by decide) ?_
                    refine iicmp_eq (a := x_3.toInt) (b := 61) (tgt := 361) hx hb rfl (by decide) dX7_advance_334 (by decide) (fun k_51 => ?_) (fun k_51 => ?_)
                    · skip
                      refine lv_iload_n hx hb dX7_advance_361 rfl (lv_at hl 0 rfl) ?_
                      refine lv_goto (tgt := 367) hx hb dX7_advance_362 (by decide) ?_
                      refine va_put (D := D) (ci := 7) (v := .int x_3) (ty := .int) (C := RX7) (T := TX7) (N := 56) hx hb hts (fun _ h => List.mem_cons_of_mem _ (List.mem_append_right _ h)) tyX7 tyX7_ok nmX7 hown hK hP hD hS 0 rfl rfl 4 (by decide) (hts (.fieldLink RX7 142 "CrownTableModel" "tk" "I") (mem_i 5 rfl)) (fun _ h9 => h9) rfl (by decide +kernel) rfl rfl (Nat.le_of_ble_eq_true rfl) dX7_advance_367 (fun H locs hP hD hS => ?_)
                      have hP : va_P D vwCl [(A_self, .inr (7, o7 q (upd (upd (upd v 3 x_46) 4 x_3) 5 M_self_at) w)), (q 1, .inl (c 0, 800, .inl f_tape))] H := hP
                      have hD : va_D A [(A_self, .inr (7, o7 q (upd (upd (upd v 3 x_46) 4 x_3) 5 M_self_at) w)), (q 1, .inl (c 0, 800, .inl f_tape))] := hD
                      have hP9 := hP.sub (ws' := [(A_self, .inr (7, o7 q (upd (upd (upd v 3 x_46) 4 x_3) 5 M_self_at) w)), (q 1, .inl (c 0, 800, .inl f_tape))]) [0, 1] rfl
                      have hD9 := hD.sub (ws' := [(A_self, .inr (7, o7 q (upd (upd (upd v 3 x_46) 4 x_3) 5 M_self_at) w)), (q 1, .inl (c 0, 800, .inl f_tape))]) [0, 1] (by decide) rfl
                      refine W.widen (k := 0) (n := 0) (by omega) (by omega) ?_
                      exact W.vret hx hb hr (fun t ht hW => ⟨⟨(x_46, x_3, M_self_at, (v 6), (v 7), ()), rfl, ⟨(show (v 3).toInt ≤ M_self_at.toInt ∧ M_self_at.toInt ≤ x_46.toInt ∧ x_46.toInt ≤ (v 2).toInt by omega), (show x_3.toInt = 0 ∨ M_self_at.toInt + 1 ≤ x_46.toInt by omega)⟩, ⟨by rw [ht]; exact hP9, hD9⟩⟩, hS.F ht⟩) hS.2.2 dX7_advance_370
                    · skip
                      refine lv_iload_n hx hb dX7_advance_337 rfl (lv_at hl 0 rfl) ?_
                      refine lv_bipush (v := 62) hx hb dX7_advance_338 (by decide) ?_
                      refine iicmp_eq (a := x_3.toInt) (b := 62) (tgt := 361) hx hb rfl (by decide) dX7_advance_340 (by decide) (fun k_52 => ?_) (fun k_52 => ?_)
                      · skip
                        refine lv_iload_n hx hb dX7_advance_361 rfl (lv_at hl 0 rfl) ?_
                        refine lv_goto (tgt := 367) hx hb dX7_advance_362 (by decide) ?_
                        refine va_put (D := D) (ci := 7) (v := .int x_3) (ty := .int) (C := RX7) (T := TX7) (N := 56) hx hb hts (fun _ h => List.mem_cons_of_mem _ (List.mem_append_right _ h)) tyX7 tyX7_ok nmX7 hown hK hP hD hS 0 rfl rfl 4 (by decide) (hts (.fieldLink RX7 142 "CrownTableModel" "tk" "I") (mem_i 5 rfl)) (fun _ h9 => h9) rfl (by decide +kernel) rfl rfl (Nat.le_of_ble_eq_true rfl) dX7_advance_367 (fun H locs hP hD hS => ?_)
                        have hP : va_P D vwCl [(A_self, .inr (7, o7 q (upd (upd (upd v 3 x_46) 4 x_3) 5 M_self_at) w)), (q 1, .inl (c 0, 800, .inl f_tape))] H := hP
                        have hD : va_D A [(A_self, .inr (7, o7 q (upd (upd (upd v 3 x_46) 4 x_3) 5 M_self_at) w)), (q 1, .inl (c 0, 800, .inl f_tape))] := hD
                        have hP9 := hP.sub (ws' := [(A_self, .inr (7, o7 q (upd (upd (upd v 3 x_46) 4 x_3) 5 M_self_at) w)), (q 1, .inl (c 0, 800, .inl f_tape))]) [0, 1] rfl
                        have hD9 := hD.sub (ws' := [(A_self, .inr (7, o7 q (upd (upd (upd v 3 x_46) 4 x_3) 5 M_self_at) w)), (q 1, .inl (c 0, 800, .inl f_tape))]) [0, 1] (by decide) rfl
                        refine W.widen (k := 0) (n := 0) (by omega) (by omega) ?_
                        exact W.vret hx hb hr (fun t ht hW => ⟨⟨(x_46, x_3, M_self_at, (v 6), (v 7), ()), rfl, ⟨(show (v 3).toInt ≤ M_self_at.toInt ∧ M_self_at.toInt ≤ x_46.toInt ∧ x_46.toInt ≤ (v 2).toInt by omega), (show x_3.toInt = 0 ∨ M_self_at.toInt + 1 ≤ x_46.toInt by omega)⟩, ⟨by rw [ht]; exact hP9, hD9⟩⟩, hS.F ht⟩) hS.2.2 dX7_advance_370
                      · skip
                        refine lv_iload_n hx hb dX7_advance_343 rfl (lv_at hl 0 rfl) ?_
                        refine lv_bipush (v := 43) hx hb dX7_advance_344 (by decide) ?_
                        refine iicmp_eq (a := x_3.toInt) (b := 43) (tgt := 361) hx hb rfl (by decide) dX7_advance_346 (by decide) (fun k_53 => ?_) (fun k_53 => ?_)
                        · skip
                          refine lv_iload_n hx hb dX7_advance_361 rfl (lv_at hl 0 rfl) ?_
                          refine lv_goto (tgt := 367) hx hb dX7_advance_362 (by decide) ?_
                          refine va_put (D := D) (ci := 7) (v := .int x_3) (ty := .int) (C := RX7) (T := TX7) (N := 56) hx hb hts (fun _ h => List.mem_cons_of_mem _ (List.mem_append_right _ h)) tyX7 tyX7_ok nmX7 hown hK hP hD hS 0 rfl rfl 4 (by decide) (hts (.fieldLink RX7 142 "CrownTableModel" "tk" "I") (mem_i 5 rfl)) (fun _ h9 => h9) rfl (by decide +kernel) rfl rfl (Nat.le_of_ble_eq_true rfl) dX7_advance_367 (fun H locs hP hD hS => ?_)
                          have hP : va_P D vwCl [(A_self, .inr (7, o7 q (upd (upd (upd v 3 x_46) 4 x_3) 5 M_self_at) w)), (q 1, .inl (c 0, 800, .inl f_tape))] H := hP
                          have hD : va_D A [(A_self, .inr (7, o7 q (upd (upd (upd v 3 x_46) 4 x_3) 5 M_self_at) w)), (q 1, .inl (c 0, 800, .inl f_tape))] := hD
                          have hP9 := hP.sub (ws' := [(A_self, .inr (7, o7 q (upd (upd (upd v 3 x_46) 4 x_3) 5 M_self_at) w)), (q 1, .inl (c 0, 800, .inl f_tape))]) [0, 1] rfl
                          have hD9 := hD.sub (ws' := [(A_self, .inr (7, o7 q (upd (upd (upd v 3 x_46) 4 x_3) 5 M_self_at) w)), (q 1, .inl (c 0, 800, .inl f_tape))]) [0, 1] (by decide) rfl
                          refine W.widen (k := 0) (n := 0) (by omega) (by omega) ?_
                          exact W.vret hx hb hr (fun t ht hW => ⟨⟨(x_46, x_3, M_self_at, (v 6), (v 7), ()), rfl, ⟨(show (v 3).toInt ≤ M_self_at.toInt ∧ M_self_at.toInt ≤ x_46.toInt ∧ x_46.toInt ≤ (v 2).toInt by omega), (show x_3.toInt = 0 ∨ M_self_at.toInt + 1 ≤ x_46.toInt by omega)⟩, ⟨by rw [ht]; exact hP9, hD9⟩⟩, hS.F ht⟩) hS.2.2 dX7_advance_370
                        · skip
                          refine lv_iload_n hx hb dX7_advance_349 rfl (lv_at hl 0 rfl) ?_
                          refine lv_bipush (v := 45) hx hb dX7_advance_350 (by decide) ?_
                          refine iicmp_eq (a := x_3.toInt) (b := 45) (tgt := 361) hx hb rfl (by decide) dX7_advance_352 (by decide) (fun k_54 => ?_) (fun k_54 => ?_)
                          · skip
                            refine lv_iload_n hx hb dX7_advance_361 rfl (lv_at hl 0 rfl) ?_
                            refine lv_goto (tgt := 367) hx hb dX7_advance_362 (by decide) ?_
                            refine va_put (D := D) (ci := 7) (v := .int x_3) (ty := .int) (C := RX7) (T := TX7) (N := 56) hx hb hts (fun _ h => List.mem_cons_of_mem _ (List.mem_append_right _ h)) tyX7 tyX7_ok nmX7 hown hK hP hD hS 0 rfl rfl 4 (by decide) (hts (.fieldLink RX7 142 "CrownTableModel" "tk" "I") (mem_i 5 rfl)) (fun _ h9 => h9) rfl (by decide +kernel) rfl rfl (Nat.le_of_ble_eq_true rfl) dX7_advance_367 (fun H locs hP hD hS => ?_)
                            have hP : va_P D vwCl [(A_self, .inr (7, o7 q (upd (upd (upd v 3 x_46) 4 x_3) 5 M_self_at) w)), (q 1, .inl (c 0, 800, .inl f_tape))] H := hP
                            have hD : va_D A [(A_self, .inr (7, o7 q (upd (upd (upd v 3 x_46) 4 x_3) 5 M_self_at) w)), (q 1, .inl (c 0, 800, .inl f_tape))] := hD
                            have hP9 := hP.sub (ws' := [(A_self, .inr (7, o7 q (upd (upd (upd v 3 x_46) 4 x_3) 5 M_self_at) w)), (q 1, .inl (c 0, 800, .inl f_tape))]) [0, 1] rfl
                            have hD9 := hD.sub (ws' := [(A_self, .inr (7, o7 q (upd (upd (upd v 3 x_46) 4 x_3) 5 M_self_at) w)), (q 1, .inl (c 0, 800, .inl f_tape))]) [0, 1] (by decide) rfl
                            refine W.widen (k := 0) (n := 0) (by omega) (by omega) ?_
                            exact W.vret hx hb hr (fun t ht hW => ⟨⟨(x_46, x_3, M_self_at, (v 6), (v 7), ()), rfl, ⟨(show (v 3).toInt ≤ M_self_at.toInt ∧ M_self_at.toInt ≤ x_46.toInt ∧ x_46.toInt ≤ (v 2).toInt by omega), (show x_3.toInt = 0 ∨ M_self_at.toInt + 1 ≤ x_46.toInt by omega)⟩, ⟨by rw [ht]; exact hP9, hD9⟩⟩, hS.F ht⟩) hS.2.2 dX7_advance_370
                          · skip
                            refine lv_iload_n hx hb dX7_advance_355 rfl (lv_at hl 0 rfl) ?_
                            refine lv_bipush (v := 42) hx hb dX7_advance_356 (by decide) ?_
                            refine iicmp_ne (a := x_3.toInt) (b := 42) (tgt := 365) hx hb rfl (by decide) dX7_advance_358 (by decide) (fun k_55 => ?_) (fun k_55 => ?_)
                            · skip
                              refine lv_bipush (v := 51) hx hb dX7_advance_365 (by decide) ?_
                              refine va_put (D := D) (ci := 7) (v := .int 51) (ty := .int) (C := RX7) (T := TX7) (N := 56) hx hb hts (fun _ h => List.mem_cons_of_mem _ (List.mem_append_right _ h)) tyX7 tyX7_ok nmX7 hown hK hP hD hS 0 rfl rfl 4 (by decide) (hts (.fieldLink RX7 142 "CrownTableModel" "tk" "I") (mem_i 5 rfl)) (fun _ h9 => h9) rfl (by decide +kernel) rfl rfl (Nat.le_of_ble_eq_true rfl) dX7_advance_367 (fun H locs hP hD hS => ?_)
                              have hP : va_P D vwCl [(A_self, .inr (7, o7 q (upd (upd (upd v 3 x_46) 4 51) 5 M_self_at) w)), (q 1, .inl (c 0, 800, .inl f_tape))] H := hP
                              have hD : va_D A [(A_self, .inr (7, o7 q (upd (upd (upd v 3 x_46) 4 51) 5 M_self_at) w)), (q 1, .inl (c 0, 800, .inl f_tape))] := hD
                              have kzz_56 : (51 : Int32).toInt = 51 := by decide
                              have hP9 := hP.sub (ws' := [(A_self, .inr (7, o7 q (upd (upd (upd v 3 x_46) 4 51) 5 M_self_at) w)), (q 1, .inl (c 0, 800, .inl f_tape))]) [0, 1] rfl
                              have hD9 := hD.sub (ws' := [(A_self, .inr (7, o7 q (upd (upd (upd v 3 x_46) 4 51) 5 M_self_at) w)), (q 1, .inl (c 0, 800, .inl f_tape))]) [0, 1] (by decide) rfl
                              refine W.widen (k := 0) (n := 0) (by omega) (by omega) ?_
                              exact W.vret hx hb hr (fun t ht hW => ⟨⟨(x_46, 51, M_self_at, (v 6), (v 7), ()), rfl, ⟨(show (v 3).toInt ≤ M_self_at.toInt ∧ M_self_at.toInt ≤ x_46.toInt ∧ x_46.toInt ≤ (v 2).toInt by omega), (show (51 : Int32).toInt = 0 ∨ M_self_at.toInt + 1 ≤ x_46.toInt by omega)⟩, ⟨by rw [ht]; exact hP9, hD9⟩⟩, hS.F ht⟩) hS.2.2 dX7_advance_370
                            · skip
                              refine lv_iload_n hx hb dX7_advance_361 rfl (lv_at hl 0 rfl) ?_
                              refine lv_goto (tgt := 367) hx hb dX7_advance_362 (by decide) ?_
                              refine va_put (D := D) (ci := 7) (v := .int x_3) (ty := .int) (C := RX7) (T := TX7) (N := 56) hx hb hts (fun _ h => List.mem_cons_of_mem _ (List.mem_append_right _ h)) tyX7 tyX7_ok nmX7 hown hK hP hD hS 0 rfl rfl 4 (by decide) (hts (.fieldLink RX7 142 "CrownTableModel" "tk" "I") (mem_i 5 rfl)) (fun _ h9 => h9) rfl (by decide +kernel) rfl rfl (Nat.le_of_ble_eq_true rfl) dX7_advance_367 (fun H locs hP hD hS => ?_)
                              have hP : va_P D vwCl [(A_self, .inr (7, o7 q (upd (upd (upd v 3 x_46) 4 x_3) 5 M_self_at) w)), (q 1, .inl (c 0, 800, .inl f_tape))] H := hP
                              have hD : va_D A [(A_self, .inr (7, o7 q (upd (upd (upd v 3 x_46) 4 x_3) 5 M_self_at) w)), (q 1, .inl (c 0, 800, .inl f_tape))] := hD
                              have hP9 := hP.sub (ws' := [(A_self, .inr (7, o7 q (upd (upd (upd v 3 x_46) 4 x_3) 5 M_self_at) w)), (q 1, .inl (c 0, 800, .inl f_tape))]) [0, 1] rfl
                              have hD9 := hD.sub (ws' := [(A_self, .inr (7, o7 q (upd (upd (upd v 3 x_46) 4 x_3) 5 M_self_at) w)), (q 1, .inl (c 0, 800, .inl f_tape))]) [0, 1] (by decide) rfl
                              refine W.widen (k := 0) (n := 0) (by omega) (by omega) ?_
                              exact W.vret hx hb hr (fun t ht hW => ⟨⟨(x_46, x_3, M_self_at, (v 6), (v 7), ()), rfl, ⟨(show (v 3).toInt ≤ M_self_at.toInt ∧ M_self_at.toInt ≤ x_46.toInt ∧ x_46.toInt ≤ (v 2).toInt by omega), (show x_3.toInt = 0 ∨ M_self_at.toInt + 1 ≤ x_46.toInt by omega)⟩, ⟨by rw [ht]; exact hP9, hD9⟩⟩, hS.F ht⟩) hS.2.2 dX7_advance_370
      · skip
        refine lv_aload_n hx hb dX7_advance_71 rfl (lv_at hl 0 rfl) ?_
        refine lv_iconst (v := 0) hx hb dX7_advance_72 (by decide) ?_
        refine va_put (D := D) (ci := 7) (v := .int 0) (ty := .int) (C := RX7) (T := TX7) (N := 56) hx hb hts (fun _ h => List.mem_cons_of_mem _ (List.mem_append_right _ h)) tyX7 tyX7_ok nmX7 hown hK hP hD hS 0 rfl rfl 4 (by decide) (hts (.fieldLink RX7 142 "CrownTableModel" "tk" "I") (mem_i 5 rfl)) (fun _ h9 => h9) rfl (by decide +kernel) rfl rfl (Nat.le_of_ble_eq_true rfl) dX7_advance_73 (fun H locs hP hD hS => ?_)
        have hP : va_P D vwCl [(A_self, .inr (7, o7 q (upd (upd (upd v 3 M_self_at) 4 0) 5 M_self_at) w)), (q 1, .inl (c 0, 800, .inl f_tape))] H := hP
        have hD : va_D A [(A_self, .inr (7, o7 q (upd (upd (upd v 3 M_self_at) 4 0) 5 M_self_at) w)), (q 1, .inl (c 0, 800, .inl f_tape))] := hD
        have kzz_57 : (0 : Int32).toInt = 0 := by decide
        have hP9 := hP.sub (ws' := [(A_self, .inr (7, o7 q (upd (upd (upd v 3 M_self_at) 4 0) 5 M_self_at) w)), (q 1, .inl (c 0, 800, .inl f_tape))]) [0, 1] rfl
        have hD9 := hD.sub (ws' := [(A_self, .inr (7, o7 q (upd (upd (upd v 3 M_self_at) 4 0) 5 M_self_at) w)), (q 1, .inl (c 0, 800, .inl f_tape))]) [0, 1] (by decide) rfl
        refine W.widen (k := 0) (n := 0) (by omega) (by omega) ?_
        exact W.vret hx hb hr (fun t ht hW => ⟨⟨(M_self_at, 0, M_self_at, (v 6), (v 7), ()), rfl, ⟨(show (v 3).toInt ≤ M_self_at.toInt ∧ M_self_at.toInt ≤ M_self_at.toInt ∧ M_self_at.toInt ≤ (v 2).toInt by omega), (show (0 : Int32).toInt = 0 ∨ M_self_at.toInt + 1 ≤ M_self_at.toInt by omega)⟩, ⟨by rw [ht]; exact hP9, hD9⟩⟩, hS.F ht⟩) hS.2.2 dX7_advance_76
    · skip
      refine lv_aload_n hx hb dX7_advance_11 rfl (lv_at hl 0 rfl) ?_
      refine va_get (D := D) (ci := 7) (v := .ref (q 1)) (C := RX7) (T := TX7) (N := 56) hx hb hts (fun _ h => List.mem_cons_of_mem _ (List.mem_append_right _ h)) hown hK hP 0 rfl rfl 1 (by decide) (hts (.fieldLink RX7 7 "CrownTableModel" "tape" "[B") (mem_i 3 rfl)) (fun _ h9 => h9) rfl dX7_advance_12 ?_
      refine lv_aload_n hx hb dX7_advance_15 rfl (lv_at hl 0 rfl) ?_
      refine va_get (D := D) (ci := 7) (v := .int M_self_at) (C := RX7) (T := TX7) (N := 56) hx hb hts (fun _ h => List.mem_cons_of_mem _ (List.mem_append_right _ h)) hown hK hP 0 rfl rfl 3 (by decide) (hts (.fieldLink RX7 136 "CrownTableModel" "at" "I") (mem_i 1 rfl)) (fun _ h9 => h9) rfl dX7_advance_16 ?_
      refine va_bald hx hb hK hP 1 0 rfl rfl (vin (a := M_self_at.toInt) rfl (by omega) (by omega)) dX7_advance_19 ?_
      refine lv_topi (fun x_58 ex_58 => ?_)
      have lf_59 : (f_tape M_self_at.toInt.toNat).toInt = x_58.toInt := by rw [ex_58, clampN (x := M_self_at) rfl]
      refine lv_bipush (v := 32) hx hb dX7_advance_20 (by decide) ?_
      refine iicmp_eq (a := x_58.toInt) (b := 32) (tgt := 39) hx hb rfl (by decide) dX7_advance_22 (by decide) (fun k_60 => ?_) (fun k_60 => ?_)
      · skip
        refine lv_aload_n hx hb dX7_advance_39 rfl (lv_at hl 0 rfl) ?_
        refine lv_dup hx hb dX7_advance_40 rfl ?_
        refine va_get (D := D) (ci := 7) (v := .int M_self_at) (C := RX7) (T := TX7) (N := 56) hx hb hts (fun _ h => List.mem_cons_of_mem _ (List.mem_append_right _ h)) hown hK hP 0 rfl rfl 3 (by decide) (hts (.fieldLink RX7 136 "CrownTableModel" "at" "I") (mem_i 1 rfl)) (fun _ h9 => h9) rfl dX7_advance_41 ?_
        refine lv_iconst (v := 1) hx hb dX7_advance_44 (by decide) ?_
        refine lv_iadd hx hb dX7_advance_45 ?_
        refine lv_topi (fun x_61 ex_61 => ?_)
        have tx_61 : x_61.toInt = (M_self_at.toInt + 1) := by rw [ex_61]; exact add_ti (a := M_self_at.toInt) (b := 1) rfl (by decide) (by omega) (by omega)
        refine va_put (D := D) (ci := 7) (v := .int x_61) (ty := .int) (C := RX7) (T := TX7) (N := 56) hx hb hts (fun _ h => List.mem_cons_of_mem _ (List.mem_append_right _ h)) tyX7 tyX7_ok nmX7 hown hK hP hD hS 0 rfl rfl 3 (by decide) (hts (.fieldLink RX7 136 "CrownTableModel" "at" "I") (mem_i 1 rfl)) (fun _ h9 => h9) rfl (by decide +kernel) rfl rfl (Nat.le_of_ble_eq_true rfl) dX7_advance_46 (fun H locs hP hD hS => ?_)
        have hP : va_P D vwCl [(A_self, .inr (7, o7 q (upd v 3 x_61) w)), (q 1, .inl (c 0, 800, .inl f_tape))] H := hP
        have hD : va_D A [(A_self, .inr (7, o7 q (upd v 3 x_61) w)), (q 1, .inl (c 0, 800, .inl f_tape))] := hD
        refine lv_goto (tgt := 0) hx hb dX7_advance_49 (by decide) ?_
        exact (ih0 ((800 - x_61.toInt).toNat) (by omega) x_61 (by omega) rfl _ _ _ hP hD hS hl)
      · skip
        refine lv_aload_n hx hb dX7_advance_25 rfl (lv_at hl 0 rfl) ?_
        refine va_get (D := D) (ci := 7) (v := .ref (q 1)) (C := RX7) (T := TX7) (N := 56) hx hb hts (fun _ h => List.mem_cons_of_mem _ (List.mem_append_right _ h)) hown hK hP 0 rfl rfl 1 (by decide) (hts (.fieldLink RX7 7 "CrownTableModel" "tape" "[B") (mem_i 3 rfl)) (fun _ h9 => h9) rfl dX7_advance_26 ?_
        refine lv_aload_n hx hb dX7_advance_29 rfl (lv_at hl 0 rfl) ?_
        refine va_get (D := D) (ci := 7) (v := .int M_self_at) (C := RX7) (T := TX7) (N := 56) hx hb hts (fun _ h => List.mem_cons_of_mem _ (List.mem_append_right _ h)) hown hK hP 0 rfl rfl 3 (by decide) (hts (.fieldLink RX7 136 "CrownTableModel" "at" "I") (mem_i 1 rfl)) (fun _ h9 => h9) rfl dX7_advance_30 ?_
        refine va_bald hx hb hK hP 1 0 rfl rfl (vin (a := M_self_at.toInt) rfl (by omega) (by omega)) dX7_advance_33 ?_
        refine lv_topi (fun x_62 ex_62 => ?_)
        have lf_63 : (f_tape M_self_at.toInt.toNat).toInt = x_62.toInt := by rw [ex_62, clampN (x := M_self_at) rfl]
        refine lv_bipush (v := 10) hx hb dX7_advance_34 (by decide) ?_
        refine iicmp_ne (a := x_62.toInt) (b := 10) (tgt := 52) hx hb rfl (by decide) dX7_advance_36 (by decide) (fun k_64 => ?_) (fun k_64 => ?_)
        · skip
          refine lv_aload_n hx hb dX7_advance_52 rfl (lv_at hl 0 rfl) ?_
          refine lv_aload_n hx hb dX7_advance_53 rfl (lv_at hl 0 rfl) ?_
          refine va_get (D := D) (ci := 7) (v := .int M_self_at) (C := RX7) (T := TX7) (N := 56) hx hb hts (fun _ h => List.mem_cons_of_mem _ (List.mem_append_right _ h)) hown hK hP 0 rfl rfl 3 (by decide) (hts (.fieldLink RX7 136 "CrownTableModel" "at" "I") (mem_i 1 rfl)) (fun _ h9 => h9) rfl dX7_advance_54 ?_
          refine va_put (D := D) (ci := 7) (v := .int M_self_at) (ty := .int) (C := RX7) (T := TX7) (N := 56) hx hb hts (fun _ h => List.mem_cons_of_mem _ (List.mem_append_right _ h)) tyX7 tyX7_ok nmX7 hown hK hP hD hS 0 rfl rfl 5 (by decide) (hts (.fieldLink RX7 139 "CrownTableModel" "tkAt" "I") (mem_i 4 rfl)) (fun _ h9 => h9) rfl (by decide +kernel) rfl rfl (Nat.le_of_ble_eq_true rfl) dX7_advance_57 (fun H locs hP hD hS => ?_)
          have hP : va_P D vwCl [(A_self, .inr (7, o7 q (upd (upd v 3 M_self_at) 5 M_self_at) w)), (q 1, .inl (c 0, 800, .inl f_tape))] H := hP
          have hD : va_D A [(A_self, .inr (7, o7 q (upd (upd v 3 M_self_at) 5 M_self_at) w)), (q 1, .inl (c 0, 800, .inl f_tape))] := hD
          refine lv_aload_n hx hb dX7_advance_60 rfl (lv_at hl 0 rfl) ?_
          refine va_get (D := D) (ci := 7) (v := .int M_self_at) (C := RX7) (T := TX7) (N := 56) hx hb hts (fun _ h => List.mem_cons_of_mem _ (List.mem_append_right _ h)) hown hK hP 0 rfl rfl 3 (by decide) (hts (.fieldLink RX7 136 "CrownTableModel" "at" "I") (mem_i 1 rfl)) (fun _ h9 => h9) rfl dX7_advance_61 ?_
          refine lv_aload_n hx hb dX7_advance_64 rfl (lv_at hl 0 rfl) ?_
          refine va_get (D := D) (ci := 7) (v := .int (v 2)) (C := RX7) (T := TX7) (N := 56) hx hb hts (fun _ h => List.mem_cons_of_mem _ (List.mem_append_right _ h)) hown hK hP 0 rfl rfl 2 (by decide) (hts (.fieldLink RX7 125 "CrownTableModel" "taped" "I") (mem_i 2 rfl)) (fun _ h9 => h9) rfl dX7_advance_65 ?_
          refine iicmp_ne (a := M_self_at.toInt) (b := (v 2).toInt) (tgt := 77) hx hb rfl rfl dX7_advance_68 (by decide) (fun k_65 => ?_) (fun k_65 => ?_)
          · skip
            refine lv_aload_n hx hb dX7_advance_77 rfl (lv_at hl 0 rfl) ?_
            refine va_get (D := D) (ci := 7) (v := .ref (q 1)) (C := RX7) (T := TX7) (N := 56) hx hb hts (fun _ h => List.mem_cons_of_mem _ (List.mem_append_right _ h)) hown hK hP 0 rfl rfl 1 (by decide) (hts (.fieldLink RX7 7 "CrownTableModel" "tape" "[B") (mem_i 3 rfl)) (fun _ h9 => h9) rfl dX7_advance_78 ?_
            refine lv_aload_n hx hb dX7_advance_81 rfl (lv_at hl 0 rfl) ?_
            refine va_get (D := D) (ci := 7) (v := .int M_self_at) (C := RX7) (T := TX7) (N := 56) hx hb hts (fun _ h => List.mem_cons_of_mem _ (List.mem_append_right _ h)) hown hK hP 0 rfl rfl 3 (by decide) (hts (.fieldLink RX7 136 "CrownTableModel" "at" "I") (mem_i 1 rfl)) (fun _ h9 => h9) rfl dX7_advance_82 ?_
            refine va_bald hx hb hK hP 1 0 rfl rfl (vin (a := M_self_at.toInt) rfl (by omega) (by omega)) dX7_advance_85 ?_
            refine lv_topi (fun x_66 ex_66 => ?_)
            have lf_67 : (f_tape M_self_at.toInt.toNat).toInt = x_66.toInt := by rw [ex_66, clampN (x := M_self_at) rfl]
            refine lv_istore_n (lv' := [(1, .int x_66), (0, .ref A_self)]) hx hb dX7_advance_86 rfl hl (by decide) rfl (fun ls hl => ?_)
            refine lv_iload_n hx hb dX7_advance_87 rfl (lv_at hl 0 rfl) ?_
            have hPc := hP.sub (ws' := []) [] rfl
            have hDc := hD.sub (ws' := []) [] (by decide) rfl
            have hFc := va_free (wc := []) hD hS hA [] rfl
            refine va_csi (va_runS (As := [.int x_66]) (rest := []) ⟨hx, hb, hml, hown, hts⟩ (k_X7_isLetter l D c ts H.size x_66 x_66.toInt rfl) (cwS 1 hts gX7_advance_X7_isLetter rfl rfl rfl ⟨rfl, hdX7_isLetter⟩ ⟨(show 0 + 1 ≤ 1 by decide), (show 8 + (1 + 11) + 0 ≤ 21 by decide)⟩) ⟨Pre0.blind, Pre0.at hPc hDc hAm hSt hS hFc⟩ rfl rfl hl.1 rfl (lv_room (Nat.le_of_ble_eq_true rfl)) dX7_advance_88 ⟨(show 0 + 0 ≤ 0 by decide), (show 0 + 0 ≤ 0 by decide)⟩) (fun r_69 hw_68 => ?_)
            rcases hw_68 with ⟨hw_68, rfl⟩ | ⟨hw_68, rfl⟩
            · skip
              refine iif_eqF (a := 1) (tgt := 183) hx hb (by decide) dX7_advance_91 (by decide) (by decide) ?_
              refine lv_lconst (v := 0) hx hb dX7_advance_94 (by decide) ?_
              refine lv_lstore_n (lv' := [(2, .long 0), (1, .int x_66), (0, .ref A_self)]) hx hb dX7_advance_95 rfl hl (by decide) rfl (fun ls hl => ?_)
              refine lv_iconst (v := 0) hx hb dX7_advance_96 (by decide) ?_
              refine lv_istore (lv' := [(4, .int 0), (2, .long 0), (1, .int x_66), (0, .ref A_self)]) hx hb dX7_advance_97 hl (by decide) rfl (fun ls hl => ?_)
              have lp_99 : ∀ (N : Nat) (L2 : Int64) (L4 : Int32) (M_self_at_99 : Int32) (hf99_0 : 0 ≤ L4.toInt) (hf99_1 : L4.toInt ≤ 800) (hf99_2 : (v 3).toInt ≤ M_self_at.toInt ∧ M_self_at.toInt ≤ M_self_at_99.toInt ∧ M_self_at_99.toInt ≤ (v 2).toInt) (hf99_3 : M_self_at.toInt + 1 ≤ M_self_at_99.toInt ∨ (M_self_at_99.toInt = M_self_at.toInt ∧ M_self_at_99.toInt < (v 2).toInt ∧ 97 ≤ (f_tape (M_self_at_99.toInt).toNat).toInt ∧ (f_tape (M_self_at_99.toInt).toNat).toInt ≤ 122)) (hf99_4 : L4.toInt ≤ M_self_at_99.toInt) (hN99 : (800 - M_self_at_99.toInt).toNat = N) (H : Heap) (locs : List Loc) (ls : Array Slot), va_P D vwCl [(A_self, .inr (7, o7 q (upd (upd v 3 M_self_at_99) 5 M_self_at) w)), (q 1, .inl (c 0, 800, .inl f_tape))] H → va_D A [(A_self, .inr (7, o7 q (upd (upd v 3 M_self_at_99) 5 M_self_at) w)), (q 1, .inl (c 0, 800, .inl f_tape))] → va_S A s.heap H locs → lv_has ls 5 [(1, .int x_66), (0, .ref A_self), (2, .long L2), (4, .int L4)] → W p l e (headSpec wsX7_advance ({ frames := 1, cells := 0, slots := 0, locals := 21 })).room s m (([.ref A_self] : List Value).toArray) below meth cd H locs 0 0 (MQ below (va_Qv (fun (u : Int32 × Int32 × Int32 × Int32 × Int32 × Unit) => ((v 3).toInt ≤ u.2.2.1.toInt ∧ u.2.2.1.toInt ≤ u.1.toInt ∧ u.1.toInt ≤ (v 2).toInt) ∧ (u.2.1.toInt = 0 ∨ u.2.2.1.toInt + 1 ≤ u.1.toInt)) (fun u t => va_P D vwCl [(A_self, .inr (7, o7 q (upd (upd (upd (upd (upd v 3 u.1) 4 u.2.1) 5 u.2.2.1) 6 u.2.2.2.1) 7 u.2.2.2.2.1) w)), (q 1, .inl (c 0, 800, .inl f_tape))] t.heap ∧ va_D A [(A_self, .inr (7, o7 q (upd (upd (upd (upd (upd v 3 u.1) 4 u.2.1) 5 u.2.2.1) 6 u.2.2.2.1) 7 u.2.2.2.2.1) w)), (q 1, .inl (c 0, 800, .inl f_tape))]) A) ([.ref A_self] : List Value).toArray s 0 0 A) (F0 m 99 ls []) := by
                refine st_ind (fun N ih99 => ?_)
                intro L2 L4 M_self_at_99 hf99_0 hf99_1 hf99_2 hf99_3 hf99_4 hN99 H locs ls hP hD hS hl
                have rg_M_self_at_99 := i32r M_self_at_99
                refine lv_aload_n hx hb dX7_advance_99 rfl (lv_at hl 1 rfl) ?_
                refine va_get (D := D) (ci := 7) (v := .int M_self_at_99) (C := RX7) (T := TX7) (N := 56) hx hb hts (fun _ h => List.mem_cons_of_mem _ (List.mem_append_right _ h)) hown hK hP 0 rfl rfl 3 (by decide) (hts (.fieldLink RX7 136 "CrownTableModel" "at" "I") (mem_i 1 rfl)) (fun _ h9 => h9) rfl dX7_advance_100 ?_
                refine lv_aload_n hx hb dX7_advance_103 rfl (lv_at hl 1 rfl) ?_
                refine va_get (D := D) (ci := 7) (v := .int (v 2)) (C := RX7) (T := TX7) (N := 56) hx hb hts (fun _ h => List.mem_cons_of_mem _ (List.mem_append_right _ h)) hown hK hP 0 rfl rfl 2 (by decide) (hts (.fieldLink RX7 125 "CrownTableModel" "taped" "I") (mem_i 2 rfl)) (fun _ h9 => h9) rfl dX7_advance_104 ?_
                refine iicmp_ge (a := M_self_at_99.toInt) (b := (v 2).toInt) (tgt := 162) hx hb rfl rfl dX7_advance_107 (by decide) (fun k_70 => ?_) (fun k_70 => ?_)
                · skip
                  refine lv_aload_n hx hb dX7_advance_162 rfl (lv_at hl 1 rfl) ?_
                  refine lv_iload hx hb dX7_advance_163 (lv_at hl 3 rfl) ?_
                  refine lv_bipush (v := 7) hx hb dX7_advance_165 (by decide) ?_
                  refine iicmp_le (a := L4.toInt) (b := 7) (tgt := 175) hx hb rfl (by decide) dX7_advance_167 (by decide) (fun k_71 => ?_) (fun k_71 => ?_)
                  · skip
                    refine lv_lload_n hx hb dX7_advance_175 rfl (lv_at hl 2 rfl) ?_
                    have hPc := hP.sub (ws' := []) [] rfl
                    have hDc := hD.sub (ws' := []) [] (by decide) rfl
                    have hFc := va_free (wc := []) hD hS hA [] rfl
                    refine va_csi (va_runS (As := [.long L2]) (rest := [.ref A_self]) ⟨hx, hb, hml, hown, hts⟩ (k_X7_wordOf l D c ts H.size L2) (cwS 1 hts gX7_advance_X7_wordOf rfl rfl rfl ⟨rfl, hdX7_wordOf⟩ ⟨(show 0 + 1 ≤ 1 by decide), (show 8 + (2 + 11) + 0 ≤ 21 by decide)⟩) ⟨Pre0.blind, Pre0.at hPc hDc hAm hSt hS hFc⟩ rfl rfl hl.1 rfl (lv_room (Nat.le_of_ble_eq_true rfl)) dX7_advance_176 ⟨(show 0 + 0 ≤ 0 by decide), (show 0 + 0 ≤ 0 by decide)⟩) (fun r_73 hw_72 => ?_)
                    have rg_r_73 := i32r r_73
                    refine va_put (D := D) (ci := 7) (v := .int r_73) (ty := .int) (C := RX7) (T := TX7) (N := 56) hx hb hts (fun _ h => List.mem_cons_of_mem _ (List.mem_append_right _ h)) tyX7 tyX7_ok nmX7 hown hK hP hD hS 0 rfl rfl 4 (by decide) (hts (.fieldLink RX7 142 "CrownTableModel" "tk" "I") (mem_i 5 rfl)) (fun _ h9 => h9) rfl (by decide +kernel) rfl rfl (Nat.le_of_ble_eq_true rfl) dX7_advance_179 (fun H locs hP hD hS => ?_)
                    have hP : va_P D vwCl [(A_self, .inr (7, o7 q (upd (upd (upd v 3 M_self_at_99) 4 r_73) 5 M_self_at) w)), (q 1, .inl (c 0, 800, .inl f_tape))] H := hP
                    have hD : va_D A [(A_self, .inr (7, o7 q (upd (upd (upd v 3 M_self_at_99) 4 r_73) 5 M_self_at) w)), (q 1, .inl (c 0, 800, .inl f_tape))] := hD
                    have hP9 := hP.sub (ws' := [(A_self, .inr (7, o7 q (upd (upd (upd v 3 M_self_at_99) 4 r_73) 5 M_self_at) w)), (q 1, .inl (c 0, 800, .inl f_tape))]) [0, 1] rfl
                    have hD9 := hD.sub (ws' := [(A_self, .inr (7, o7 q (upd (upd (upd v 3 M_self_at_99) 4 r_73) 5 M_self_at) w)), (q 1, .inl (c 0, 800, .inl f_tape))]) [0, 1] (by decide) rfl
                    refine W.widen (k := 0) (n := 0) (by omega) (by omega) ?_
                    exact W.vret hx hb hr (fun t ht hW => ⟨⟨(M_self_at_99, r_73, M_self_at, (v 6), (v 7), ()), rfl, ⟨(show (v 3).toInt ≤ M_self_at.toInt ∧ M_self_at.toInt ≤ M_self_at_99.toInt ∧ M_self_at_99.toInt ≤ (v 2).toInt by omega), (show r_73.toInt = 0 ∨ M_self_at.toInt + 1 ≤ M_self_at_99.toInt by omega)⟩, ⟨by rw [ht]; exact hP9, hD9⟩⟩, hS.F ht⟩) hS.2.2 dX7_advance_182
                  · skip
                    refine lv_bipush (v := 51) hx hb dX7_advance_170 (by decide) ?_
                    refine lv_goto (tgt := 179) hx hb dX7_advance_172 (by decide) ?_
                    refine va_put (D := D) (ci := 7) (v := .int 51) (ty := .int) (C := RX7) (T := TX7) (N := 56) hx hb hts (fun _ h => List.mem_cons_of_mem _ (List.mem_append_right _ h)) tyX7 tyX7_ok nmX7 hown hK hP hD hS 0 rfl rfl 4 (by decide) (hts (.fieldLink RX7 142 "CrownTableModel" "tk" "I") (mem_i 5 rfl)) (fun _ h9 => h9) rfl (by decide +kernel) rfl rfl (Nat.le_of_ble_eq_true rfl) dX7_advance_179 (fun H locs hP hD hS => ?_)
                    have hP : va_P D vwCl [(A_self, .inr (7, o7 q (upd (upd (upd v 3 M_self_at_99) 4 51) 5 M_self_at) w)), (q 1, .inl (c 0, 800, .inl f_tape))] H := hP
                    have hD : va_D A [(A_self, .inr (7, o7 q (upd (upd (upd v 3 M_self_at_99) 4 51) 5 M_self_at) w)), (q 1, .inl (c 0, 800, .inl f_tape))] := hD
                    have kzz_74 : (51 : Int32).toInt = 51 := by decide
                    have hP9 := hP.sub (ws' := [(A_self, .inr (7, o7 q (upd (upd (upd v 3 M_self_at_99) 4 51) 5 M_self_at) w)), (q 1, .inl (c 0, 800, .inl f_tape))]) [0, 1] rfl
                    have hD9 := hD.sub (ws' := [(A_self, .inr (7, o7 q (upd (upd (upd v 3 M_self_at_99) 4 51) 5 M_self_at) w)), (q 1, .inl (c 0, 800, .inl f_tape))]) [0, 1] (by decide) rfl
                    refine W.widen (k := 0) (n := 0) (by omega) (by omega) ?_
                    exact W.vret hx hb hr (fun t ht hW => ⟨⟨(M_self_at_99, 51, M_self_at, (v 6), (v 7), ()), rfl, ⟨(show (v 3).toInt ≤ M_self_at.toInt ∧ M_self_at.toInt ≤ M_self_at_99.toInt ∧ M_self_at_99.toInt ≤ (v 2).toInt by omega), (show (51 : Int32).toInt = 0 ∨ M_self_at.toInt + 1 ≤ M_self_at_99.toInt by omega)⟩, ⟨by rw [ht]; exact hP9, hD9⟩⟩, hS.F ht⟩) hS.2.2 dX7_advance_182
                · skip
                  refine lv_aload_n hx hb dX7_advance_110 rfl (lv_at hl 1 rfl) ?_
                  refine va_get (D := D) (ci := 7) (v := .ref (q 1)) (C := RX7) (T := TX7) (N := 56) hx hb hts (fun _ h => List.mem_cons_of_mem _ (List.mem_append_right _ h)) hown hK hP 0 rfl rfl 1 (by decide) (hts (.fieldLink RX7 7 "CrownTableModel" "tape" "[B") (mem_i 3 rfl)) (fun _ h9 => h9) rfl dX7_advance_111 ?_
                  refine lv_aload_n hx hb dX7_advance_114 rfl (lv_at hl 1 rfl) ?_
                  refine va_get (D := D) (ci := 7) (v := .int M_self_at_99) (C := RX7) (T := TX7) (N := 56) hx hb hts (fun _ h => List.mem_cons_of_mem _ (List.mem_append_right _ h)) hown hK hP 0 rfl rfl 3 (by decide) (hts (.fieldLink RX7 136 "CrownTableModel" "at" "I") (mem_i 1 rfl)) (fun _ h9 => h9) rfl dX7_advance_115 ?_
                  refine va_bald hx hb hK hP 1 0 rfl rfl (vin (a := M_self_at_99.toInt) rfl (by omega) (by omega)) dX7_advance_118 ?_
                  refine lv_topi (fun x_75 ex_75 => ?_)
                  have lf_76 : (f_tape M_self_at_99.toInt.toNat).toInt = x_75.toInt := by rw [ex_75, clampN (x := M_self_at_99) rfl]
                  have hPc := hP.sub (ws' := []) [] rfl
                  have hDc := hD.sub (ws' := []) [] (by decide) rfl
                  have hFc := va_free (wc := []) hD hS hA [] rfl
                  refine va_csi (va_runS (As := [.int x_75]) (rest := []) ⟨hx, hb, hml, hown, hts⟩ (k_X7_isLetter l D c ts H.size x_75 x_75.toInt rfl) (cwS 1 hts gX7_advance_X7_isLetter rfl rfl rfl ⟨rfl, hdX7_isLetter⟩ ⟨(show 0 + 1 ≤ 1 by decide), (show 8 + (1 + 11) + 0 ≤ 21 by decide)⟩) ⟨Pre0.blind, Pre0.at hPc hDc hAm hSt hS hFc⟩ rfl rfl hl.1 rfl (lv_room (Nat.le_of_ble_eq_true rfl)) dX7_advance_119 ⟨(show 0 + 0 ≤ 0 by decide), (show 0 + 0 ≤ 0 by decide)⟩) (fun r_78 hw_77 => ?_)
                  rcases hw_77 with ⟨hw_77, rfl⟩ | ⟨hw_77, rfl⟩
                  · skip
                    refine iif_eqF (a := 1) (tgt := 162) hx hb (by decide) dX7_advance_122 (by decide) (by decide) ?_
                    refine lv_lload_n hx hb dX7_advance_125 rfl (lv_at hl 2 rfl) ?_
                    refine lv_ldc2 (v := 27) hx hb hown (hts (.constantLong RX7 149 (27)) (mem_i 6 rfl)) dX7_advance_126 ?_
                    refine lv_lmul hx hb dX7_advance_129 ?_
                    refine lv_topl (fun x_79 ex_79 => ?_)
                    refine lv_aload_n hx hb dX7_advance_130 rfl (lv_at hl 1 rfl) ?_
                    refine va_get (D := D) (ci := 7) (v := .ref (q 1)) (C := RX7) (T := TX7) (N := 56) hx hb hts (fun _ h => List.mem_cons_of_mem _ (List.mem_append_right _ h)) hown hK hP 0 rfl rfl 1 (by decide) (hts (.fieldLink RX7 7 "CrownTableModel" "tape" "[B") (mem_i 3 rfl)) (fun _ h9 => h9) rfl dX7_advance_131 ?_
                    refine lv_aload_n hx hb dX7_advance_134 rfl (lv_at hl 1 rfl) ?_
                    refine va_get (D := D) (ci := 7) (v := .int M_self_at_99) (C := RX7) (T := TX7) (N := 56) hx hb hts (fun _ h => List.mem_cons_of_mem _ (List.mem_append_right _ h)) hown hK hP 0 rfl rfl 3 (by decide) (hts (.fieldLink RX7 136 "CrownTableModel" "at" "I") (mem_i 1 rfl)) (fun _ h9 => h9) rfl dX7_advance_135 ?_
                    refine va_bald hx hb hK hP 1 0 rfl rfl (vin (a := M_self_at_99.toInt) rfl (by omega) (by omega)) dX7_advance_138 ?_
                    refine lv_topi (fun x_80 ex_80 => ?_)
                    have lf_81 : (f_tape M_self_at_99.toInt.toNat).toInt = x_80.toInt := by rw [ex_80, clampN (x := M_self_at_99) rfl]
                    refine lv_i2l hx hb dX7_advance_139 rfl ?_
                    refine lv_ladd hx hb dX7_advance_140 ?_
                    refine lv_topl (fun x_82 ex_82 => ?_)
                    refine lv_ldc2 (v := 96) hx hb hown (hts (.constantLong RX7 151 (96)) (mem_i 7 rfl)) dX7_advance_141 ?_
                    refine lv_lsub hx hb dX7_advance_144 ?_
                    refine lv_topl (fun x_83 ex_83 => ?_)
                    refine lv_lstore_n (lv' := [(2, .long x_83), (1, .int x_66), (0, .ref A_self), (4, .int L4)]) hx hb dX7_advance_145 rfl hl (by decide) rfl (fun ls hl => ?_)
                    refine lv_aload_n hx hb dX7_advance_146 rfl (lv_at hl 2 rfl) ?_
                    refine lv_dup hx hb dX7_advance_147 rfl ?_
                    refine va_get (D := D) (ci := 7) (v := .int M_self_at_99) (C := RX7) (T := TX7) (N := 56) hx hb hts (fun _ h => List.mem_cons_of_mem _ (List.mem_append_right _ h)) hown hK hP 0 rfl rfl 3 (by decide) (hts (.fieldLink RX7 136 "CrownTableModel" "at" "I") (mem_i 1 rfl)) (fun _ h9 => h9) rfl dX7_advance_148 ?_
                    refine lv_iconst (v := 1) hx hb dX7_advance_151 (by decide) ?_
                    refine lv_iadd hx hb dX7_advance_152 ?_
                    refine lv_topi (fun x_84 ex_84 => ?_)
                    have tx_84 : x_84.toInt = (M_self_at_99.toInt + 1) := by rw [ex_84]; exact add_ti (a := M_self_at_99.toInt) (b := 1) rfl (by decide) (by omega) (by omega)
                    refine va_put (D := D) (ci := 7) (v := .int x_84) (ty := .int) (C := RX7) (T := TX7) (N := 56) hx hb hts (fun _ h => List.mem_cons_of_mem _ (List.mem_append_right _ h)) tyX7 tyX7_ok nmX7 hown hK hP hD hS 0 rfl rfl 3 (by decide) (hts (.fieldLink RX7 136 "CrownTableModel" "at" "I") (mem_i 1 rfl)) (fun _ h9 => h9) rfl (by decide +kernel) rfl rfl (Nat.le_of_ble_eq_true rfl) dX7_advance_153 (fun H locs hP hD hS => ?_)
                    have hP : va_P D vwCl [(A_self, .inr (7, o7 q (upd (upd v 3 x_84) 5 M_self_at) w)), (q 1, .inl (c 0, 800, .inl f_tape))] H := hP
                    have hD : va_D A [(A_self, .inr (7, o7 q (upd (upd v 3 x_84) 5 M_self_at) w)), (q 1, .inl (c 0, 800, .inl f_tape))] := hD
                    obtain ⟨x_85, ex_85⟩ : ∃ y : Int32, y = L4 + 1 := ⟨_, rfl⟩
                    have tx_85 : x_85.toInt = L4.toInt + 1 := by rw [ex_85]; exact add_ti (a := L4.toInt) (b := 1) rfl (by decide) (by omega) (by omega)
                    refine lv_iinc (v := x_85) (lv' := [(4, .int x_85), (2, .long x_83), (1, .int x_66), (0, .ref A_self)]) hx hb dX7_advance_156 hl (k := 3) rfl (by rw [ex_85]; rfl) (by decide) rfl (fun ls hl => ?_)
                    refine lv_goto (tgt := 99) hx hb dX7_advance_159 (by decide) ?_
                    have hl := lv_sub hl [2, 3, 1, 0] rfl
                    exact (ih99 ((800 - x_84.toInt).toNat) (by omega) x_83 x_85 x_84 (by omega) (by omega) (by omega) (by omega) (by omega) rfl _ _ _ hP hD hS hl)
                  · skip
                    refine iif_eqT (a := 0) (tgt := 162) hx hb (by decide) dX7_advance_122 (by decide) (by decide) ?_
                    refine lv_aload_n hx hb dX7_advance_162 rfl (lv_at hl 1 rfl) ?_
                    refine lv_iload hx hb dX7_advance_163 (lv_at hl 3 rfl) ?_
                    refine lv_bipush (v := 7) hx hb dX7_advance_165 (by decide) ?_
                    refine iicmp_le (a := L4.toInt) (b := 7) (tgt := 175) hx hb rfl (by decide) dX7_advance_167 (by decide) (fun k_86 => ?_) (fun k_86 => ?_)
                    · skip
                      refine lv_lload_n hx hb dX7_advance_175 rfl (lv_at hl 2 rfl) ?_
                      have hPc := hP.sub (ws' := []) [] rfl
                      have hDc := hD.sub (ws' := []) [] (by decide) rfl
                      have hFc := va_free (wc := []) hD hS hA [] rfl
                      refine va_csi (va_runS (As := [.long L2]) (rest := [.ref A_self]) ⟨hx, hb, hml, hown, hts⟩ (k_X7_wordOf l D c ts H.size L2) (cwS 1 hts gX7_advance_X7_wordOf rfl rfl rfl ⟨rfl, hdX7_wordOf⟩ ⟨(show 0 + 1 ≤ 1 by decide), (show 8 + (2 + 11) + 0 ≤ 21 by decide)⟩) ⟨Pre0.blind, Pre0.at hPc hDc hAm hSt hS hFc⟩ rfl rfl hl.1 rfl (lv_room (Nat.le_of_ble_eq_true rfl)) dX7_advance_176 ⟨(show 0 + 0 ≤ 0 by decide), (show 0 + 0 ≤ 0 by decide)⟩) (fun r_88 hw_87 => ?_)
                      have rg_r_88 := i32r r_88
                      refine va_put (D := D) (ci := 7) (v := .int r_88) (ty := .int) (C := RX7) (T := TX7) (N := 56) hx hb hts (fun _ h => List.mem_cons_of_mem _ (List.mem_append_right _ h)) tyX7 tyX7_ok nmX7 hown hK hP hD hS 0 rfl rfl 4 (by decide) (hts (.fieldLink RX7 142 "CrownTableModel" "tk" "I") (mem_i 5 rfl)) (fun _ h9 => h9) rfl (by decide +kernel) rfl rfl (Nat.le_of_ble_eq_true rfl) dX7_advance_179 (fun H locs hP hD hS => ?_)
                      have hP : va_P D vwCl [(A_self, .inr (7, o7 q (upd (upd (upd v 3 M_self_at_99) 4 r_88) 5 M_self_at) w)), (q 1, .inl (c 0, 800, .inl f_tape))] H := hP
                      have hD : va_D A [(A_self, .inr (7, o7 q (upd (upd (upd v 3 M_self_at_99) 4 r_88) 5 M_self_at) w)), (q 1, .inl (c 0, 800, .inl f_tape))] := hD
                      have hP9 := hP.sub (ws' := [(A_self, .inr (7, o7 q (upd (upd (upd v 3 M_self_at_99) 4 r_88) 5 M_self_at) w)), (q 1, .inl (c 0, 800, .inl f_tape))]) [0, 1] rfl
                      have hD9 := hD.sub (ws' := [(A_self, .inr (7, o7 q (upd (upd (upd v 3 M_self_at_99) 4 r_88) 5 M_self_at) w)), (q 1, .inl (c 0, 800, .inl f_tape))]) [0, 1] (by decide) rfl
                      refine W.widen (k := 0) (n := 0) (by omega) (by omega) ?_
                      exact W.vret hx hb hr (fun t ht hW => ⟨⟨(M_self_at_99, r_88, M_self_at, (v 6), (v 7), ()), rfl, ⟨(show (v 3).toInt ≤ M_self_at.toInt ∧ M_self_at.toInt ≤ M_self_at_99.toInt ∧ M_self_at_99.toInt ≤ (v 2).toInt by omega), (show r_88.toInt = 0 ∨ M_self_at.toInt + 1 ≤ M_self_at_99.toInt by omega)⟩, ⟨by rw [ht]; exact hP9, hD9⟩⟩, hS.F ht⟩) hS.2.2 dX7_advance_182
                    · skip
                      refine lv_bipush (v := 51) hx hb dX7_advance_170 (by decide) ?_
                      refine lv_goto (tgt := 179) hx hb dX7_advance_172 (by decide) ?_
                      refine va_put (D := D) (ci := 7) (v := .int 51) (ty := .int) (C := RX7) (T := TX7) (N := 56) hx hb hts (fun _ h => List.mem_cons_of_mem _ (List.mem_append_right _ h)) tyX7 tyX7_ok nmX7 hown hK hP hD hS 0 rfl rfl 4 (by decide) (hts (.fieldLink RX7 142 "CrownTableModel" "tk" "I") (mem_i 5 rfl)) (fun _ h9 => h9) rfl (by decide +kernel) rfl rfl (Nat.le_of_ble_eq_true rfl) dX7_advance_179 (fun H locs hP hD hS => ?_)
                      have hP : va_P D vwCl [(A_self, .inr (7, o7 q (upd (upd (upd v 3 M_self_at_99) 4 51) 5 M_self_at) w)), (q 1, .inl (c 0, 800, .inl f_tape))] H := hP
                      have hD : va_D A [(A_self, .inr (7, o7 q (upd (upd (upd v 3 M_self_at_99) 4 51) 5 M_self_at) w)), (q 1, .inl (c 0, 800, .inl f_tape))] := hD
                      have kzz_89 : (51 : Int32).toInt = 51 := by decide
                      have hP9 := hP.sub (ws' := [(A_self, .inr (7, o7 q (upd (upd (upd v 3 M_self_at_99) 4 51) 5 M_self_at) w)), (q 1, .inl (c 0, 800, .inl f_tape))]) [0, 1] rfl
                      have hD9 := hD.sub (ws' := [(A_self, .inr (7, o7 q (upd (upd (upd v 3 M_self_at_99) 4 51) 5 M_self_at) w)), (q 1, .inl (c 0, 800, .inl f_tape))]) [0, 1] (by decide) rfl
                      refine W.widen (k := 0) (n := 0) (by omega) (by omega) ?_
                      exact W.vret hx hb hr (fun t ht hW => ⟨⟨(M_self_at_99, 51, M_self_at, (v 6), (v 7), ()), rfl, ⟨(show (v 3).toInt ≤ M_self_at.toInt ∧ M_self_at.toInt ≤ M_self_at_99.toInt ∧ M_self_at_99.toInt ≤ (v 2).toInt by omega), (show (51 : Int32).toInt = 0 ∨ M_self_at.toInt + 1 ≤ M_self_at_99.toInt by omega)⟩, ⟨by rw [ht]; exact hP9, hD9⟩⟩, hS.F ht⟩) hS.2.2 dX7_advance_182
              have kzz_90 : (0 : Int32).toInt = 0 := by decide
              have hl := lv_sub hl [2, 3, 1, 0] rfl
              exact (lp_99 _ 0 0 M_self_at (by omega) (by omega) (by omega) (by omega) (by omega) rfl _ _ _ hP hD hS hl)
            · skip
              refine iif_eqT (a := 0) (tgt := 183) hx hb (by decide) dX7_advance_91 (by decide) (by decide) ?_
              refine lv_iload_n hx hb dX7_advance_183 rfl (lv_at hl 0 rfl) ?_
              have hPc := hP.sub (ws' := []) [] rfl
              have hDc := hD.sub (ws' := []) [] (by decide) rfl
              have hFc := va_free (wc := []) hD hS hA [] rfl
              refine va_csi (va_runS (As := [.int x_66]) (rest := []) ⟨hx, hb, hml, hown, hts⟩ (k_X7_isDigit l D c ts H.size x_66 x_66.toInt rfl) (cwS 1 hts gX7_advance_X7_isDigit rfl rfl rfl ⟨rfl, hdX7_isDigit⟩ ⟨(show 0 + 1 ≤ 1 by decide), (show 8 + (1 + 11) + 0 ≤ 21 by decide)⟩) ⟨Pre0.blind, Pre0.at hPc hDc hAm hSt hS hFc⟩ rfl rfl hl.1 rfl (lv_room (Nat.le_of_ble_eq_true rfl)) dX7_advance_184 ⟨(show 0 + 0 ≤ 0 by decide), (show 0 + 0 ≤ 0 by decide)⟩) (fun r_92 hw_91 => ?_)
              rcases hw_91 with ⟨hw_91, rfl⟩ | ⟨hw_91, rfl⟩
              · skip
                refine iif_eqF (a := 1) (tgt := 296) hx hb (by decide) dX7_advance_187 (by decide) (by decide) ?_
                refine lv_aload_n hx hb dX7_advance_190 rfl (lv_at hl 1 rfl) ?_
                refine lv_iconst (v := 0) hx hb dX7_advance_191 (by decide) ?_
                refine va_put (D := D) (ci := 7) (v := .int 0) (ty := .int) (C := RX7) (T := TX7) (N := 56) hx hb hts (fun _ h => List.mem_cons_of_mem _ (List.mem_append_right _ h)) tyX7 tyX7_ok nmX7 hown hK hP hD hS 0 rfl rfl 6 (by decide) (hts (.fieldLink RX7 160 "CrownTableModel" "tkNumber" "I") (mem_i 8 rfl)) (fun _ h9 => h9) rfl (by decide +kernel) rfl rfl (Nat.le_of_ble_eq_true rfl) dX7_advance_192 (fun H locs hP hD hS => ?_)
                have hP : va_P D vwCl [(A_self, .inr (7, o7 q (upd (upd (upd v 3 M_self_at) 5 M_self_at) 6 0) w)), (q 1, .inl (c 0, 800, .inl f_tape))] H := hP
                have hD : va_D A [(A_self, .inr (7, o7 q (upd (upd (upd v 3 M_self_at) 5 M_self_at) 6 0) w)), (q 1, .inl (c 0, 800, .inl f_tape))] := hD
                refine lv_aload_n hx hb dX7_advance_195 rfl (lv_at hl 1 rfl) ?_
                refine lv_iconst (v := 0) hx hb dX7_advance_196 (by decide) ?_
                refine va_put (D := D) (ci := 7) (v := .int 0) (ty := .int) (C := RX7) (T := TX7) (N := 56) hx hb hts (fun _ h => List.mem_cons_of_mem _ (List.mem_append_right _ h)) tyX7 tyX7_ok nmX7 hown hK hP hD hS 0 rfl rfl 7 (by decide) (hts (.fieldLink RX7 163 "CrownTableModel" "tkDigits" "I") (mem_i 9 rfl)) (fun _ h9 => h9) rfl (by decide +kernel) rfl rfl (Nat.le_of_ble_eq_true rfl) dX7_advance_197 (fun H locs hP hD hS => ?_)
                have hP : va_P D vwCl [(A_self, .inr (7, o7 q (upd (upd (upd (upd v 3 M_self_at) 5 M_self_at) 6 0) 7 0) w)), (q 1, .inl (c 0, 800, .inl f_tape))] H := hP
                have hD : va_D A [(A_self, .inr (7, o7 q (upd (upd (upd (upd v 3 M_self_at) 5 M_self_at) 6 0) 7 0) w)), (q 1, .inl (c 0, 800, .inl f_tape))] := hD
                have lp_200 : ∀ (N : Nat) (M_self_at_200 : Int32) (M_self_tkNumber : Int32) (M_self_tkDigits : Int32) (hf200_0 : (v 3).toInt ≤ M_self_at.toInt ∧ M_self_at.toInt ≤ M_self_at_200.toInt ∧ M_self_at_200.toInt ≤ (v 2).toInt) (hf200_1 : M_self_at.toInt + 1 ≤ M_self_at_200.toInt ∨ (M_self_at_200.toInt = M_self_at.toInt ∧ M_self_at_200.toInt < (v 2).toInt ∧ 48 ≤ (f_tape (M_self_at_200.toInt).toNat).toInt ∧ (f_tape (M_self_at_200.toInt).toNat).toInt ≤ 57)) (hN200 : (800 - M_self_at_200.toInt).toNat = N) (H : Heap) (locs : List Loc) (ls : Array Slot), va_P D vwCl [(A_self, .inr (7, o7 q (upd (upd (upd (upd v 3 M_self_at_200) 5 M_self_at) 6 M_self_tkNumber) 7 M_self_tkDigits) w)), (q 1, .inl (c 0, 800, .inl f_tape))] H → va_D A [(A_self, .inr (7, o7 q (upd (upd (upd (upd v 3 M_self_at_200) 5 M_self_at) 6 M_self_tkNumber) 7 M_self_tkDigits) w)), (q 1, .inl (c 0, 800, .inl f_tape))] → va_S A s.heap H locs → lv_has ls 5 [(1, .int x_66), (0, .ref A_self)] → W p l e (headSpec wsX7_advance ({ frames := 1, cells := 0, slots := 0, locals := 21 })).room s m (([.ref A_self] : List Value).toArray) below meth cd H locs 0 0 (MQ below (va_Qv (fun (u : Int32 × Int32 × Int32 × Int32 × Int32 × Unit) => ((v 3).toInt ≤ u.2.2.1.toInt ∧ u.2.2.1.toInt ≤ u.1.toInt ∧ u.1.toInt ≤ (v 2).toInt) ∧ (u.2.1.toInt = 0 ∨ u.2.2.1.toInt + 1 ≤ u.1.toInt)) (fun u t => va_P D vwCl [(A_self, .inr (7, o7 q (upd (upd (upd (upd (upd v 3 u.1) 4 u.2.1) 5 u.2.2.1) 6 u.2.2.2.1) 7 u.2.2.2.2.1) w)), (q 1, .inl (c 0, 800, .inl f_tape))] t.heap ∧ va_D A [(A_self, .inr (7, o7 q (upd (upd (upd (upd (upd v 3 u.1) 4 u.2.1) 5 u.2.2.1) 6 u.2.2.2.1) 7 u.2.2.2.2.1) w)), (q 1, .inl (c 0, 800, .inl f_tape))]) A) ([.ref A_self] : List Value).toArray s 0 0 A) (F0 m 200 ls []) := by
                  refine st_ind (fun N ih200 => ?_)
                  intro M_self_at_200 M_self_tkNumber M_self_tkDigits hf200_0 hf200_1 hN200 H locs ls hP hD hS hl
                  have rg_M_self_at_200 := i32r M_self_at_200
                  have rg_M_self_tkNumber := i32r M_self_tkNumber
                  have rg_M_self_tkDigits := i32r M_self_tkDigits
                  refine lv_aload_n hx hb dX7_advance_200 rfl (lv_at hl 1 rfl) ?_
                  refine va_get (D := D) (ci := 7) (v := .int M_self_at_200) (C := RX7) (T := TX7) (N := 56) hx hb hts (fun _ h => List.mem_cons_of_mem _ (List.mem_append_right _ h)) hown hK hP 0 rfl rfl 3 (by decide) (hts (.fieldLink RX7 136 "CrownTableModel" "at" "I") (mem_i 1 rfl)) (fun _ h9 => h9) rfl dX7_advance_201 ?_
                  refine lv_aload_n hx hb dX7_advance_204 rfl (lv_at hl 1 rfl) ?_
                  refine va_get (D := D) (ci := 7) (v := .int (v 2)) (C := RX7) (T := TX7) (N := 56) hx hb hts (fun _ h => List.mem_cons_of_mem _ (List.mem_append_right _ h)) hown hK hP 0 rfl rfl 2 (by decide) (hts (.fieldLink RX7 125 "CrownTableModel" "taped" "I") (mem_i 2 rfl)) (fun _ h9 => h9) rfl dX7_advance_205 ?_
                  refine iicmp_ge (a := M_self_at_200.toInt) (b := (v 2).toInt) (tgt := 289) hx hb rfl rfl dX7_advance_208 (by decide) (fun k_93 => ?_) (fun k_93 => ?_)
                  · skip
                    refine lv_aload_n hx hb dX7_advance_289 rfl (lv_at hl 1 rfl) ?_
                    refine lv_bipush (v := 50) hx hb dX7_advance_290 (by decide) ?_
                    refine va_put (D := D) (ci := 7) (v := .int 50) (ty := .int) (C := RX7) (T := TX7) (N := 56) hx hb hts (fun _ h => List.mem_cons_of_mem _ (List.mem_append_right _ h)) tyX7 tyX7_ok nmX7 hown hK hP hD hS 0 rfl rfl 4 (by decide) (hts (.fieldLink RX7 142 "CrownTableModel" "tk" "I") (mem_i 5 rfl)) (fun _ h9 => h9) rfl (by decide +kernel) rfl rfl (Nat.le_of_ble_eq_true rfl) dX7_advance_292 (fun H locs hP hD hS => ?_)
                    have hP : va_P D vwCl [(A_self, .inr (7, o7 q (upd (upd (upd (upd (upd v 3 M_self_at_200) 4 50) 5 M_self_at) 6 M_self_tkNumber) 7 M_self_tkDigits) w)), (q 1, .inl (c 0, 800, .inl f_tape))] H := hP
                    have hD : va_D A [(A_self, .inr (7, o7 q (upd (upd (upd (upd (upd v 3 M_self_at_200) 4 50) 5 M_self_at) 6 M_self_tkNumber) 7 M_self_tkDigits) w)), (q 1, .inl (c 0, 800, .inl f_tape))] := hD
                    have kzz_94 : (50 : Int32).toInt = 50 := by decide
                    have hP9 := hP.sub (ws' := [(A_self, .inr (7, o7 q (upd (upd (upd (upd (upd v 3 M_self_at_200) 4 50) 5 M_self_at) 6 M_self_tkNumber) 7 M_self_tkDigits) w)), (q 1, .inl (c 0, 800, .inl f_tape))]) [0, 1] rfl
                    have hD9 := hD.sub (ws' := [(A_self, .inr (7, o7 q (upd (upd (upd (upd (upd v 3 M_self_at_200) 4 50) 5 M_self_at) 6 M_self_tkNumber) 7 M_self_tkDigits) w)), (q 1, .inl (c 0, 800, .inl f_tape))]) [0, 1] (by decide) rfl
                    refine W.widen (k := 0) (n := 0) (by omega) (by omega) ?_
                    exact W.vret hx hb hr (fun t ht hW => ⟨⟨(M_self_at_200, 50, M_self_at, M_self_tkNumber, M_self_tkDigits, ()), rfl, ⟨(show (v 3).toInt ≤ M_self_at.toInt ∧ M_self_at.toInt ≤ M_self_at_200.toInt ∧ M_self_at_200.toInt ≤ (v 2).toInt by omega), (show (50 : Int32).toInt = 0 ∨ M_self_at.toInt + 1 ≤ M_self_at_200.toInt by omega)⟩, ⟨by rw [ht]; exact hP9, hD9⟩⟩, hS.F ht⟩) hS.2.2 dX7_advance_295
                  · skip
                    refine lv_aload_n hx hb dX7_advance_211 rfl (lv_at hl 1 rfl) ?_
                    refine va_get (D := D) (ci := 7) (v := .ref (q 1)) (C := RX7) (T := TX7) (N := 56) hx hb hts (fun _ h => List.mem_cons_of_mem _ (List.mem_append_right _ h)) hown hK hP 0 rfl rfl 1 (by decide) (hts (.fieldLink RX7 7 "CrownTableModel" "tape" "[B") (mem_i 3 rfl)) (fun _ h9 => h9) rfl dX7_advance_212 ?_
                    refine lv_aload_n hx hb dX7_advance_215 rfl (lv_at hl 1 rfl) ?_
                    refine va_get (D := D) (ci := 7) (v := .int M_self_at_200) (C := RX7) (T := TX7) (N := 56) hx hb hts (fun _ h => List.mem_cons_of_mem _ (List.mem_append_right _ h)) hown hK hP 0 rfl rfl 3 (by decide) (hts (.fieldLink RX7 136 "CrownTableModel" "at" "I") (mem_i 1 rfl)) (fun _ h9 => h9) rfl dX7_advance_216 ?_
                    refine va_bald hx hb hK hP 1 0 rfl rfl (vin (a := M_self_at_200.toInt) rfl (by omega) (by omega)) dX7_advance_219 ?_
                    refine lv_topi (fun x_95 ex_95 => ?_)
                    have lf_96 : (f_tape M_self_at_200.toInt.toNat).toInt = x_95.toInt := by rw [ex_95, clampN (x := M_self_at_200) rfl]
                    have hPc := hP.sub (ws' := []) [] rfl
                    have hDc := hD.sub (ws' := []) [] (by decide) rfl
                    have hFc := va_free (wc := []) hD hS hA [] rfl
                    refine va_csi (va_runS (As := [.int x_95]) (rest := []) ⟨hx, hb, hml, hown, hts⟩ (k_X7_isDigit l D c ts H.size x_95 x_95.toInt rfl) (cwS 1 hts gX7_advance_X7_isDigit rfl rfl rfl ⟨rfl, hdX7_isDigit⟩ ⟨(show 0 + 1 ≤ 1 by decide), (show 8 + (1 + 11) + 0 ≤ 21 by decide)⟩) ⟨Pre0.blind, Pre0.at hPc hDc hAm hSt hS hFc⟩ rfl rfl hl.1 rfl (lv_room (Nat.le_of_ble_eq_true rfl)) dX7_advance_220 ⟨(show 0 + 0 ≤ 0 by decide), (show 0 + 0 ≤ 0 by decide)⟩) (fun r_98 hw_97 => ?_)
                    rcases hw_97 with ⟨hw_97, rfl⟩ | ⟨hw_97, rfl⟩
                    · skip
                      refine iif_eqF (a := 1) (tgt := 289) hx hb (by decide) dX7_advance_223 (by decide) (by decide) ?_
                      refine lv_aload_n hx hb dX7_advance_226 rfl (lv_at hl 1 rfl) ?_
                      have lp_263 : ∀ (K0 : Int32) (H : Heap) (locs : List Loc) (ls : Array Slot), va_P D vwCl [(A_self, .inr (7, o7 q (upd (upd (upd (upd v 3 M_self_at_200) 5 M_self_at) 6 M_self_tkNumber) 7 M_self_tkDigits) w)), (q 1, .inl (c 0, 800, .inl f_tape))] H → va_D A [(A_self, .inr (7, o7 q (upd (upd (upd (upd v 3 M_self_at_200) 5 M_self_at) 6 M_self_tkNumber) 7 M_self_tkDigits) w)), (q 1, .inl (c 0, 800, .inl f_tape))] → va_S A s.heap H locs → lv_has ls 5 [(1, .int x_66), (0, .ref A_self)] → W p l e (headSpec wsX7_advance ({ frames := 1, cells := 0, slots := 0, locals := 21 })).room s m (([.ref A_self] : List Value).toArray) below meth cd H locs 0 0 (MQ below (va_Qv (fun (u : Int32 × Int32 × Int32 × Int32 × Int32 × Unit) => ((v 3).toInt ≤ u.2.2.1.toInt ∧ u.2.2.1.toInt ≤ u.1.toInt ∧ u.1.toInt ≤ (v 2).toInt) ∧ (u.2.1.toInt = 0 ∨ u.2.2.1.toInt + 1 ≤ u.1.toInt)) (fun u t => va_P D vwCl [(A_self, .inr (7, o7 q (upd (upd (upd (upd (upd v 3 u.1) 4 u.2.1) 5 u.2.2.1) 6 u.2.2.2.1) 7 u.2.2.2.2.1) w)), (q 1, .inl (c 0, 800, .inl f_tape))] t.heap ∧ va_D A [(A_self, .inr (7, o7 q (upd (upd (upd (upd (upd v 3 u.1) 4 u.2.1) 5 u.2.2.1) 6 u.2.2.2.1) 7 u.2.2.2.2.1) w)), (q 1, .inl (c 0, 800, .inl f_tape))]) A) ([.ref A_self] : List Value).toArray s 0 0 A) (F0 m 263 ls [.int K0, .ref A_self]) := by
                        intro K0 H locs ls hP hD hS hl
                        have rg_K0 := i32r K0
                        refine va_put (D := D) (ci := 7) (v := .int K0) (ty := .int) (C := RX7) (T := TX7) (N := 56) hx hb hts (fun _ h => List.mem_cons_of_mem _ (List.mem_append_right _ h)) tyX7 tyX7_ok nmX7 hown hK hP hD hS 0 rfl rfl 6 (by decide) (hts (.fieldLink RX7 160 "CrownTableModel" "tkNumber" "I") (mem_i 8 rfl)) (fun _ h9 => h9) rfl (by decide +kernel) rfl rfl (Nat.le_of_ble_eq_true rfl) dX7_advance_263 (fun H locs hP hD hS => ?_)
                        have hP : va_P D vwCl [(A_self, .inr (7, o7 q (upd (upd (upd (upd v 3 M_self_at_200) 5 M_self_at) 6 K0) 7 M_self_tkDigits) w)), (q 1, .inl (c 0, 800, .inl f_tape))] H := hP
                        have hD : va_D A [(A_self, .inr (7, o7 q (upd (upd (upd (upd v 3 M_self_at_200) 5 M_self_at) 6 K0) 7 M_self_tkDigits) w)), (q 1, .inl (c 0, 800, .inl f_tape))] := hD
                        refine lv_aload_n hx hb dX7_advance_266 rfl (lv_at hl 1 rfl) ?_
                        refine lv_dup hx hb dX7_advance_267 rfl ?_
                        refine va_get (D := D) (ci := 7) (v := .int M_self_tkDigits) (C := RX7) (T := TX7) (N := 56) hx hb hts (fun _ h => List.mem_cons_of_mem _ (List.mem_append_right _ h)) hown hK hP 0 rfl rfl 7 (by decide) (hts (.fieldLink RX7 163 "CrownTableModel" "tkDigits" "I") (mem_i 9 rfl)) (fun _ h9 => h9) rfl dX7_advance_268 ?_
                        refine lv_iconst (v := 1) hx hb dX7_advance_271 (by decide) ?_
                        refine lv_iadd hx hb dX7_advance_272 ?_
                        refine lv_topi (fun x_99 ex_99 => ?_)
                        refine va_put (D := D) (ci := 7) (v := .int x_99) (ty := .int) (C := RX7) (T := TX7) (N := 56) hx hb hts (fun _ h => List.mem_cons_of_mem _ (List.mem_append_right _ h)) tyX7 tyX7_ok nmX7 hown hK hP hD hS 0 rfl rfl 7 (by decide) (hts (.fieldLink RX7 163 "CrownTableModel" "tkDigits" "I") (mem_i 9 rfl)) (fun _ h9 => h9) rfl (by decide +kernel) rfl rfl (Nat.le_of_ble_eq_true rfl) dX7_advance_273 (fun H locs hP hD hS => ?_)
                        have hP : va_P D vwCl [(A_self, .inr (7, o7 q (upd (upd (upd (upd v 3 M_self_at_200) 5 M_self_at) 6 K0) 7 x_99) w)), (q 1, .inl (c 0, 800, .inl f_tape))] H := hP
                        have hD : va_D A [(A_self, .inr (7, o7 q (upd (upd (upd (upd v 3 M_self_at_200) 5 M_self_at) 6 K0) 7 x_99) w)), (q 1, .inl (c 0, 800, .inl f_tape))] := hD
                        refine lv_aload_n hx hb dX7_advance_276 rfl (lv_at hl 1 rfl) ?_
                        refine lv_dup hx hb dX7_advance_277 rfl ?_
                        refine va_get (D := D) (ci := 7) (v := .int M_self_at_200) (C := RX7) (T := TX7) (N := 56) hx hb hts (fun _ h => List.mem_cons_of_mem _ (List.mem_append_right _ h)) hown hK hP 0 rfl rfl 3 (by decide) (hts (.fieldLink RX7 136 "CrownTableModel" "at" "I") (mem_i 1 rfl)) (fun _ h9 => h9) rfl dX7_advance_278 ?_
                        refine lv_iconst (v := 1) hx hb dX7_advance_281 (by decide) ?_
                        refine lv_iadd hx hb dX7_advance_282 ?_
                        refine lv_topi (fun x_100 ex_100 => ?_)
                        have tx_100 : x_100.toInt = (M_self_at_200.toInt + 1) := by rw [ex_100]; exact add_ti (a := M_self_at_200.toInt) (b := 1) rfl (by decide) (by omega) (by omega)
                        refine va_put (D := D) (ci := 7) (v := .int x_100) (ty := .int) (C := RX7) (T := TX7) (N := 56) hx hb hts (fun _ h => List.mem_cons_of_mem _ (List.mem_append_right _ h)) tyX7 tyX7_ok nmX7 hown hK hP hD hS 0 rfl rfl 3 (by decide) (hts (.fieldLink RX7 136 "CrownTableModel" "at" "I") (mem_i 1 rfl)) (fun _ h9 => h9) rfl (by decide +kernel) rfl rfl (Nat.le_of_ble_eq_true rfl) dX7_advance_283 (fun H locs hP hD hS => ?_)
                        have hP : va_P D vwCl [(A_self, .inr (7, o7 q (upd (upd (upd (upd v 3 x_100) 5 M_self_at) 6 K0) 7 x_99) w)), (q 1, .inl (c 0, 800, .inl f_tape))] H := hP
                        have hD : va_D A [(A_self, .inr (7, o7 q (upd (upd (upd (upd v 3 x_100) 5 M_self_at) 6 K0) 7 x_99) w)), (q 1, .inl (c 0, 800, .inl f_tape))] := hD
                        refine lv_goto (tgt := 200) hx hb dX7_advance_286 (by decide) ?_
                        exact (ih200 ((800 - x_100.toInt).toNat) (by omega) x_100 K0 x_99 (by omega) (by omega) rfl _ _ _ hP hD hS hl)
                      refine lv_aload_n hx hb dX7_advance_227 rfl (lv_at hl 1 rfl) ?_
                      refine va_get (D := D) (ci := 7) (v := .int M_self_tkDigits) (C := RX7) (T := TX7) (N := 56) hx hb hts (fun _ h => List.mem_cons_of_mem _ (List.mem_append_right _ h)) hown hK hP 0 rfl rfl 7 (by decide) (hts (.fieldLink RX7 163 "CrownTableModel" "tkDigits" "I") (mem_i 9 rfl)) (fun _ h9 => h9) rfl dX7_advance_228 ?_
                      refine lv_bipush (v := 6) hx hb dX7_advance_231 (by decide) ?_
                      refine iicmp_ge (a := M_self_tkDigits.toInt) (b := 6) (tgt := 259) hx hb rfl (by decide) dX7_advance_233 (by decide) (fun k_101 => ?_) (fun k_101 => ?_)
                      · skip
                        refine lv_aload_n hx hb dX7_advance_259 rfl (lv_at hl 1 rfl) ?_
                        refine va_get (D := D) (ci := 7) (v := .int M_self_tkNumber) (C := RX7) (T := TX7) (N := 56) hx hb hts (fun _ h => List.mem_cons_of_mem _ (List.mem_append_right _ h)) hown hK hP 0 rfl rfl 6 (by decide) (hts (.fieldLink RX7 160 "CrownTableModel" "tkNumber" "I") (mem_i 8 rfl)) (fun _ h9 => h9) rfl dX7_advance_260 ?_
                        exact lp_263 M_self_tkNumber _ _ _ hP hD hS hl
                      · skip
                        refine lv_bipush (v := 10) hx hb dX7_advance_236 (by decide) ?_
                        refine lv_aload_n hx hb dX7_advance_238 rfl (lv_at hl 1 rfl) ?_
                        refine va_get (D := D) (ci := 7) (v := .int M_self_tkNumber) (C := RX7) (T := TX7) (N := 56) hx hb hts (fun _ h => List.mem_cons_of_mem _ (List.mem_append_right _ h)) hown hK hP 0 rfl rfl 6 (by decide) (hts (.fieldLink RX7 160 "CrownTableModel" "tkNumber" "I") (mem_i 8 rfl)) (fun _ h9 => h9) rfl dX7_advance_239 ?_
                        refine lv_imul hx hb dX7_advance_242 ?_
                        refine lv_topi (fun x_102 ex_102 => ?_)
                        refine lv_aload_n hx hb dX7_advance_243 rfl (lv_at hl 1 rfl) ?_
                        refine va_get (D := D) (ci := 7) (v := .ref (q 1)) (C := RX7) (T := TX7) (N := 56) hx hb hts (fun _ h => List.mem_cons_of_mem _ (List.mem_append_right _ h)) hown hK hP 0 rfl rfl 1 (by decide) (hts (.fieldLink RX7 7 "CrownTableModel" "tape" "[B") (mem_i 3 rfl)) (fun _ h9 => h9) rfl dX7_advance_244 ?_
                        refine lv_aload_n hx hb dX7_advance_247 rfl (lv_at hl 1 rfl) ?_
                        refine va_get (D := D) (ci := 7) (v := .int M_self_at_200) (C := RX7) (T := TX7) (N := 56) hx hb hts (fun _ h => List.mem_cons_of_mem _ (List.mem_append_right _ h)) hown hK hP 0 rfl rfl 3 (by decide) (hts (.fieldLink RX7 136 "CrownTableModel" "at" "I") (mem_i 1 rfl)) (fun _ h9 => h9) rfl dX7_advance_248 ?_
                        refine va_bald hx hb hK hP 1 0 rfl rfl (vin (a := M_self_at_200.toInt) rfl (by omega) (by omega)) dX7_advance_251 ?_
                        refine lv_topi (fun x_103 ex_103 => ?_)
                        have lf_104 : (f_tape M_self_at_200.toInt.toNat).toInt = x_103.toInt := by rw [ex_103, clampN (x := M_self_at_200) rfl]
                        refine lv_iadd hx hb dX7_advance_252 ?_
                        refine lv_topi (fun x_105 ex_105 => ?_)
                        refine lv_bipush (v := 48) hx hb dX7_advance_253 (by decide) ?_
                        refine lv_isub hx hb dX7_advance_255 ?_
                        refine lv_topi (fun x_106 ex_106 => ?_)
                        refine lv_goto (tgt := 263) hx hb dX7_advance_256 (by decide) ?_
                        exact lp_263 x_106 _ _ _ hP hD hS hl
                    · skip
                      refine iif_eqT (a := 0) (tgt := 289) hx hb (by decide) dX7_advance_223 (by decide) (by decide) ?_
                      refine lv_aload_n hx hb dX7_advance_289 rfl (lv_at hl 1 rfl) ?_
                      refine lv_bipush (v := 50) hx hb dX7_advance_290 (by decide) ?_
                      refine va_put (D := D) (ci := 7) (v := .int 50) (ty := .int) (C := RX7) (T := TX7) (N := 56) hx hb hts (fun _ h => List.mem_cons_of_mem _ (List.mem_append_right _ h)) tyX7 tyX7_ok nmX7 hown hK hP hD hS 0 rfl rfl 4 (by decide) (hts (.fieldLink RX7 142 "CrownTableModel" "tk" "I") (mem_i 5 rfl)) (fun _ h9 => h9) rfl (by decide +kernel) rfl rfl (Nat.le_of_ble_eq_true rfl) dX7_advance_292 (fun H locs hP hD hS => ?_)
                      have hP : va_P D vwCl [(A_self, .inr (7, o7 q (upd (upd (upd (upd (upd v 3 M_self_at_200) 4 50) 5 M_self_at) 6 M_self_tkNumber) 7 M_self_tkDigits) w)), (q 1, .inl (c 0, 800, .inl f_tape))] H := hP
                      have hD : va_D A [(A_self, .inr (7, o7 q (upd (upd (upd (upd (upd v 3 M_self_at_200) 4 50) 5 M_self_at) 6 M_self_tkNumber) 7 M_self_tkDigits) w)), (q 1, .inl (c 0, 800, .inl f_tape))] := hD
                      have kzz_107 : (50 : Int32).toInt = 50 := by decide
                      have hP9 := hP.sub (ws' := [(A_self, .inr (7, o7 q (upd (upd (upd (upd (upd v 3 M_self_at_200) 4 50) 5 M_self_at) 6 M_self_tkNumber) 7 M_self_tkDigits) w)), (q 1, .inl (c 0, 800, .inl f_tape))]) [0, 1] rfl
                      have hD9 := hD.sub (ws' := [(A_self, .inr (7, o7 q (upd (upd (upd (upd (upd v 3 M_self_at_200) 4 50) 5 M_self_at) 6 M_self_tkNumber) 7 M_self_tkDigits) w)), (q 1, .inl (c 0, 800, .inl f_tape))]) [0, 1] (by decide) rfl
                      refine W.widen (k := 0) (n := 0) (by omega) (by omega) ?_
                      exact W.vret hx hb hr (fun t ht hW => ⟨⟨(M_self_at_200, 50, M_self_at, M_self_tkNumber, M_self_tkDigits, ()), rfl, ⟨(show (v 3).toInt ≤ M_self_at.toInt ∧ M_self_at.toInt ≤ M_self_at_200.toInt ∧ M_self_at_200.toInt ≤ (v 2).toInt by omega), (show (50 : Int32).toInt = 0 ∨ M_self_at.toInt + 1 ≤ M_self_at_200.toInt by omega)⟩, ⟨by rw [ht]; exact hP9, hD9⟩⟩, hS.F ht⟩) hS.2.2 dX7_advance_295
                have kzz_108 : (0 : Int32).toInt = 0 := by decide
                exact (lp_200 _ M_self_at 0 0 (by omega) (by omega) rfl _ _ _ hP hD hS hl)
              · skip
                refine iif_eqT (a := 0) (tgt := 296) hx hb (by decide) dX7_advance_187 (by decide) (by decide) ?_
                refine lv_aload_n hx hb dX7_advance_296 rfl (lv_at hl 1 rfl) ?_
                refine lv_dup hx hb dX7_advance_297 rfl ?_
                refine va_get (D := D) (ci := 7) (v := .int M_self_at) (C := RX7) (T := TX7) (N := 56) hx hb hts (fun _ h => List.mem_cons_of_mem _ (List.mem_append_right _ h)) hown hK hP 0 rfl rfl 3 (by decide) (hts (.fieldLink RX7 136 "CrownTableModel" "at" "I") (mem_i 1 rfl)) (fun _ h9 => h9) rfl dX7_advance_298 ?_
                refine lv_iconst (v := 1) hx hb dX7_advance_301 (by decide) ?_
                refine lv_iadd hx hb dX7_advance_302 ?_
                refine lv_topi (fun x_109 ex_109 => ?_)
                have tx_109 : x_109.toInt = (M_self_at.toInt + 1) := by rw [ex_109]; exact add_ti (a := M_self_at.toInt) (b := 1) rfl (by decide) (by omega) (by omega)
                refine va_put (D := D) (ci := 7) (v := .int x_109) (ty := .int) (C := RX7) (T := TX7) (N := 56) hx hb hts (fun _ h => List.mem_cons_of_mem _ (List.mem_append_right _ h)) tyX7 tyX7_ok nmX7 hown hK hP hD hS 0 rfl rfl 3 (by decide) (hts (.fieldLink RX7 136 "CrownTableModel" "at" "I") (mem_i 1 rfl)) (fun _ h9 => h9) rfl (by decide +kernel) rfl rfl (Nat.le_of_ble_eq_true rfl) dX7_advance_303 (fun H locs hP hD hS => ?_)
                have hP : va_P D vwCl [(A_self, .inr (7, o7 q (upd (upd v 3 x_109) 5 M_self_at) w)), (q 1, .inl (c 0, 800, .inl f_tape))] H := hP
                have hD : va_D A [(A_self, .inr (7, o7 q (upd (upd v 3 x_109) 5 M_self_at) w)), (q 1, .inl (c 0, 800, .inl f_tape))] := hD
                refine lv_aload_n hx hb dX7_advance_306 rfl (lv_at hl 1 rfl) ?_
                refine lv_iload_n hx hb dX7_advance_307 rfl (lv_at hl 0 rfl) ?_
                refine lv_bipush (v := 59) hx hb dX7_advance_308 (by decide) ?_
                refine iicmp_eq (a := x_66.toInt) (b := 59) (tgt := 361) hx hb rfl (by decide) dX7_advance_310 (by decide) (fun k_110 => ?_) (fun k_110 => ?_)
                · skip
                  refine lv_iload_n hx hb dX7_advance_361 rfl (lv_at hl 0 rfl) ?_
                  refine lv_goto (tgt := 367) hx hb dX7_advance_362 (by decide) ?_
                  refine va_put (D := D) (ci := 7) (v := .int x_66) (ty := .int) (C := RX7) (T := TX7) (N := 56) hx hb hts (fun _ h => List.mem_cons_of_mem _ (List.mem_append_right _ h)) tyX7 tyX7_ok nmX7 hown hK hP hD hS 0 rfl rfl 4 (by decide) (hts (.fieldLink RX7 142 "CrownTableModel" "tk" "I") (mem_i 5 rfl)) (fun _ h9 => h9) rfl (by decide +kernel) rfl rfl (Nat.le_of_ble_eq_true rfl) dX7_advance_367 (fun H locs hP hD hS => ?_)
                  have hP : va_P D vwCl [(A_self, .inr (7, o7 q (upd (upd (upd v 3 x_109) 4 x_66) 5 M_self_at) w)), (q 1, .inl (c 0, 800, .inl f_tape))] H := hP
                  have hD : va_D A [(A_self, .inr (7, o7 q (upd (upd (upd v 3 x_109) 4 x_66) 5 M_self_at) w)), (q 1, .inl (c 0, 800, .inl f_tape))] := hD
                  have hP9 := hP.sub (ws' := [(A_self, .inr (7, o7 q (upd (upd (upd v 3 x_109) 4 x_66) 5 M_self_at) w)), (q 1, .inl (c 0, 800, .inl f_tape))]) [0, 1] rfl
                  have hD9 := hD.sub (ws' := [(A_self, .inr (7, o7 q (upd (upd (upd v 3 x_109) 4 x_66) 5 M_self_at) w)), (q 1, .inl (c 0, 800, .inl f_tape))]) [0, 1] (by decide) rfl
                  refine W.widen (k := 0) (n := 0) (by omega) (by omega) ?_
                  exact W.vret hx hb hr (fun t ht hW => ⟨⟨(x_109, x_66, M_self_at, (v 6), (v 7), ()), rfl, ⟨(show (v 3).toInt ≤ M_self_at.toInt ∧ M_self_at.toInt ≤ x_109.toInt ∧ x_109.toInt ≤ (v 2).toInt by omega), (show x_66.toInt = 0 ∨ M_self_at.toInt + 1 ≤ x_109.toInt by omega)⟩, ⟨by rw [ht]; exact hP9, hD9⟩⟩, hS.F ht⟩) hS.2.2 dX7_advance_370
                · skip
                  refine lv_iload_n hx hb dX7_advance_313 rfl (lv_at hl 0 rfl) ?_
                  refine lv_bipush (v := 40) hx hb dX7_advance_314 (by decide) ?_
                  refine iicmp_eq (a := x_66.toInt) (b := 40) (tgt := 361) hx hb rfl (by decide) dX7_advance_316 (by decide) (fun k_111 => ?_) (fun k_111 => ?_)
                  · skip
                    refine lv_iload_n hx hb dX7_advance_361 rfl (lv_at hl 0 rfl) ?_
                    refine lv_goto (tgt := 367) hx hb dX7_advance_362 (by decide) ?_
                    refine va_put (D := D) (ci := 7) (v := .int x_66) (ty := .int) (C := RX7) (T := TX7) (N := 56) hx hb hts (fun _ h => List.mem_cons_of_mem _ (List.mem_append_right _ h)) tyX7 tyX7_ok nmX7 hown hK hP hD hS 0 rfl rfl 4 (by decide) (hts (.fieldLink RX7 142 "CrownTableModel" "tk" "I") (mem_i 5 rfl)) (fun _ h9 => h9) rfl (by decide +kernel) rfl rfl (Nat.le_of_ble_eq_true rfl) dX7_advance_367 (fun H locs hP hD hS => ?_)
                    have hP : va_P D vwCl [(A_self, .inr (7, o7 q (upd (upd (upd v 3 x_109) 4 x_66) 5 M_self_at) w)), (q 1, .inl (c 0, 800, .inl f_tape))] H := hP
                    have hD : va_D A [(A_self, .inr (7, o7 q (upd (upd (upd v 3 x_109) 4 x_66) 5 M_self_at) w)), (q 1, .inl (c 0, 800, .inl f_tape))] := hD
                    have hP9 := hP.sub (ws' := [(A_self, .inr (7, o7 q (upd (upd (upd v 3 x_109) 4 x_66) 5 M_self_at) w)), (q 1, .inl (c 0, 800, .inl f_tape))]) [0, 1] rfl
                    have hD9 := hD.sub (ws' := [(A_self, .inr (7, o7 q (upd (upd (upd v 3 x_109) 4 x_66) 5 M_self_at) w)), (q 1, .inl (c 0, 800, .inl f_tape))]) [0, 1] (by decide) rfl
                    refine W.widen (k := 0) (n := 0) (by omega) (by omega) ?_
                    exact W.vret hx hb hr (fun t ht hW => ⟨⟨(x_109, x_66, M_self_at, (v 6), (v 7), ()), rfl, ⟨(show (v 3).toInt ≤ M_self_at.toInt ∧ M_self_at.toInt ≤ x_109.toInt ∧ x_109.toInt ≤ (v 2).toInt by omega), (show x_66.toInt = 0 ∨ M_self_at.toInt + 1 ≤ x_109.toInt by omega)⟩, ⟨by rw [ht]; exact hP9, hD9⟩⟩, hS.F ht⟩) hS.2.2 dX7_advance_370
                  · skip
                    refine lv_iload_n hx hb dX7_advance_319 rfl (lv_at hl 0 rfl) ?_
                    refine lv_bipush (v := 41) hx hb dX7_advance_320 (by decide) ?_
                    refine iicmp_eq (a := x_66.toInt) (b := 41) (tgt := 361) hx hb rfl (by decide) dX7_advance_322 (by decide) (fun k_112 => ?_) (fun k_112 => ?_)
                    · skip
                      refine lv_iload_n hx hb dX7_advance_361 rfl (lv_at hl 0 rfl) ?_
                      refine lv_goto (tgt := 367) hx hb dX7_advance_362 (by decide) ?_
                      refine va_put (D := D) (ci := 7) (v := .int x_66) (ty := .int) (C := RX7) (T := TX7) (N := 56) hx hb hts (fun _ h => List.mem_cons_of_mem _ (List.mem_append_right _ h)) tyX7 tyX7_ok nmX7 hown hK hP hD hS 0 rfl rfl 4 (by decide) (hts (.fieldLink RX7 142 "CrownTableModel" "tk" "I") (mem_i 5 rfl)) (fun _ h9 => h9) rfl (by decide +kernel) rfl rfl (Nat.le_of_ble_eq_true rfl) dX7_advance_367 (fun H locs hP hD hS => ?_)
                      have hP : va_P D vwCl [(A_self, .inr (7, o7 q (upd (upd (upd v 3 x_109) 4 x_66) 5 M_self_at) w)), (q 1, .inl (c 0, 800, .inl f_tape))] H := hP
                      have hD : va_D A [(A_self, .inr (7, o7 q (upd (upd (upd v 3 x_109) 4 x_66) 5 M_self_at) w)), (q 1, .inl (c 0, 800, .inl f_tape))] := hD
                      have hP9 := hP.sub (ws' := [(A_self, .inr (7, o7 q (upd (upd (upd v 3 x_109) 4 x_66) 5 M_self_at) w)), (q 1, .inl (c 0, 800, .inl f_tape))]) [0, 1] rfl
                      have hD9 := hD.sub (ws' := [(A_self, .inr (7, o7 q (upd (upd (upd v 3 x_109) 4 x_66) 5 M_self_at) w)), (q 1, .inl (c 0, 800, .inl f_tape))]) [0, 1] (by decide) rfl
                      refine W.widen (k := 0) (n := 0) (by omega) (by omega) ?_
                      exact W.vret hx hb hr (fun t ht hW => ⟨⟨(x_109, x_66, M_self_at, (v 6), (v 7), ()), rfl, ⟨(show (v 3).toInt ≤ M_self_at.toInt ∧ M_self_at.toInt ≤ x_109.toInt ∧ x_109.toInt ≤ (v 2).toInt by omega), (show x_66.toInt = 0 ∨ M_self_at.toInt + 1 ≤ x_109.toInt by omega)⟩, ⟨by rw [ht]; exact hP9, hD9⟩⟩, hS.F ht⟩) hS.2.2 dX7_advance_370
                    · skip
                      refine lv_iload_n hx hb dX7_advance_325 rfl (lv_at hl 0 rfl) ?_
                      refine lv_bipush (v := 60) hx hb dX7_advance_326 (by decide) ?_
                      refine iicmp_eq (a := x_66.toInt) (b := 60) (tgt := 361) hx hb rfl (by decide) dX7_advance_328 (by decide) (fun k_113 => ?_) (fun k_113 => ?_)
                      · skip
                        refine lv_iload_n hx hb dX7_advance_361 rfl (lv_at hl 0 rfl) ?_
                        refine lv_goto (tgt := 367) hx hb dX7_advance_362 (by decide) ?_
                        refine va_put (D := D) (ci := 7) (v := .int x_66) (ty := .int) (C := RX7) (T := TX7) (N := 56) hx hb hts (fun _ h => List.mem_cons_of_mem _ (List.mem_append_right _ h)) tyX7 tyX7_ok nmX7 hown hK hP hD hS 0 rfl rfl 4 (by decide) (hts (.fieldLink RX7 142 "CrownTableModel" "tk" "I") (mem_i 5 rfl)) (fun _ h9 => h9) rfl (by decide +kernel) rfl rfl (Nat.le_of_ble_eq_true rfl) dX7_advance_367 (fun H locs hP hD hS => ?_)
                        have hP : va_P D vwCl [(A_self, .inr (7, o7 q (upd (upd (upd v 3 x_109) 4 x_66) 5 M_self_at) w)), (q 1, .inl (c 0, 800, .inl f_tape))] H := hP
                        have hD : va_D A [(A_self, .inr (7, o7 q (upd (upd (upd v 3 x_109) 4 x_66) 5 M_self_at) w)), (q 1, .inl (c 0, 800, .inl f_tape))] := hD
                        have hP9 := hP.sub (ws' := [(A_self, .inr (7, o7 q (upd (upd (upd v 3 x_109) 4 x_66) 5 M_self_at) w)), (q 1, .inl (c 0, 800, .inl f_tape))]) [0, 1] rfl
                        have hD9 := hD.sub (ws' := [(A_self, .inr (7, o7 q (upd (upd (upd v 3 x_109) 4 x_66) 5 M_self_at) w)), (q 1, .inl (c 0, 800, .inl f_tape))]) [0, 1] (by decide) rfl
                        refine W.widen (k := 0) (n := 0) (by omega) (by omega) ?_
                        exact W.vret hx hb hr (fun t ht hW => ⟨⟨(x_109, x_66, M_self_at, (v 6), (v 7), ()), rfl, ⟨(show (v 3).toInt ≤ M_self_at.toInt ∧ M_self_at.toInt ≤ x_109.toInt ∧ x_109.toInt ≤ (v 2).toInt by omega), (show x_66.toInt = 0 ∨ M_self_at.toInt + 1 ≤ x_109.toInt by omega)⟩, ⟨by rw [ht]; exact hP9, hD9⟩⟩, hS.F ht⟩) hS.2.2 dX7_advance_370
                      · skip
                        refine lv_iload_n hx hb dX7_advance_331 rfl (lv_at hl 0 rfl) ?_
                        refine lv_bipush (v := 61) hx hb dX7_advance_332 (by decide) ?_
                        refine iicmp_eq (a := x_66.toInt) (b := 61) (tgt := 361) hx hb rfl (by decide) dX7_advance_334 (by decide) (fun k_114 => ?_) (fun k_114 => ?_)
                        · skip
                          refine lv_iload_n hx hb dX7_advance_361 rfl (lv_at hl 0 rfl) ?_
                          refine lv_goto (tgt := 367) hx hb dX7_advance_362 (by decide) ?_
                          refine va_put (D := D) (ci := 7) (v := .int x_66) (ty := .int) (C := RX7) (T := TX7) (N := 56) hx hb hts (fun _ h => List.mem_cons_of_mem _ (List.mem_append_right _ h)) tyX7 tyX7_ok nmX7 hown hK hP hD hS 0 rfl rfl 4 (by decide) (hts (.fieldLink RX7 142 "CrownTableModel" "tk" "I") (mem_i 5 rfl)) (fun _ h9 => h9) rfl (by decide +kernel) rfl rfl (Nat.le_of_ble_eq_true rfl) dX7_advance_367 (fun H locs hP hD hS => ?_)
                          have hP : va_P D vwCl [(A_self, .inr (7, o7 q (upd (upd (upd v 3 x_109) 4 x_66) 5 M_self_at) w)), (q 1, .inl (c 0, 800, .inl f_tape))] H := hP
                          have hD : va_D A [(A_self, .inr (7, o7 q (upd (upd (upd v 3 x_109) 4 x_66) 5 M_self_at) w)), (q 1, .inl (c 0, 800, .inl f_tape))] := hD
                          have hP9 := hP.sub (ws' := [(A_self, .inr (7, o7 q (upd (upd (upd v 3 x_109) 4 x_66) 5 M_self_at) w)), (q 1, .inl (c 0, 800, .inl f_tape))]) [0, 1] rfl
                          have hD9 := hD.sub (ws' := [(A_self, .inr (7, o7 q (upd (upd (upd v 3 x_109) 4 x_66) 5 M_self_at) w)), (q 1, .inl (c 0, 800, .inl f_tape))]) [0, 1] (by decide) rfl
                          refine W.widen (k := 0) (n := 0) (by omega) (by omega) ?_
                          exact W.vret hx hb hr (fun t ht hW => ⟨⟨(x_109, x_66, M_self_at, (v 6), (v 7), ()), rfl, ⟨(show (v 3).toInt ≤ M_self_at.toInt ∧ M_self_at.toInt ≤ x_109.toInt ∧ x_109.toInt ≤ (v 2).toInt by omega), (show x_66.toInt = 0 ∨ M_self_at.toInt + 1 ≤ x_109.toInt by omega)⟩, ⟨by rw [ht]; exact hP9, hD9⟩⟩, hS.F ht⟩) hS.2.2 dX7_advance_370
                        · skip
                          refine lv_iload_n hx hb dX7_advance_337 rfl (lv_at hl 0 rfl) ?_
                          refine lv_bipush (v := 62) hx hb dX7_advance_338 (by decide) ?_
                          refine iicmp_eq (a := x_66.toInt) (b := 62) (tgt := 361) hx hb rfl (by decide) dX7_advance_340 (by decide) (fun k_115 => ?_) (fun k_115 => ?_)
                          · skip
                            refine lv_iload_n hx hb dX7_advance_361 rfl (lv_at hl 0 rfl) ?_
                            refine lv_goto (tgt := 367) hx hb dX7_advance_362 (by decide) ?_
                            refine va_put (D := D) (ci := 7) (v := .int x_66) (ty := .int) (C := RX7) (T := TX7) (N := 56) hx hb hts (fun _ h => List.mem_cons_of_mem _ (List.mem_append_right _ h)) tyX7 tyX7_ok nmX7 hown hK hP hD hS 0 rfl rfl 4 (by decide) (hts (.fieldLink RX7 142 "CrownTableModel" "tk" "I") (mem_i 5 rfl)) (fun _ h9 => h9) rfl (by decide +kernel) rfl rfl (Nat.le_of_ble_eq_true rfl) dX7_advance_367 (fun H locs hP hD hS => ?_)
                            have hP : va_P D vwCl [(A_self, .inr (7, o7 q (upd (upd (upd v 3 x_109) 4 x_66) 5 M_self_at) w)), (q 1, .inl (c 0, 800, .inl f_tape))] H := hP
                            have hD : va_D A [(A_self, .inr (7, o7 q (upd (upd (upd v 3 x_109) 4 x_66) 5 M_self_at) w)), (q 1, .inl (c 0, 800, .inl f_tape))] := hD
                            have hP9 := hP.sub (ws' := [(A_self, .inr (7, o7 q (upd (upd (upd v 3 x_109) 4 x_66) 5 M_self_at) w)), (q 1, .inl (c 0, 800, .inl f_tape))]) [0, 1] rfl
                            have hD9 := hD.sub (ws' := [(A_self, .inr (7, o7 q (upd (upd (upd v 3 x_109) 4 x_66) 5 M_self_at) w)), (q 1, .inl (c 0, 800, .inl f_tape))]) [0, 1] (by decide) rfl
                            refine W.widen (k := 0) (n := 0) (by omega) (by omega) ?_
                            exact W.vret hx hb hr (fun t ht hW => ⟨⟨(x_109, x_66, M_self_at, (v 6), (v 7), ()), rfl, ⟨(show (v 3).toInt ≤ M_self_at.toInt ∧ M_self_at.toInt ≤ x_109.toInt ∧ x_109.toInt ≤ (v 2).toInt by omega), (show x_66.toInt = 0 ∨ M_self_at.toInt + 1 ≤ x_109.toInt by omega)⟩, ⟨by rw [ht]; exact hP9, hD9⟩⟩, hS.F ht⟩) hS.2.2 dX7_advance_370
                          · skip
                            refine lv_iload_n hx hb dX7_advance_343 rfl (lv_at hl 0 rfl) ?_
                            refine lv_bipush (v := 43) hx hb dX7_advance_344 (by decide) ?_
                            refine iicmp_eq (a := x_66.toInt) (b := 43) (tgt := 361) hx hb rfl (by decide) dX7_advance_346 (by decide) (fun k_116 => ?_) (fun k_116 => ?_)
                            · skip
                              refine lv_iload_n hx hb dX7_advance_361 rfl (lv_at hl 0 rfl) ?_
                              refine lv_goto (tgt := 367) hx hb dX7_advance_362 (by decide) ?_
                              refine va_put (D := D) (ci := 7) (v := .int x_66) (ty := .int) (C := RX7) (T := TX7) (N := 56) hx hb hts (fun _ h => List.mem_cons_of_mem _ (List.mem_append_right _ h)) tyX7 tyX7_ok nmX7 hown hK hP hD hS 0 rfl rfl 4 (by decide) (hts (.fieldLink RX7 142 "CrownTableModel" "tk" "I") (mem_i 5 rfl)) (fun _ h9 => h9) rfl (by decide +kernel) rfl rfl (Nat.le_of_ble_eq_true rfl) dX7_advance_367 (fun H locs hP hD hS => ?_)
                              have hP : va_P D vwCl [(A_self, .inr (7, o7 q (upd (upd (upd v 3 x_109) 4 x_66) 5 M_self_at) w)), (q 1, .inl (c 0, 800, .inl f_tape))] H := hP
                              have hD : va_D A [(A_self, .inr (7, o7 q (upd (upd (upd v 3 x_109) 4 x_66) 5 M_self_at) w)), (q 1, .inl (c 0, 800, .inl f_tape))] := hD
                              have hP9 := hP.sub (ws' := [(A_self, .inr (7, o7 q (upd (upd (upd v 3 x_109) 4 x_66) 5 M_self_at) w)), (q 1, .inl (c 0, 800, .inl f_tape))]) [0, 1] rfl
                              have hD9 := hD.sub (ws' := [(A_self, .inr (7, o7 q (upd (upd (upd v 3 x_109) 4 x_66) 5 M_self_at) w)), (q 1, .inl (c 0, 800, .inl f_tape))]) [0, 1] (by decide) rfl
                              refine W.widen (k := 0) (n := 0) (by omega) (by omega) ?_
                              exact W.vret hx hb hr (fun t ht hW => ⟨⟨(x_109, x_66, M_self_at, (v 6), (v 7), ()), rfl, ⟨(show (v 3).toInt ≤ M_self_at.toInt ∧ M_self_at.toInt ≤ x_109.toInt ∧ x_109.toInt ≤ (v 2).toInt by omega), (show x_66.toInt = 0 ∨ M_self_at.toInt + 1 ≤ x_109.toInt by omega)⟩, ⟨by rw [ht]; exact hP9, hD9⟩⟩, hS.F ht⟩) hS.2.2 dX7_advance_370
                            · skip
                              refine lv_iload_n hx hb dX7_advance_349 rfl (lv_at hl 0 rfl) ?_
                              refine lv_bipush (v := 45) hx hb dX7_advance_350 (by decide) ?_
                              refine iicmp_eq (a := x_66.toInt) (b := 45) (tgt := 361) hx hb rfl (by decide) dX7_advance_352 (by decide) (fun k_117 => ?_) (fun k_117 => ?_)
                              · skip
                                refine lv_iload_n hx hb dX7_advance_361 rfl (lv_at hl 0 rfl) ?_
                                refine lv_goto (tgt := 367) hx hb dX7_advance_362 (by decide) ?_
                                refine va_put (D := D) (ci := 7) (v := .int x_66) (ty := .int) (C := RX7) (T := TX7) (N := 56) hx hb hts (fun _ h => List.mem_cons_of_mem _ (List.mem_append_right _ h)) tyX7 tyX7_ok nmX7 hown hK hP hD hS 0 rfl rfl 4 (by decide) (hts (.fieldLink RX7 142 "CrownTableModel" "tk" "I") (mem_i 5 rfl)) (fun _ h9 => h9) rfl (by decide +kernel) rfl rfl (Nat.le_of_ble_eq_true rfl) dX7_advance_367 (fun H locs hP hD hS => ?_)
                                have hP : va_P D vwCl [(A_self, .inr (7, o7 q (upd (upd (upd v 3 x_109) 4 x_66) 5 M_self_at) w)), (q 1, .inl (c 0, 800, .inl f_tape))] H := hP
                                have hD : va_D A [(A_self, .inr (7, o7 q (upd (upd (upd v 3 x_109) 4 x_66) 5 M_self_at) w)), (q 1, .inl (c 0, 800, .inl f_tape))] := hD
                                have hP9 := hP.sub (ws' := [(A_self, .inr (7, o7 q (upd (upd (upd v 3 x_109) 4 x_66) 5 M_self_at) w)), (q 1, .inl (c 0, 800, .inl f_tape))]) [0, 1] rfl
                                have hD9 := hD.sub (ws' := [(A_self, .inr (7, o7 q (upd (upd (upd v 3 x_109) 4 x_66) 5 M_self_at) w)), (q 1, .inl (c 0, 800, .inl f_tape))]) [0, 1] (by decide) rfl
                                refine W.widen (k := 0) (n := 0) (by omega) (by omega) ?_
                                exact W.vret hx hb hr (fun t ht hW => ⟨⟨(x_109, x_66, M_self_at, (v 6), (v 7), ()), rfl, ⟨(show (v 3).toInt ≤ M_self_at.toInt ∧ M_self_at.toInt ≤ x_109.toInt ∧ x_109.toInt ≤ (v 2).toInt by omega), (show x_66.toInt = 0 ∨ M_self_at.toInt + 1 ≤ x_109.toInt by omega)⟩, ⟨by rw [ht]; exact hP9, hD9⟩⟩, hS.F ht⟩) hS.2.2 dX7_advance_370
                              · skip
                                refine lv_iload_n hx hb dX7_advance_355 rfl (lv_at hl 0 rfl) ?_
                                refine lv_bipush (v := 42) hx hb dX7_advance_356 (by decide) ?_
                                refine iicmp_ne (a := x_66.toInt) (b := 42) (tgt := 365) hx hb rfl (by decide) dX7_advance_358 (by decide) (fun k_118 => ?_) (fun k_118 => ?_)
                                · skip
                                  refine lv_bipush (v := 51) hx hb dX7_advance_365 (by decide) ?_
                                  refine va_put (D := D) (ci := 7) (v := .int 51) (ty := .int) (C := RX7) (T := TX7) (N := 56) hx hb hts (fun _ h => List.mem_cons_of_mem _ (List.mem_append_right _ h)) tyX7 tyX7_ok nmX7 hown hK hP hD hS 0 rfl rfl 4 (by decide) (hts (.fieldLink RX7 142 "CrownTableModel" "tk" "I") (mem_i 5 rfl)) (fun _ h9 => h9) rfl (by decide +kernel) rfl rfl (Nat.le_of_ble_eq_true rfl) dX7_advance_367 (fun H locs hP hD hS => ?_)
                                  have hP : va_P D vwCl [(A_self, .inr (7, o7 q (upd (upd (upd v 3 x_109) 4 51) 5 M_self_at) w)), (q 1, .inl (c 0, 800, .inl f_tape))] H := hP
                                  have hD : va_D A [(A_self, .inr (7, o7 q (upd (upd (upd v 3 x_109) 4 51) 5 M_self_at) w)), (q 1, .inl (c 0, 800, .inl f_tape))] := hD
                                  have kzz_119 : (51 : Int32).toInt = 51 := by decide
                                  have hP9 := hP.sub (ws' := [(A_self, .inr (7, o7 q (upd (upd (upd v 3 x_109) 4 51) 5 M_self_at) w)), (q 1, .inl (c 0, 800, .inl f_tape))]) [0, 1] rfl
                                  have hD9 := hD.sub (ws' := [(A_self, .inr (7, o7 q (upd (upd (upd v 3 x_109) 4 51) 5 M_self_at) w)), (q 1, .inl (c 0, 800, .inl f_tape))]) [0, 1] (by decide) rfl
                                  refine W.widen (k := 0) (n := 0) (by omega) (by omega) ?_
                                  exact W.vret hx hb hr (fun t ht hW => ⟨⟨(x_109, 51, M_self_at, (v 6), (v 7), ()), rfl, ⟨(show (v 3).toInt ≤ M_self_at.toInt ∧ M_self_at.toInt ≤ x_109.toInt ∧ x_109.toInt ≤ (v 2).toInt by omega), (show (51 : Int32).toInt = 0 ∨ M_self_at.toInt + 1 ≤ x_109.toInt by omega)⟩, ⟨by rw [ht]; exact hP9, hD9⟩⟩, hS.F ht⟩) hS.2.2 dX7_advance_370
                                · skip
                                  refine lv_iload_n hx hb dX7_advance_361 rfl (lv_at hl 0 rfl) ?_
                                  refine lv_goto (tgt := 367) hx hb dX7_advance_362 (by decide) ?_
                                  refine va_put (D := D) (ci := 7) (v := .int x_66) (ty := .int) (C := RX7) (T := TX7) (N := 56) hx hb hts (fun _ h => List.mem_cons_of_mem _ (List.mem_append_right _ h)) tyX7 tyX7_ok nmX7 hown hK hP hD hS 0 rfl rfl 4 (by decide) (hts (.fieldLink RX7 142 "CrownTableModel" "tk" "I") (mem_i 5 rfl)) (fun _ h9 => h9) rfl (by decide +kernel) rfl rfl (Nat.le_of_ble_eq_true rfl) dX7_advance_367 (fun H locs hP hD hS => ?_)
                                  have hP : va_P D vwCl [(A_self, .inr (7, o7 q (upd (upd (upd v 3 x_109) 4 x_66) 5 M_self_at) w)), (q 1, .inl (c 0, 800, .inl f_tape))] H := hP
                                  have hD : va_D A [(A_self, .inr (7, o7 q (upd (upd (upd v 3 x_109) 4 x_66) 5 M_self_at) w)), (q 1, .inl (c 0, 800, .inl f_tape))] := hD
                                  have hP9 := hP.sub (ws' := [(A_self, .inr (7, o7 q (upd (upd (upd v 3 x_109) 4 x_66) 5 M_self_at) w)), (q 1, .inl (c 0, 800, .inl f_tape))]) [0, 1] rfl
                                  have hD9 := hD.sub (ws' := [(A_self, .inr (7, o7 q (upd (upd (upd v 3 x_109) 4 x_66) 5 M_self_at) w)), (q 1, .inl (c 0, 800, .inl f_tape))]) [0, 1] (by decide) rfl
                                  refine W.widen (k := 0) (n := 0) (by omega) (by omega) ?_
                                  exact W.vret hx hb hr (fun t ht hW => ⟨⟨(x_109, x_66, M_self_at, (v 6), (v 7), ()), rfl, ⟨(show (v 3).toInt ≤ M_self_at.toInt ∧ M_self_at.toInt ≤ x_109.toInt ∧ x_109.toInt ≤ (v 2).toInt by omega), (show x_66.toInt = 0 ∨ M_self_at.toInt + 1 ≤ x_109.toInt by omega)⟩, ⟨by rw [ht]; exact hP9, hD9⟩⟩, hS.F ht⟩) hS.2.2 dX7_advance_370
          · skip
            refine lv_aload_n hx hb dX7_advance_71 rfl (lv_at hl 0 rfl) ?_
            refine lv_iconst (v := 0) hx hb dX7_advance_72 (by decide) ?_
            refine va_put (D := D) (ci := 7) (v := .int 0) (ty := .int) (C := RX7) (T := TX7) (N := 56) hx hb hts (fun _ h => List.mem_cons_of_mem _ (List.mem_append_right _ h)) tyX7 tyX7_ok nmX7 hown hK hP hD hS 0 rfl rfl 4 (by decide) (hts (.fieldLink RX7 142 "CrownTableModel" "tk" "I") (mem_i 5 rfl)) (fun _ h9 => h9) rfl (by decide +kernel) rfl rfl (Nat.le_of_ble_eq_true rfl) dX7_advance_73 (fun H locs hP hD hS => ?_)
            have hP : va_P D vwCl [(A_self, .inr (7, o7 q (upd (upd (upd v 3 M_self_at) 4 0) 5 M_self_at) w)), (q 1, .inl (c 0, 800, .inl f_tape))] H := hP
            have hD : va_D A [(A_self, .inr (7, o7 q (upd (upd (upd v 3 M_self_at) 4 0) 5 M_self_at) w)), (q 1, .inl (c 0, 800, .inl f_tape))] := hD
            have kzz_120 : (0 : Int32).toInt = 0 := by decide
            have hP9 := hP.sub (ws' := [(A_self, .inr (7, o7 q (upd (upd (upd v 3 M_self_at) 4 0) 5 M_self_at) w)), (q 1, .inl (c 0, 800, .inl f_tape))]) [0, 1] rfl
            have hD9 := hD.sub (ws' := [(A_self, .inr (7, o7 q (upd (upd (upd v 3 M_self_at) 4 0) 5 M_self_at) w)), (q 1, .inl (c 0, 800, .inl f_tape))]) [0, 1] (by decide) rfl
            refine W.widen (k := 0) (n := 0) (by omega) (by omega) ?_
            exact W.vret hx hb hr (fun t ht hW => ⟨⟨(M_self_at, 0, M_self_at, (v 6), (v 7), ()), rfl, ⟨(show (v 3).toInt ≤ M_self_at.toInt ∧ M_self_at.toInt ≤ M_self_at.toInt ∧ M_self_at.toInt ≤ (v 2).toInt by omega), (show (0 : Int32).toInt = 0 ∨ M_self_at.toInt + 1 ≤ M_self_at.toInt by omega)⟩, ⟨by rw [ht]; exact hP9, hD9⟩⟩, hS.F ht⟩) hS.2.2 dX7_advance_76
        · skip
          refine lv_aload_n hx hb dX7_advance_39 rfl (lv_at hl 0 rfl) ?_
          refine lv_dup hx hb dX7_advance_40 rfl ?_
          refine va_get (D := D) (ci := 7) (v := .int M_self_at) (C := RX7) (T := TX7) (N := 56) hx hb hts (fun _ h => List.mem_cons_of_mem _ (List.mem_append_right _ h)) hown hK hP 0 rfl rfl 3 (by decide) (hts (.fieldLink RX7 136 "CrownTableModel" "at" "I") (mem_i 1 rfl)) (fun _ h9 => h9) rfl dX7_advance_41 ?_
          refine lv_iconst (v := 1) hx hb dX7_advance_44 (by decide) ?_
          refine lv_iadd hx hb dX7_advance_45 ?_
          refine lv_topi (fun x_121 ex_121 => ?_)
          have tx_121 : x_121.toInt = (M_self_at.toInt + 1) := by rw [ex_121]; exact add_ti (a := M_self_at.toInt) (b := 1) rfl (by decide) (by omega) (by omega)
          refine va_put (D := D) (ci := 7) (v := .int x_121) (ty := .int) (C := RX7) (T := TX7) (N := 56) hx hb hts (fun _ h => List.mem_cons_of_mem _ (List.mem_append_right _ h)) tyX7 tyX7_ok nmX7 hown hK hP hD hS 0 rfl rfl 3 (by decide) (hts (.fieldLink RX7 136 "CrownTableModel" "at" "I") (mem_i 1 rfl)) (fun _ h9 => h9) rfl (by decide +kernel) rfl rfl (Nat.le_of_ble_eq_true rfl) dX7_advance_46 (fun H locs hP hD hS => ?_)
          have hP : va_P D vwCl [(A_self, .inr (7, o7 q (upd v 3 x_121) w)), (q 1, .inl (c 0, 800, .inl f_tape))] H := hP
          have hD : va_D A [(A_self, .inr (7, o7 q (upd v 3 x_121) w)), (q 1, .inl (c 0, 800, .inl f_tape))] := hD
          refine lv_goto (tgt := 0) hx hb dX7_advance_49 (by decide) ?_
          exact (ih0 ((800 - x_121.toInt).toNat) (by omega) x_121 (by omega) rfl _ _ _ hP hD hS hl)
  exact (lp_0 _ (v 3) (by omega) rfl _ _ _ hP hD hS hl)

set_option maxHeartbeats 4000000 in
set_option maxRecDepth 100000 in
theorem k_X7_puts (l : Launch) (D : va_G) (c : Nat → ClassId) (ts : Nat × Nat) (sz : Nat) (A_self : Nat) (q : Nat → Nat) (v : Nat → Int32) (w : Nat → Int64) (f_op : Nat → Int32) (f_number : Nat → Int32) (a1 : Int32) (i_a1 : Int) (hi_a1 : a1.toInt = i_a1) (a2 : Int32) (i_a2 : Int) (hi_a2 : a2.toInt = i_a2) (hv_2 : 0 ≤ (v 2).toInt ∧ (v 2).toInt ≤ 800) (hv_8 : 0 ≤ (v 8).toInt ∧ (v 8).toInt ≤ 10) (hv_21 : 0 ≤ (v 21).toInt ∧ (v 21).toInt ≤ 40) (hv_24 : 0 ≤ (v 24).toInt ∧ (v 24).toInt ≤ 1000) (hv_27 : 0 ≤ (v 27).toInt ∧ (v 27).toInt ≤ 400) (hv_42 : 0 ≤ (v 42).toInt ∧ (v 42).toInt ≤ 4000) (hv_52 : 0 ≤ (v 52).toInt ∧ (v 52).toInt ≤ 2000) (hq0 : 0 ≤ (v 16).toInt ∧ (v 16).toInt ≤ 8999) : Met l yX7_puts wsX7_puts ({ frames := 0, cells := 0, slots := 0, locals := 0 }) (va_Pc [.ref A_self, .int a1, .int a2] (Pre0 D c ts [(A_self, .inr (7, o7 q v w)), (q 14, .inl (c 1, 9000, .inl f_op)), (q 15, .inl (c 1, 9000, .inl f_number))] sz)) (va_Qv (fun (u : Int32 × (Nat → Int32) × (Nat → Int32) × Unit) => (u.1.toInt = (v 16).toInt + 1) ∧ (∀ j : Nat, ¬ ((j : Int) = (v 16).toInt) → u.2.1 j = f_op j) ∧ (u.2.1 (v 16).toInt.toNat = a1)) (fun u t => va_P D vwCl [(A_self, .inr (7, o7 q (upd v 16 u.1) w)), (q 14, .inl (c 1, 9000, .inl u.2.1)), (q 15, .inl (c 1, 9000, .inl u.2.2.1))] t.heap ∧ va_D (va_A [(A_self, .inr (7, o7 q v w)), (q 14, .inl (c 1, 9000, .inl f_op)), (q 15, .inl (c 1, 9000, .inl f_number))] sz) [(A_self, .inr (7, o7 q (upd v 16 u.1) w)), (q 14, .inl (c 1, 9000, .inl u.2.1)), (q 15, .inl (c 1, 9000, .inl u.2.2.1))]) (va_A [(A_self, .inr (7, o7 q v w)), (q 14, .inl (c 1, 9000, .inl f_op)), (q 15, .inl (c 1, 9000, .inl f_number))] sz)) 0 0 (va_A [(A_self, .inr (7, o7 q v w)), (q 14, .inl (c 1, 9000, .inl f_op)), (q 15, .inl (c 1, 9000, .inl f_number))] sz) := by
  refine Met.ofW (cc := cX7_puts) (maxL := 3) (ret := none) (by decide) rfl ?_
  intro p e s m args below meth cd s₁ B hml hv
  obtain ⟨rfl, hsz, hP, hD0, hAm, hSt⟩ := hv
  have hx := B.exec
  have hb := B.bytes
  have hr := B.returns
  have hts := atoms_spec (ws := wsX7_puts) B.pre
  have hown : s.vm.findClass RX7 = some m.cls := findClass_of_methodNamed B.named
  have hlocks := B.notSynchronized
  have hK := hAm.1
  subst hsz
  have hD := hD0.self (sz := s.heap.size)
  generalize hAe : va_A [(A_self, .inr (7, o7 q v w)), (q 14, .inl (c 1, 9000, .inl f_op)), (q 15, .inl (c 1, 9000, .inl f_number))] s.heap.size = A at hD hSt ⊢
  have hA : ∀ q : Nat, s.heap.size ≤ q → A q := fun q h => by rw [← hAe]; exact Or.inr h
  have hS : va_S A s.heap s.heap [] := va_S.rf
  clear hD0 hAe
  have hl := lv_entry ([.ref A_self, .int a1, .int a2]) (n := 3) (Nat.le_of_ble_eq_true rfl)
  rw [lg_entry_eq]
  generalize (lg_sl ([.ref A_self, .int a1, .int a2]) ++ List.replicate (3 - (lg_sl ([.ref A_self, .int a1, .int a2])).length) Slot.unset).toArray = ls at hl ⊢
  have hl : lv_has ls 3 [(0, .ref A_self), (1, .int a1), (2, .int a2)] := hl
  have rg_a1 := i32r a1
  have rg_a2 := i32r a2
  refine lv_aload_n hx hb dX7_puts_0 rfl (lv_at hl 0 rfl) ?_
  refine va_get (D := D) (ci := 7) (v := .ref (q 14)) (C := RX7) (T := TX7) (N := 56) hx hb hts (fun _ h => List.mem_cons_of_mem _ (List.mem_append_right _ h)) hown hK hP 0 rfl rfl 14 (by decide) (hts (.fieldLink RX7 29 "CrownTableModel" "op" "[I") (mem_i 1 rfl)) (fun _ h9 => h9) rfl dX7_puts_1 ?_
  refine lv_aload_n hx hb dX7_puts_4 rfl (lv_at hl 0 rfl) ?_
  refine va_get (D := D) (ci := 7) (v := .int (v 16)) (C := RX7) (T := TX7) (N := 56) hx hb hts (fun _ h => List.mem_cons_of_mem _ (List.mem_append_right _ h)) hown hK hP 0 rfl rfl 16 (by decide) (hts (.fieldLink RX7 217 "CrownTableModel" "laid" "I") (mem_i 2 rfl)) (fun _ h9 => h9) rfl dX7_puts_5 ?_
  refine lv_iload_n hx hb dX7_puts_8 rfl (lv_at hl 1 rfl) ?_
  refine va_iast hx hb hK hP hD hS 1 1 rfl rfl (vin (a := (v 16).toInt) rfl (by omega) (by omega)) dX7_puts_9 (fun H locs hP hD hS => ?_)
  obtain ⟨f_1, ef_1, hP, hD⟩ : ∃ f_1 : Nat → Int32, f_1 = upd f_op (v 16).toNatClampNeg a1 ∧ va_P D vwCl [(A_self, .inr (7, o7 q v w)), (q 14, .inl (c 1, 9000, .inl f_1)), (q 15, .inl (c 1, 9000, .inl f_number))] H ∧ va_D A [(A_self, .inr (7, o7 q v w)), (q 14, .inl (c 1, 9000, .inl f_1)), (q 15, .inl (c 1, 9000, .inl f_number))] := ⟨_, rfl, hP, hD⟩
  refine lv_aload_n hx hb dX7_puts_10 rfl (lv_at hl 0 rfl) ?_
  refine va_get (D := D) (ci := 7) (v := .ref (q 15)) (C := RX7) (T := TX7) (N := 56) hx hb hts (fun _ h => List.mem_cons_of_mem _ (List.mem_append_right _ h)) hown hK hP 0 rfl rfl 15 (by decide) (hts (.fieldLink RX7 32 "CrownTableModel" "number" "[I") (mem_i 3 rfl)) (fun _ h9 => h9) rfl dX7_puts_11 ?_
  refine lv_aload_n hx hb dX7_puts_14 rfl (lv_at hl 0 rfl) ?_
  refine va_get (D := D) (ci := 7) (v := .int (v 16)) (C := RX7) (T := TX7) (N := 56) hx hb hts (fun _ h => List.mem_cons_of_mem _ (List.mem_append_right _ h)) hown hK hP 0 rfl rfl 16 (by decide) (hts (.fieldLink RX7 217 "CrownTableModel" "laid" "I") (mem_i 2 rfl)) (fun _ h9 => h9) rfl dX7_puts_15 ?_
  refine lv_iload_n hx hb dX7_puts_18 rfl (lv_at hl 2 rfl) ?_
  refine va_iast hx hb hK hP hD hS 2 1 rfl rfl (vin (a := (v 16).toInt) rfl (by omega) (by omega)) dX7_puts_19 (fun H locs hP hD hS => ?_)
  obtain ⟨f_2, ef_2, hP, hD⟩ : ∃ f_2 : Nat → Int32, f_2 = upd f_number (v 16).toNatClampNeg a2 ∧ va_P D vwCl [(A_self, .inr (7, o7 q v w)), (q 14, .inl (c 1, 9000, .inl f_1)), (q 15, .inl (c 1, 9000, .inl f_2))] H ∧ va_D A [(A_self, .inr (7, o7 q v w)), (q 14, .inl (c 1, 9000, .inl f_1)), (q 15, .inl (c 1, 9000, .inl f_2))] := ⟨_, rfl, hP, hD⟩
  refine lv_aload_n hx hb dX7_puts_20 rfl (lv_at hl 0 rfl) ?_
  refine lv_dup hx hb dX7_puts_21 rfl ?_
  refine va_get (D := D) (ci := 7) (v := .int (v 16)) (C := RX7) (T := TX7) (N := 56) hx hb hts (fun _ h => List.mem_cons_of_mem _ (List.mem_append_right _ h)) hown hK hP 0 rfl rfl 16 (by decide) (hts (.fieldLink RX7 217 "CrownTableModel" "laid" "I") (mem_i 2 rfl)) (fun _ h9 => h9) rfl dX7_puts_22 ?_
  refine lv_iconst (v := 1) hx hb dX7_puts_25 (by decide) ?_
  refine lv_iadd hx hb dX7_puts_26 ?_
  refine lv_topi (fun x_3 ex_3 => ?_)
  have tx_3 : x_3.toInt = ((v 16).toInt + 1) := by rw [ex_3]; exact add_ti (a := (v 16).toInt) (b := 1) rfl (by decide) (by omega) (by omega)
  refine va_put (D := D) (ci := 7) (v := .int x_3) (ty := .int) (C := RX7) (T := TX7) (N := 56) hx hb hts (fun _ h => List.mem_cons_of_mem _ (List.mem_append_right _ h)) tyX7 tyX7_ok nmX7 hown hK hP hD hS 0 rfl rfl 16 (by decide) (hts (.fieldLink RX7 217 "CrownTableModel" "laid" "I") (mem_i 2 rfl)) (fun _ h9 => h9) rfl (by decide +kernel) rfl rfl (Nat.le_of_ble_eq_true rfl) dX7_puts_27 (fun H locs hP hD hS => ?_)
  have hP : va_P D vwCl [(A_self, .inr (7, o7 q (upd v 16 x_3) w)), (q 14, .inl (c 1, 9000, .inl f_1)), (q 15, .inl (c 1, 9000, .inl f_2))] H := hP
  have hD : va_D A [(A_self, .inr (7, o7 q (upd v 16 x_3) w)), (q 14, .inl (c 1, 9000, .inl f_1)), (q 15, .inl (c 1, 9000, .inl f_2))] := hD
  have hP9 := hP.sub (ws' := [(A_self, .inr (7, o7 q (upd v 16 x_3) w)), (q 14, .inl (c 1, 9000, .inl f_1)), (q 15, .inl (c 1, 9000, .inl f_2))]) [0, 1, 2] rfl
  have hD9 := hD.sub (ws' := [(A_self, .inr (7, o7 q (upd v 16 x_3) w)), (q 14, .inl (c 1, 9000, .inl f_1)), (q 15, .inl (c 1, 9000, .inl f_2))]) [0, 1, 2] (by decide) rfl
  refine W.widen (k := 0) (n := 0) (by omega) (by omega) ?_
  exact W.vret hx hb hr (fun t ht hW => ⟨⟨(x_3, f_1, f_2, ()), rfl, ⟨(show x_3.toInt = (v 16).toInt + 1 by omega), (show ∀ j : Nat, ¬ ((j : Int) = (v 16).toInt) → f_1 j = f_op j from (fun j hj => by rw [ef_1]; exact upd_ne _ _ (fun z => hj (by rw [z, clampN (x := (v 16)) rfl]; omega)))), (show f_1 (v 16).toInt.toNat = a1 from (by rw [ef_1, ← clampN (x := (v 16)) rfl]; exact upd_eq _ _ _))⟩, ⟨by rw [ht]; exact hP9, hD9⟩⟩, hS.F ht⟩) hS.2.2 dX7_puts_30

set_option maxHeartbeats 4000000 in
set_option maxRecDepth 100000 in
theorem k_X7_takes (l : Launch) (D : va_G) (c : Nat → ClassId) (ts : Nat × Nat) (sz : Nat) (A_self : Nat) (q : Nat → Nat) (v : Nat → Int32) (w : Nat → Int64) (f_tape : Nat → Int32) (a1 : Int32) (i_a1 : Int) (hi_a1 : a1.toInt = i_a1) (hv_2 : 0 ≤ (v 2).toInt ∧ (v 2).toInt ≤ 800) (hv_8 : 0 ≤ (v 8).toInt ∧ (v 8).toInt ≤ 10) (hv_21 : 0 ≤ (v 21).toInt ∧ (v 21).toInt ≤ 40) (hv_24 : 0 ≤ (v 24).toInt ∧ (v 24).toInt ≤ 1000) (hv_27 : 0 ≤ (v 27).toInt ∧ (v 27).toInt ≤ 400) (hv_42 : 0 ≤ (v 42).toInt ∧ (v 42).toInt ≤ 4000) (hv_52 : 0 ≤ (v 52).toInt ∧ (v 52).toInt ≤ 2000) (hv_a1 : 1 ≤ i_a1 ∧ i_a1 ≤ 200) (hq0 : 0 ≤ (v 3).toInt ∧ (v 3).toInt ≤ (v 2).toInt) (hq1 : 0 ≤ (v 5).toInt ∧ (v 5).toInt ≤ (v 3).toInt) (hq2 : (v 4).toInt = 0 ∨ (v 5).toInt + 1 ≤ (v 3).toInt) : Met l yX7_takes wsX7_takes ({ frames := 2, cells := 0, slots := 0, locals := 45 }) (va_Pc [.ref A_self, .int a1] (Pre0 D c ts [(A_self, .inr (7, o7 q v w)), (q 1, .inl (c 0, 800, .inl f_tape))] sz)) (va_Qi (fun (r : Int32) (u : Int32 × Int32 × Int32 × Int32 × Int32 × Int32 × Unit) => (((True) ∧ r = 1) ∨ ((True) ∧ r = 0)) ∧ ((v 3).toInt ≤ u.1.toInt ∧ u.1.toInt ≤ (v 2).toInt) ∧ ((v 5).toInt ≤ u.2.2.1.toInt ∧ u.2.2.1.toInt ≤ u.1.toInt) ∧ (u.2.1.toInt = 0 ∨ u.2.2.1.toInt + 1 ≤ u.1.toInt) ∧ ((r.toInt = 1 ∧ u.2.2.2.2.2.1.toInt < 0 ∧ u.2.2.2.2.2.1.toInt = (v 17).toInt ∧ (v 5).toInt + 1 ≤ u.2.2.1.toInt) ∨ (r.toInt = 0 ∧ 0 ≤ u.2.2.2.2.2.1.toInt))) (fun u t => va_P D vwCl [(A_self, .inr (7, o7 q (upd (upd (upd (upd (upd (upd v 3 u.1) 4 u.2.1) 5 u.2.2.1) 6 u.2.2.2.1) 7 u.2.2.2.2.1) 17 u.2.2.2.2.2.1) w)), (q 1, .inl (c 0, 800, .inl f_tape))] t.heap ∧ va_D (va_A [(A_self, .inr (7, o7 q v w)), (q 1, .inl (c 0, 800, .inl f_tape))] sz) [(A_self, .inr (7, o7 q (upd (upd (upd (upd (upd (upd v 3 u.1) 4 u.2.1) 5 u.2.2.1) 6 u.2.2.2.1) 7 u.2.2.2.2.1) 17 u.2.2.2.2.2.1) w)), (q 1, .inl (c 0, 800, .inl f_tape))]) (va_A [(A_self, .inr (7, o7 q v w)), (q 1, .inl (c 0, 800, .inl f_tape))] sz)) 0 0 (va_A [(A_self, .inr (7, o7 q v w)), (q 1, .inl (c 0, 800, .inl f_tape))] sz) := by
  refine Met.ofW (cc := cX7_takes) (maxL := 2) (ret := (some .boolean)) (by decide) rfl ?_
  intro p e s m args below meth cd s₁ B hml hv
  obtain ⟨rfl, hsz, hP, hD0, hAm, hSt⟩ := hv
  have hx := B.exec
  have hb := B.bytes
  have hr := B.returns
  have hts := atoms_spec (ws := wsX7_takes) B.pre
  have hown : s.vm.findClass RX7 = some m.cls := findClass_of_methodNamed B.named
  have hlocks := B.notSynchronized
  have hK := hAm.1
  subst hsz
  have hD := hD0.self (sz := s.heap.size)
  generalize hAe : va_A [(A_self, .inr (7, o7 q v w)), (q 1, .inl (c 0, 800, .inl f_tape))] s.heap.size = A at hD hSt ⊢
  have hA : ∀ q : Nat, s.heap.size ≤ q → A q := fun q h => by rw [← hAe]; exact Or.inr h
  have hS : va_S A s.heap s.heap [] := va_S.rf
  clear hD0 hAe
  have hl := lv_entry ([.ref A_self, .int a1]) (n := 2) (Nat.le_of_ble_eq_true rfl)
  rw [lg_entry_eq]
  generalize (lg_sl ([.ref A_self, .int a1]) ++ List.replicate (2 - (lg_sl ([.ref A_self, .int a1])).length) Slot.unset).toArray = ls at hl ⊢
  have hl : lv_has ls 2 [(0, .ref A_self), (1, .int a1)] := hl
  refine lv_aload_n hx hb dX7_takes_0 rfl (lv_at hl 0 rfl) ?_
  refine va_get (D := D) (ci := 7) (v := .int (v 17)) (C := RX7) (T := TX7) (N := 56) hx hb hts (fun _ h => List.mem_cons_of_mem _ (List.mem_append_right _ h)) hown hK hP 0 rfl rfl 17 (by decide) (hts (.fieldLink RX7 208 "CrownTableModel" "fault" "I") (mem_i 1 rfl)) (fun _ h9 => h9) rfl dX7_takes_1 ?_
  refine iif_lt (a := (v 17).toInt) (tgt := 9) hx hb rfl dX7_takes_4 (by decide) (fun k_1 => ?_) (fun k_1 => ?_)
  · skip
    refine lv_aload_n hx hb dX7_takes_9 rfl (lv_at hl 0 rfl) ?_
    refine va_get (D := D) (ci := 7) (v := .int (v 4)) (C := RX7) (T := TX7) (N := 56) hx hb hts (fun _ h => List.mem_cons_of_mem _ (List.mem_append_right _ h)) hown hK hP 0 rfl rfl 4 (by decide) (hts (.fieldLink RX7 142 "CrownTableModel" "tk" "I") (mem_i 2 rfl)) (fun _ h9 => h9) rfl dX7_takes_10 ?_
    refine lv_iload_n hx hb dX7_takes_13 rfl (lv_at hl 1 rfl) ?_
    refine iicmp_eq (a := (v 4).toInt) (b := i_a1) (tgt := 23) hx hb rfl hi_a1 dX7_takes_14 (by decide) (fun k_2 => ?_) (fun k_2 => ?_)
    · skip
      refine lv_aload_n hx hb dX7_takes_23 rfl (lv_at hl 0 rfl) ?_
      have hPc := hP.sub (ws' := [(A_self, .inr (7, o7 q v w)), (q 1, .inl (c 0, 800, .inl f_tape))]) [0, 1] rfl
      have hDc := hD.sub (ws' := [(A_self, .inr (7, o7 q v w)), (q 1, .inl (c 0, 800, .inl f_tape))]) [0, 1] (by decide) rfl
      have hFc := va_free (wc := [(A_self, .inr (7, o7 q v w)), (q 1, .inl (c 0, 800, .inl f_tape))]) hD hS hA [0, 1] rfl
      refine va_callv (va_runV (As := []) (rest := []) ⟨hx, hb, hml, hown, hts⟩ (k_X7_advance l D c ts s.heap.size A_self q v w f_tape (show 0 ≤ (v 2).toInt ∧ (v 2).toInt ≤ 800 by omega) (show 0 ≤ (v 8).toInt ∧ (v 8).toInt ≤ 10 by omega) (show 0 ≤ (v 21).toInt ∧ (v 21).toInt ≤ 40 by omega) (show 0 ≤ (v 24).toInt ∧ (v 24).toInt ≤ 1000 by omega) (show 0 ≤ (v 27).toInt ∧ (v 27).toInt ≤ 400 by omega) (show 0 ≤ (v 42).toInt ∧ (v 42).toInt ≤ 4000 by omega) (show 0 ≤ (v 52).toInt ∧ (v 52).toInt ≤ 2000 by omega) (show 0 ≤ (v 3).toInt ∧ (v 3).toInt ≤ (v 2).toInt by omega)) (cwV 0 hts gX7_takes_X7_advance rfl rfl rfl ⟨rfl, hdX7_advance⟩ ⟨(show 1 + 1 ≤ 2 by decide), (show 8 + (5 + 11) + 21 ≤ 45 by decide)⟩) ⟨Pre0.blind, va_recv hK hPc (ci := 7) (q0 := 0) rfl rfl, Pre0.at hPc hDc hAm hSt hS hFc⟩ rfl rfl hl.1 rfl (lv_room (Nat.le_of_ble_eq_true rfl)) dX7_takes_24 ⟨(show 0 + 0 ≤ 0 by decide), (show 0 + 0 ≤ 0 by decide)⟩) hS (fun q _ h => hFc q h) hFc (fun u_5 t1 H locs ht hvm hw_3 hB_9 hz1_9 hk1_9 hS => ?_)
      obtain ⟨y_6, y_7, y_8, y_9, y_10, _⟩ := u_5
      have hw_3 : ((v 3).toInt ≤ y_8.toInt ∧ y_8.toInt ≤ y_6.toInt ∧ y_6.toInt ≤ (v 2).toInt) ∧ (y_7.toInt = 0 ∨ y_8.toInt + 1 ≤ y_6.toInt) := hw_3
      obtain ⟨hw_11, hw_12⟩ := hw_3
      obtain ⟨hP1_9, hD1_9⟩ := hB_9
      rw [ht] at hP1_9
      have hP1_9 : va_P D vwCl [(A_self, .inr (7, o7 q (upd (upd (upd (upd (upd v 3 y_6) 4 y_7) 5 y_8) 6 y_9) 7 y_10) w)), (q 1, .inl (c 0, 800, .inl f_tape))] H := hP1_9
      obtain ⟨hP, hD⟩ := va_join (wr := []) (w1 := [(A_self, .inr (7, o7 q (upd (upd (upd (upd (upd v 3 y_6) 4 y_7) 5 y_8) 6 y_9) 7 y_10) w)), (q 1, .inl (c 0, 800, .inl f_tape))]) hP hD [0, 1] [] rfl rfl (by decide) (by decide) hk1_9 hFc hP1_9 hD1_9
      have hP : va_P D vwCl [(A_self, .inr (7, o7 q (upd (upd (upd (upd (upd v 3 y_6) 4 y_7) 5 y_8) 6 y_9) 7 y_10) w)), (q 1, .inl (c 0, 800, .inl f_tape))] H := hP
      have hD : va_D A [(A_self, .inr (7, o7 q (upd (upd (upd (upd (upd v 3 y_6) 4 y_7) 5 y_8) 6 y_9) 7 y_10) w)), (q 1, .inl (c 0, 800, .inl f_tape))] := hD
      refine W.widen (k := 0) (n := 0) (by omega) (by omega) ?_
      refine lv_iconst (v := 1) hx hb dX7_takes_27 (by decide) ?_
      have kzz_13 : (1 : Int32).toInt = 1 := by decide
      have hP9 := hP.sub (ws' := [(A_self, .inr (7, o7 q (upd (upd (upd (upd (upd v 3 y_6) 4 y_7) 5 y_8) 6 y_9) 7 y_10) w)), (q 1, .inl (c 0, 800, .inl f_tape))]) [0, 1] rfl
      have hD9 := hD.sub (ws' := [(A_self, .inr (7, o7 q (upd (upd (upd (upd (upd v 3 y_6) 4 y_7) 5 y_8) 6 y_9) 7 y_10) w)), (q 1, .inl (c 0, 800, .inl f_tape))]) [0, 1] (by decide) rfl
      refine W.widen (k := 0) (n := 0) (by omega) (by omega) ?_
      exact W.zret (v := 1) hx hb hr (by decide) (fun t ht hW => ⟨⟨_, (y_6, y_7, y_8, y_9, y_10, (v 17), ()), rfl, ⟨Or.inl ⟨trivial, rfl⟩, (show (v 3).toInt ≤ y_6.toInt ∧ y_6.toInt ≤ (v 2).toInt by omega), (show (v 5).toInt ≤ y_8.toInt ∧ y_8.toInt ≤ y_6.toInt by omega), (show y_7.toInt = 0 ∨ y_8.toInt + 1 ≤ y_6.toInt by omega), (show ((1 : Int32).toInt = 1 ∧ (v 17).toInt < 0 ∧ (v 17).toInt = (v 17).toInt ∧ (v 5).toInt + 1 ≤ y_8.toInt) ∨ ((1 : Int32).toInt = 0 ∧ 0 ≤ (v 17).toInt) by omega)⟩, ⟨by rw [ht]; exact hP9, hD9⟩⟩, hS.F ht⟩) hS.2.2 dX7_takes_28
    · skip
      refine lv_aload_n hx hb dX7_takes_17 rfl (lv_at hl 0 rfl) ?_
      have hPc := hP.sub (ws' := [(A_self, .inr (7, o7 q v w))]) [0] rfl
      have hDc := hD.sub (ws' := [(A_self, .inr (7, o7 q v w))]) [0] (by decide) rfl
      have hFc := va_free (wc := [(A_self, .inr (7, o7 q v w))]) hD hS hA [0] rfl
      refine va_callv (va_runV (As := []) (rest := []) ⟨hx, hb, hml, hown, hts⟩ (k_X7_wrong l D c ts s.heap.size A_self q v w (show 0 ≤ (v 2).toInt ∧ (v 2).toInt ≤ 800 by omega) (show 0 ≤ (v 8).toInt ∧ (v 8).toInt ≤ 10 by omega) (show 0 ≤ (v 21).toInt ∧ (v 21).toInt ≤ 40 by omega) (show 0 ≤ (v 24).toInt ∧ (v 24).toInt ≤ 1000 by omega) (show 0 ≤ (v 27).toInt ∧ (v 27).toInt ≤ 400 by omega) (show 0 ≤ (v 42).toInt ∧ (v 42).toInt ≤ 4000 by omega) (show 0 ≤ (v 52).toInt ∧ (v 52).toInt ≤ 2000 by omega) (show 0 ≤ (v 5).toInt by omega)) (cwV 0 hts gX7_takes_X7_wrong rfl rfl rfl ⟨rfl, hdX7_wrong⟩ ⟨(show 0 + 1 ≤ 2 by decide), (show 8 + (1 + 11) + 0 ≤ 45 by decide)⟩) ⟨Pre0.blind, va_recv hK hPc (ci := 7) (q0 := 0) rfl rfl, Pre0.at hPc hDc hAm hSt hS hFc⟩ rfl rfl hl.1 rfl (lv_room (Nat.le_of_ble_eq_true rfl)) dX7_takes_18 ⟨(show 0 + 0 ≤ 0 by decide), (show 0 + 0 ≤ 0 by decide)⟩) hS (fun q _ h => hFc q h) hFc (fun u_16 t1 H locs ht hvm hw_14 hB_9 hz1_9 hk1_9 hS => ?_)
      obtain ⟨y_17, _⟩ := u_16
      have hw_14 : (0 ≤ y_17.toInt) := hw_14
      obtain ⟨hP1_9, hD1_9⟩ := hB_9
      rw [ht] at hP1_9
      have hP1_9 : va_P D vwCl [(A_self, .inr (7, o7 q (upd v 17 y_17) w))] H := hP1_9
      obtain ⟨hP, hD⟩ := va_join (wr := [(q 1, .inl (c 0, 800, .inl f_tape))]) (w1 := [(A_self, .inr (7, o7 q (upd v 17 y_17) w))]) hP hD [0] [1] rfl rfl (by decide) (by decide) hk1_9 hFc hP1_9 hD1_9
      have hP : va_P D vwCl [(q 1, .inl (c 0, 800, .inl f_tape)), (A_self, .inr (7, o7 q (upd v 17 y_17) w))] H := hP
      have hD : va_D A [(q 1, .inl (c 0, 800, .inl f_tape)), (A_self, .inr (7, o7 q (upd v 17 y_17) w))] := hD
      refine W.widen (k := 0) (n := 0) (by omega) (by omega) ?_
      refine lv_iconst (v := 0) hx hb dX7_takes_21 (by decide) ?_
      have kzz_18 : (0 : Int32).toInt = 0 := by decide
      have hP9 := hP.sub (ws' := [(A_self, .inr (7, o7 q (upd v 17 y_17) w)), (q 1, .inl (c 0, 800, .inl f_tape))]) [1, 0] rfl
      have hD9 := hD.sub (ws' := [(A_self, .inr (7, o7 q (upd v 17 y_17) w)), (q 1, .inl (c 0, 800, .inl f_tape))]) [1, 0] (by decide) rfl
      refine W.widen (k := 0) (n := 0) (by omega) (by omega) ?_
      exact W.zret (v := 0) hx hb hr (by decide) (fun t ht hW => ⟨⟨_, ((v 3), (v 4), (v 5), (v 6), (v 7), y_17, ()), rfl, ⟨Or.inr (⟨trivial, rfl⟩), (show (v 3).toInt ≤ (v 3).toInt ∧ (v 3).toInt ≤ (v 2).toInt by omega), (show (v 5).toInt ≤ (v 5).toInt ∧ (v 5).toInt ≤ (v 3).toInt by omega), (show (v 4).toInt = 0 ∨ (v 5).toInt + 1 ≤ (v 3).toInt by omega), (show ((0 : Int32).toInt = 1 ∧ y_17.toInt < 0 ∧ y_17.toInt = (v 17).toInt ∧ (v 5).toInt + 1 ≤ (v 5).toInt) ∨ ((0 : Int32).toInt = 0 ∧ 0 ≤ y_17.toInt) by omega)⟩, ⟨by rw [ht]; exact hP9, hD9⟩⟩, hS.F ht⟩) hS.2.2 dX7_takes_22
  · skip
    refine lv_iconst (v := 0) hx hb dX7_takes_7 (by decide) ?_
    have kzz_19 : (0 : Int32).toInt = 0 := by decide
    have hP9 := hP.sub (ws' := [(A_self, .inr (7, o7 q v w)), (q 1, .inl (c 0, 800, .inl f_tape))]) [0, 1] rfl
    have hD9 := hD.sub (ws' := [(A_self, .inr (7, o7 q v w)), (q 1, .inl (c 0, 800, .inl f_tape))]) [0, 1] (by decide) rfl
    refine W.widen (k := 0) (n := 0) (by omega) (by omega) ?_
    exact W.zret (v := 0) hx hb hr (by decide) (fun t ht hW => ⟨⟨_, ((v 3), (v 4), (v 5), (v 6), (v 7), (v 17), ()), rfl, ⟨Or.inr (⟨trivial, rfl⟩), (show (v 3).toInt ≤ (v 3).toInt ∧ (v 3).toInt ≤ (v 2).toInt by omega), (show (v 5).toInt ≤ (v 5).toInt ∧ (v 5).toInt ≤ (v 3).toInt by omega), (show (v 4).toInt = 0 ∨ (v 5).toInt + 1 ≤ (v 3).toInt by omega), (show ((0 : Int32).toInt = 1 ∧ (v 17).toInt < 0 ∧ (v 17).toInt = (v 17).toInt ∧ (v 5).toInt + 1 ≤ (v 5).toInt) ∨ ((0 : Int32).toInt = 0 ∧ 0 ≤ (v 17).toInt) by omega)⟩, ⟨by rw [ht]; exact hP9, hD9⟩⟩, hS.F ht⟩) hS.2.2 dX7_takes_8

set_option maxHeartbeats 4000000 in
set_option maxRecDepth 100000 in
theorem k_X7_one (l : Launch) (D : va_G) (c : Nat → ClassId) (ts : Nat × Nat) (sz : Nat) (A_self : Nat) (q : Nat → Nat) (v : Nat → Int32) (w : Nat → Int64) (f_tape : Nat → Int32) (f_op : Nat → Int32) (f_number : Nat → Int32) (a0 : Int) (dd : Int) (PB : Int) (BB : Int) (hv_2 : 0 ≤ (v 2).toInt ∧ (v 2).toInt ≤ 800) (hv_8 : 0 ≤ (v 8).toInt ∧ (v 8).toInt ≤ 10) (hv_21 : 0 ≤ (v 21).toInt ∧ (v 21).toInt ≤ 40) (hv_24 : 0 ≤ (v 24).toInt ∧ (v 24).toInt ≤ 1000) (hv_27 : 0 ≤ (v 27).toInt ∧ (v 27).toInt ≤ 400) (hv_42 : 0 ≤ (v 42).toInt ∧ (v 42).toInt ≤ 4000) (hv_52 : 0 ≤ (v 52).toInt ∧ (v 52).toInt ≤ 2000) (hq0 : 0 ≤ (v 3).toInt ∧ (v 3).toInt ≤ (v 2).toInt) (hq1 : 0 ≤ (v 5).toInt ∧ (v 5).toInt ≤ (v 3).toInt) (hq2 : (v 4).toInt = 0 ∨ (v 5).toInt + 1 ≤ (v 3).toInt) (hq3 : 0 ≤ a0 ∧ a0 ≤ (v 16).toInt ∧ 0 ≤ PB ∧ 0 ≤ BB ∧ BB ≤ 8100 ∧ (v 16).toInt + PB ≤ BB + (v 5).toInt) (hq4 : 0 ≤ dd ∧ dd ≤ 390 ∧ ((v 17).toInt < 0 → dep f_op a0 ((v 16).toInt - a0).toNat = dd)) : Met l yX7_one wsX7_one ({ frames := 2, cells := 0, slots := 0, locals := 45 }) (va_Pc [.ref A_self] (Pre0 D c ts [(A_self, .inr (7, o7 q v w)), (q 1, .inl (c 0, 800, .inl f_tape)), (q 14, .inl (c 1, 9000, .inl f_op)), (q 15, .inl (c 1, 9000, .inl f_number))] sz)) (va_Qv (fun (u : Int32 × Int32 × Int32 × Int32 × Int32 × Int32 × Int32 × (Nat → Int32) × (Nat → Int32) × Unit) => ((v 3).toInt ≤ u.1.toInt ∧ u.1.toInt ≤ (v 2).toInt) ∧ ((v 5).toInt ≤ u.2.2.1.toInt ∧ u.2.2.1.toInt ≤ u.1.toInt) ∧ (u.2.1.toInt = 0 ∨ u.2.2.1.toInt + 1 ≤ u.1.toInt) ∧ ((v 16).toInt ≤ u.2.2.2.2.2.1.toInt ∧ u.2.2.2.2.2.1.toInt + PB ≤ BB + u.2.2.1.toInt) ∧ (u.2.2.2.2.2.2.1.toInt < 0 → ((v 17).toInt < 0 ∧ dep u.2.2.2.2.2.2.2.1 a0 (u.2.2.2.2.2.1.toInt - a0).toNat = dd + 1 ∧ (v 5).toInt + 1 ≤ u.2.2.1.toInt)) ∧ (∀ j : Nat, (j : Int) < (v 16).toInt → u.2.2.2.2.2.2.2.1 j = f_op j)) (fun u t => va_P D vwCl [(A_self, .inr (7, o7 q (upd (upd (upd (upd (upd (upd (upd v 3 u.1) 4 u.2.1) 5 u.2.2.1) 6 u.2.2.2.1) 7 u.2.2.2.2.1) 16 u.2.2.2.2.2.1) 17 u.2.2.2.2.2.2.1) w)), (q 1, .inl (c 0, 800, .inl f_tape)), (q 14, .inl (c 1, 9000, .inl u.2.2.2.2.2.2.2.1)), (q 15, .inl (c 1, 9000, .inl u.2.2.2.2.2.2.2.2.1))] t.heap ∧ va_D (va_A [(A_self, .inr (7, o7 q v w)), (q 1, .inl (c 0, 800, .inl f_tape)), (q 14, .inl (c 1, 9000, .inl f_op)), (q 15, .inl (c 1, 9000, .inl f_number))] sz) [(A_self, .inr (7, o7 q (upd (upd (upd (upd (upd (upd (upd v 3 u.1) 4 u.2.1) 5 u.2.2.1) 6 u.2.2.2.1) 7 u.2.2.2.2.1) 16 u.2.2.2.2.2.1) 17 u.2.2.2.2.2.2.1) w)), (q 1, .inl (c 0, 800, .inl f_tape)), (q 14, .inl (c 1, 9000, .inl u.2.2.2.2.2.2.2.1)), (q 15, .inl (c 1, 9000, .inl u.2.2.2.2.2.2.2.2.1))]) (va_A [(A_self, .inr (7, o7 q v w)), (q 1, .inl (c 0, 800, .inl f_tape)), (q 14, .inl (c 1, 9000, .inl f_op)), (q 15, .inl (c 1, 9000, .inl f_number))] sz)) 0 0 (va_A [(A_self, .inr (7, o7 q v w)), (q 1, .inl (c 0, 800, .inl f_tape)), (q 14, .inl (c 1, 9000, .inl f_op)), (q 15, .inl (c 1, 9000, .inl f_number))] sz) := by
  refine Met.ofW (cc := cX7_one) (maxL := 1) (ret := none) (by decide) rfl ?_
  intro p e s m args below meth cd s₁ B hml hv
  obtain ⟨rfl, hsz, hP, hD0, hAm, hSt⟩ := hv
  have hx := B.exec
  have hb := B.bytes
  have hr := B.returns
  have hts := atoms_spec (ws := wsX7_one) B.pre
  have hown : s.vm.findClass RX7 = some m.cls := findClass_of_methodNamed B.named
  have hlocks := B.notSynchronized
  have hK := hAm.1
  subst hsz
  have hD := hD0.self (sz := s.heap.size)
  generalize hAe : va_A [(A_self, .inr (7, o7 q v w)), (q 1, .inl (c 0, 800, .inl f_tape)), (q 14, .inl (c 1, 9000, .inl f_op)), (q 15, .inl (c 1, 9000, .inl f_number))] s.heap.size = A at hD hSt ⊢
  have hA : ∀ q : Nat, s.heap.size ≤ q → A q := fun q h => by rw [← hAe]; exact Or.inr h
  have hS : va_S A s.heap s.heap [] := va_S.rf
  clear hD0 hAe
  have hl := lv_entry ([.ref A_self]) (n := 1) (Nat.le_of_ble_eq_true rfl)
  rw [lg_entry_eq]
  generalize (lg_sl ([.ref A_self]) ++ List.replicate (1 - (lg_sl ([.ref A_self])).length) Slot.unset).toArray = ls at hl ⊢
  have hl : lv_has ls 1 [(0, .ref A_self)] := hl
  refine lv_aload_n hx hb dX7_one_0 rfl (lv_at hl 0 rfl) ?_
  refine va_get (D := D) (ci := 7) (v := .int (v 17)) (C := RX7) (T := TX7) (N := 56) hx hb hts (fun _ h => List.mem_cons_of_mem _ (List.mem_append_right _ h)) hown hK hP 0 rfl rfl 17 (by decide) (hts (.fieldLink RX7 208 "CrownTableModel" "fault" "I") (mem_i 1 rfl)) (fun _ h9 => h9) rfl dX7_one_1 ?_
  refine iif_lt (a := (v 17).toInt) (tgt := 8) hx hb rfl dX7_one_4 (by decide) (fun k_1 => ?_) (fun k_1 => ?_)
  · skip
    refine lv_aload_n hx hb dX7_one_8 rfl (lv_at hl 0 rfl) ?_
    refine va_get (D := D) (ci := 7) (v := .int (v 4)) (C := RX7) (T := TX7) (N := 56) hx hb hts (fun _ h => List.mem_cons_of_mem _ (List.mem_append_right _ h)) hown hK hP 0 rfl rfl 4 (by decide) (hts (.fieldLink RX7 142 "CrownTableModel" "tk" "I") (mem_i 2 rfl)) (fun _ h9 => h9) rfl dX7_one_9 ?_
    refine lv_bipush (v := 50) hx hb dX7_one_12 (by decide) ?_
    refine iicmp_ne (a := (v 4).toInt) (b := 50) (tgt := 42) hx hb rfl (by decide) dX7_one_14 (by decide) (fun k_2 => ?_) (fun k_2 => ?_)
    · skip
      refine lv_aload_n hx hb dX7_one_42 rfl (lv_at hl 0 rfl) ?_
      refine va_get (D := D) (ci := 7) (v := .int (v 4)) (C := RX7) (T := TX7) (N := 56) hx hb hts (fun _ h => List.mem_cons_of_mem _ (List.mem_append_right _ h)) hown hK hP 0 rfl rfl 4 (by decide) (hts (.fieldLink RX7 142 "CrownTableModel" "tk" "I") (mem_i 2 rfl)) (fun _ h9 => h9) rfl dX7_one_43 ?_
      refine lv_bipush (v := 111) hx hb dX7_one_46 (by decide) ?_
      refine lv_bipush (v := 120) hx hb dX7_one_48 (by decide) ?_
      have hPc := hP.sub (ws' := []) [] rfl
      have hDc := hD.sub (ws' := []) [] (by decide) rfl
      have hFc := va_free (wc := []) hD hS hA [] rfl
      have kzz_3 : (111 : Int32).toInt = 111 := by decide
      have kzz_4 : (120 : Int32).toInt = 120 := by decide
      refine va_csi (va_runS (As := [.int (v 4), .int 111, .int 120]) (rest := []) ⟨hx, hb, hml, hown, hts⟩ (k_X7_in l D c ts s.heap.size (v 4) ((v 4).toInt) rfl 111 111 (by decide) 120 120 (by decide)) (cwS 3 hts gX7_one_X7_in rfl rfl rfl ⟨rfl, hdX7_in⟩ ⟨(show 0 + 1 ≤ 2 by decide), (show 8 + (3 + 11) + 0 ≤ 45 by decide)⟩) ⟨Pre0.blind, Pre0.at hPc hDc hAm hSt hS hFc⟩ rfl rfl hl.1 rfl (lv_room (Nat.le_of_ble_eq_true rfl)) dX7_one_50 ⟨(show 0 + 0 ≤ 0 by decide), (show 0 + 0 ≤ 0 by decide)⟩) (fun r_6 hw_5 => ?_)
      rcases hw_5 with ⟨hw_5, rfl⟩ | ⟨hw_5, rfl⟩
      · skip
        refine iif_eqF (a := 1) (tgt := 72) hx hb (by decide) dX7_one_53 (by decide) (by decide) ?_
        refine lv_aload_n hx hb dX7_one_56 rfl (lv_at hl 0 rfl) ?_
        refine lv_aload_n hx hb dX7_one_57 rfl (lv_at hl 0 rfl) ?_
        refine va_get (D := D) (ci := 7) (v := .int (v 4)) (C := RX7) (T := TX7) (N := 56) hx hb hts (fun _ h => List.mem_cons_of_mem _ (List.mem_append_right _ h)) hown hK hP 0 rfl rfl 4 (by decide) (hts (.fieldLink RX7 142 "CrownTableModel" "tk" "I") (mem_i 2 rfl)) (fun _ h9 => h9) rfl dX7_one_58 ?_
        refine lv_iconst (v := 0) hx hb dX7_one_61 (by decide) ?_
        have hPc := hP.sub (ws' := [(A_self, .inr (7, o7 q v w)), (q 14, .inl (c 1, 9000, .inl f_op)), (q 15, .inl (c 1, 9000, .inl f_number))]) [0, 2, 3] rfl
        have hDc := hD.sub (ws' := [(A_self, .inr (7, o7 q v w)), (q 14, .inl (c 1, 9000, .inl f_op)), (q 15, .inl (c 1, 9000, .inl f_number))]) [0, 2, 3] (by decide) rfl
        have hFc := va_free (wc := [(A_self, .inr (7, o7 q v w)), (q 14, .inl (c 1, 9000, .inl f_op)), (q 15, .inl (c 1, 9000, .inl f_number))]) hD hS hA [0, 2, 3] rfl
        have kzz_7 : (0 : Int32).toInt = 0 := by decide
        refine va_callv (va_runV (As := [.int (v 4), .int 0]) (rest := []) ⟨hx, hb, hml, hown, hts⟩ (k_X7_puts l D c ts s.heap.size A_self q v w f_op f_number (v 4) ((v 4).toInt) rfl 0 0 (by decide) (show 0 ≤ (v 2).toInt ∧ (v 2).toInt ≤ 800 by omega) (show 0 ≤ (v 8).toInt ∧ (v 8).toInt ≤ 10 by omega) (show 0 ≤ (v 21).toInt ∧ (v 21).toInt ≤ 40 by omega) (show 0 ≤ (v 24).toInt ∧ (v 24).toInt ≤ 1000 by omega) (show 0 ≤ (v 27).toInt ∧ (v 27).toInt ≤ 400 by omega) (show 0 ≤ (v 42).toInt ∧ (v 42).toInt ≤ 4000 by omega) (show 0 ≤ (v 52).toInt ∧ (v 52).toInt ≤ 2000 by omega) (show 0 ≤ (v 16).toInt ∧ (v 16).toInt ≤ 8999 by omega)) (cwV 2 hts gX7_one_X7_puts rfl rfl rfl ⟨rfl, hdX7_puts⟩ ⟨(show 0 + 1 ≤ 2 by decide), (show 8 + (3 + 11) + 0 ≤ 45 by decide)⟩) ⟨Pre0.blind, va_recv hK hPc (ci := 7) (q0 := 0) rfl rfl, Pre0.at hPc hDc hAm hSt hS hFc⟩ rfl rfl hl.1 rfl (lv_room (Nat.le_of_ble_eq_true rfl)) dX7_one_62 ⟨(show 0 + 0 ≤ 0 by decide), (show 0 + 0 ≤ 0 by decide)⟩) hS (fun q _ h => hFc q h) hFc (fun u_10 t1 H locs ht hvm hw_8 hB_9 hz1_9 hk1_9 hS => ?_)
        obtain ⟨y_11, f_12, f_13, _⟩ := u_10
        have hw_8 : (y_11.toInt = (v 16).toInt + 1) ∧ (∀ j : Nat, ¬ ((j : Int) = (v 16).toInt) → f_12 j = f_op j) ∧ (f_12 (v 16).toInt.toNat = (v 4)) := hw_8
        obtain ⟨hw_14, hw_15, hw_16⟩ := hw_8
        obtain ⟨hP1_9, hD1_9⟩ := hB_9
        rw [ht] at hP1_9
        have hP1_9 : va_P D vwCl [(A_self, .inr (7, o7 q (upd v 16 y_11) w)), (q 14, .inl (c 1, 9000, .inl f_12)), (q 15, .inl (c 1, 9000, .inl f_13))] H := hP1_9
        obtain ⟨hP, hD⟩ := va_join (wr := [(q 1, .inl (c 0, 800, .inl f_tape))]) (w1 := [(A_self, .inr (7, o7 q (upd v 16 y_11) w)), (q 14, .inl (c 1, 9000, .inl f_12)), (q 15, .inl (c 1, 9000, .inl f_13))]) hP hD [0, 2, 3] [1] rfl rfl (by decide) (by decide) hk1_9 hFc hP1_9 hD1_9
        have hP : va_P D vwCl [(q 1, .inl (c 0, 800, .inl f_tape)), (A_self, .inr (7, o7 q (upd v 16 y_11) w)), (q 14, .inl (c 1, 9000, .inl f_12)), (q 15, .inl (c 1, 9000, .inl f_13))] H := hP
        have hD : va_D A [(q 1, .inl (c 0, 800, .inl f_tape)), (A_self, .inr (7, o7 q (upd v 16 y_11) w)), (q 14, .inl (c 1, 9000, .inl f_12)), (q 15, .inl (c 1, 9000, .inl f_13))] := hD
        refine W.widen (k := 0) (n := 0) (by omega) (by omega) ?_
        have dp : dep f_12 a0 (y_11.toInt - a0).toNat = stp (v 4).toInt (dep f_op a0 ((v 16).toInt - a0).toNat) := by rw [show y_11.toInt = (v 16).toInt + 1 from hw_14]; exact dep_puts (x := (v 4)) (by omega) (by omega) hw_15 hw_16
        have dq := hq4.2.2 (by omega)
        rw [dq, stp_val (by omega) (by omega) (by omega)] at dp
        refine lv_aload_n hx hb dX7_one_65 rfl (lv_at hl 0 rfl) ?_
        have hPc := hP.sub (ws' := [(A_self, .inr (7, o7 q (upd v 16 y_11) w)), (q 1, .inl (c 0, 800, .inl f_tape))]) [1, 0] rfl
        have hDc := hD.sub (ws' := [(A_self, .inr (7, o7 q (upd v 16 y_11) w)), (q 1, .inl (c 0, 800, .inl f_tape))]) [1, 0] (by decide) rfl
        have hFc := va_free (wc := [(A_self, .inr (7, o7 q (upd v 16 y_11) w)), (q 1, .inl (c 0, 800, .inl f_tape))]) hD hS hA [1, 0] rfl
        refine va_callv (va_runV (As := []) (rest := []) ⟨hx, hb, hml, hown, hts⟩ (k_X7_advance l D c ts H.size A_self q (upd v 16 y_11) w f_tape (show 0 ≤ (v 2).toInt ∧ (v 2).toInt ≤ 800 by omega) (show 0 ≤ (v 8).toInt ∧ (v 8).toInt ≤ 10 by omega) (show 0 ≤ (v 21).toInt ∧ (v 21).toInt ≤ 40 by omega) (show 0 ≤ (v 24).toInt ∧ (v 24).toInt ≤ 1000 by omega) (show 0 ≤ (v 27).toInt ∧ (v 27).toInt ≤ 400 by omega) (show 0 ≤ (v 42).toInt ∧ (v 42).toInt ≤ 4000 by omega) (show 0 ≤ (v 52).toInt ∧ (v 52).toInt ≤ 2000 by omega) (show 0 ≤ (v 3).toInt ∧ (v 3).toInt ≤ (v 2).toInt by omega)) (cwV 0 hts gX7_one_X7_advance rfl rfl rfl ⟨rfl, hdX7_advance⟩ ⟨(show 1 + 1 ≤ 2 by decide), (show 8 + (5 + 11) + 21 ≤ 45 by decide)⟩) ⟨Pre0.blind, va_recv hK hPc (ci := 7) (q0 := 0) rfl rfl, Pre0.at hPc hDc hAm hSt hS hFc⟩ rfl rfl hl.1 rfl (lv_room (Nat.le_of_ble_eq_true rfl)) dX7_one_66 ⟨(show 0 + 0 ≤ 0 by decide), (show 0 + 0 ≤ 0 by decide)⟩) hS (fun q _ h => hFc q h) hFc (fun u_19 t1 H locs ht hvm hw_17 hB_9 hz1_9 hk1_9 hS => ?_)
        obtain ⟨y_20, y_21, y_22, y_23, y_24, _⟩ := u_19
        have hw_17 : ((v 3).toInt ≤ y_22.toInt ∧ y_22.toInt ≤ y_20.toInt ∧ y_20.toInt ≤ (v 2).toInt) ∧ (y_21.toInt = 0 ∨ y_22.toInt + 1 ≤ y_20.toInt) := hw_17
        obtain ⟨hw_25, hw_26⟩ := hw_17
        obtain ⟨hP1_9, hD1_9⟩ := hB_9
        rw [ht] at hP1_9
        have hP1_9 : va_P D vwCl [(A_self, .inr (7, o7 q (upd (upd (upd (upd (upd (upd v 3 y_20) 4 y_21) 5 y_22) 6 y_23) 7 y_24) 16 y_11) w)), (q 1, .inl (c 0, 800, .inl f_tape))] H := hP1_9
        obtain ⟨hP, hD⟩ := va_join (wr := [(q 14, .inl (c 1, 9000, .inl f_12)), (q 15, .inl (c 1, 9000, .inl f_13))]) (w1 := [(A_self, .inr (7, o7 q (upd (upd (upd (upd (upd (upd v 3 y_20) 4 y_21) 5 y_22) 6 y_23) 7 y_24) 16 y_11) w)), (q 1, .inl (c 0, 800, .inl f_tape))]) hP hD [1, 0] [2, 3] rfl rfl (by decide) (by decide) hk1_9 hFc hP1_9 hD1_9
        have hP : va_P D vwCl [(q 14, .inl (c 1, 9000, .inl f_12)), (q 15, .inl (c 1, 9000, .inl f_13)), (A_self, .inr (7, o7 q (upd (upd (upd (upd (upd (upd v 3 y_20) 4 y_21) 5 y_22) 6 y_23) 7 y_24) 16 y_11) w)), (q 1, .inl (c 0, 800, .inl f_tape))] H := hP
        have hD : va_D A [(q 14, .inl (c 1, 9000, .inl f_12)), (q 15, .inl (c 1, 9000, .inl f_13)), (A_self, .inr (7, o7 q (upd (upd (upd (upd (upd (upd v 3 y_20) 4 y_21) 5 y_22) 6 y_23) 7 y_24) 16 y_11) w)), (q 1, .inl (c 0, 800, .inl f_tape))] := hD
        refine W.widen (k := 0) (n := 0) (by omega) (by omega) ?_
        refine lv_goto (tgt := 76) hx hb dX7_one_69 (by decide) ?_
        have hP9 := hP.sub (ws' := [(A_self, .inr (7, o7 q (upd (upd (upd (upd (upd (upd v 3 y_20) 4 y_21) 5 y_22) 6 y_23) 7 y_24) 16 y_11) w)), (q 1, .inl (c 0, 800, .inl f_tape)), (q 14, .inl (c 1, 9000, .inl f_12)), (q 15, .inl (c 1, 9000, .inl f_13))]) [2, 3, 0, 1] rfl
        have hD9 := hD.sub (ws' := [(A_self, .inr (7, o7 q (upd (upd (upd (upd (upd (upd v 3 y_20) 4 y_21) 5 y_22) 6 y_23) 7 y_24) 16 y_11) w)), (q 1, .inl (c 0, 800, .inl f_tape)), (q 14, .inl (c 1, 9000, .inl f_12)), (q 15, .inl (c 1, 9000, .inl f_13))]) [2, 3, 0, 1] (by decide) rfl
        refine W.widen (k := 0) (n := 0) (by omega) (by omega) ?_
        exact W.vret hx hb hr (fun t ht hW => ⟨⟨(y_20, y_21, y_22, y_23, y_24, y_11, (v 17), f_12, f_13, ()), rfl, ⟨(show (v 3).toInt ≤ y_20.toInt ∧ y_20.toInt ≤ (v 2).toInt by omega), (show (v 5).toInt ≤ y_22.toInt ∧ y_22.toInt ≤ y_20.toInt by omega), (show y_21.toInt = 0 ∨ y_22.toInt + 1 ≤ y_20.toInt by omega), (show (v 16).toInt ≤ y_11.toInt ∧ y_11.toInt + PB ≤ BB + y_22.toInt by omega), (show (v 17).toInt < 0 → ((v 17).toInt < 0 ∧ dep f_12 a0 (y_11.toInt - a0).toNat = dd + 1 ∧ (v 5).toInt + 1 ≤ y_22.toInt) from (fun _ => ⟨by omega, dp, by omega⟩)), (show ∀ j : Nat, (j : Int) < (v 16).toInt → f_12 j = f_op j from (fun j hj => by rw [hw_15 j (by omega)]))⟩, ⟨by rw [ht]; exact hP9, hD9⟩⟩, hS.F ht⟩) hS.2.2 dX7_one_76
      · skip
        refine iif_eqT (a := 0) (tgt := 72) hx hb (by decide) dX7_one_53 (by decide) (by decide) ?_
        refine lv_aload_n hx hb dX7_one_72 rfl (lv_at hl 0 rfl) ?_
        have hPc := hP.sub (ws' := [(A_self, .inr (7, o7 q v w))]) [0] rfl
        have hDc := hD.sub (ws' := [(A_self, .inr (7, o7 q v w))]) [0] (by decide) rfl
        have hFc := va_free (wc := [(A_self, .inr (7, o7 q v w))]) hD hS hA [0] rfl
        refine va_callv (va_runV (As := []) (rest := []) ⟨hx, hb, hml, hown, hts⟩ (k_X7_wrong l D c ts s.heap.size A_self q v w (show 0 ≤ (v 2).toInt ∧ (v 2).toInt ≤ 800 by omega) (show 0 ≤ (v 8).toInt ∧ (v 8).toInt ≤ 10 by omega) (show 0 ≤ (v 21).toInt ∧ (v 21).toInt ≤ 40 by omega) (show 0 ≤ (v 24).toInt ∧ (v 24).toInt ≤ 1000 by omega) (show 0 ≤ (v 27).toInt ∧ (v 27).toInt ≤ 400 by omega) (show 0 ≤ (v 42).toInt ∧ (v 42).toInt ≤ 4000 by omega) (show 0 ≤ (v 52).toInt ∧ (v 52).toInt ≤ 2000 by omega) (show 0 ≤ (v 5).toInt by omega)) (cwV 0 hts gX7_one_X7_wrong rfl rfl rfl ⟨rfl, hdX7_wrong⟩ ⟨(show 0 + 1 ≤ 2 by decide), (show 8 + (1 + 11) + 0 ≤ 45 by decide)⟩) ⟨Pre0.blind, va_recv hK hPc (ci := 7) (q0 := 0) rfl rfl, Pre0.at hPc hDc hAm hSt hS hFc⟩ rfl rfl hl.1 rfl (lv_room (Nat.le_of_ble_eq_true rfl)) dX7_one_73 ⟨(show 0 + 0 ≤ 0 by decide), (show 0 + 0 ≤ 0 by decide)⟩) hS (fun q _ h => hFc q h) hFc (fun u_29 t1 H locs ht hvm hw_27 hB_9 hz1_9 hk1_9 hS => ?_)
        obtain ⟨y_30, _⟩ := u_29
        have hw_27 : (0 ≤ y_30.toInt) := hw_27
        obtain ⟨hP1_9, hD1_9⟩ := hB_9
        rw [ht] at hP1_9
        have hP1_9 : va_P D vwCl [(A_self, .inr (7, o7 q (upd v 17 y_30) w))] H := hP1_9
        obtain ⟨hP, hD⟩ := va_join (wr := [(q 1, .inl (c 0, 800, .inl f_tape)), (q 14, .inl (c 1, 9000, .inl f_op)), (q 15, .inl (c 1, 9000, .inl f_number))]) (w1 := [(A_self, .inr (7, o7 q (upd v 17 y_30) w))]) hP hD [0] [1, 2, 3] rfl rfl (by decide) (by decide) hk1_9 hFc hP1_9 hD1_9
        have hP : va_P D vwCl [(q 1, .inl (c 0, 800, .inl f_tape)), (q 14, .inl (c 1, 9000, .inl f_op)), (q 15, .inl (c 1, 9000, .inl f_number)), (A_self, .inr (7, o7 q (upd v 17 y_30) w))] H := hP
        have hD : va_D A [(q 1, .inl (c 0, 800, .inl f_tape)), (q 14, .inl (c 1, 9000, .inl f_op)), (q 15, .inl (c 1, 9000, .inl f_number)), (A_self, .inr (7, o7 q (upd v 17 y_30) w))] := hD
        refine W.widen (k := 0) (n := 0) (by omega) (by omega) ?_
        have hP9 := hP.sub (ws' := [(A_self, .inr (7, o7 q (upd v 17 y_30) w)), (q 1, .inl (c 0, 800, .inl f_tape)), (q 14, .inl (c 1, 9000, .inl f_op)), (q 15, .inl (c 1, 9000, .inl f_number))]) [3, 0, 1, 2] rfl
        have hD9 := hD.sub (ws' := [(A_self, .inr (7, o7 q (upd v 17 y_30) w)), (q 1, .inl (c 0, 800, .inl f_tape)), (q 14, .inl (c 1, 9000, .inl f_op)), (q 15, .inl (c 1, 9000, .inl f_number))]) [3, 0, 1, 2] (by decide) rfl
        refine W.widen (k := 0) (n := 0) (by omega) (by omega) ?_
        exact W.vret hx hb hr (fun t ht hW => ⟨⟨((v 3), (v 4), (v 5), (v 6), (v 7), (v 16), y_30, f_op, f_number, ()), rfl, ⟨(show (v 3).toInt ≤ (v 3).toInt ∧ (v 3).toInt ≤ (v 2).toInt by omega), (show (v 5).toInt ≤ (v 5).toInt ∧ (v 5).toInt ≤ (v 3).toInt by omega), (show (v 4).toInt = 0 ∨ (v 5).toInt + 1 ≤ (v 3).toInt by omega), (show (v 16).toInt ≤ (v 16).toInt ∧ (v 16).toInt + PB ≤ BB + (v 5).toInt by omega), (show y_30.toInt < 0 → ((v 17).toInt < 0 ∧ dep f_op a0 ((v 16).toInt - a0).toNat = dd + 1 ∧ (v 5).toInt + 1 ≤ (v 5).toInt) from (fun z => absurd z (by omega))), (show ∀ j : Nat, (j : Int) < (v 16).toInt → f_op j = f_op j from (fun _ _ => rfl))⟩, ⟨by rw [ht]; exact hP9, hD9⟩⟩, hS.F ht⟩) hS.2.2 dX7_one_76
    · skip
      refine lv_aload_n hx hb dX7_one_17 rfl (lv_at hl 0 rfl) ?_
      refine va_get (D := D) (ci := 7) (v := .int (v 7)) (C := RX7) (T := TX7) (N := 56) hx hb hts (fun _ h => List.mem_cons_of_mem _ (List.mem_append_right _ h)) hown hK hP 0 rfl rfl 7 (by decide) (hts (.fieldLink RX7 163 "CrownTableModel" "tkDigits" "I") (mem_i 3 rfl)) (fun _ h9 => h9) rfl dX7_one_18 ?_
      refine lv_bipush (v := 6) hx hb dX7_one_21 (by decide) ?_
      refine iicmp_gt (a := (v 7).toInt) (b := 6) (tgt := 42) hx hb rfl (by decide) dX7_one_23 (by decide) (fun k_31 => ?_) (fun k_31 => ?_)
      · skip
        refine lv_aload_n hx hb dX7_one_42 rfl (lv_at hl 0 rfl) ?_
        refine va_get (D := D) (ci := 7) (v := .int (v 4)) (C := RX7) (T := TX7) (N := 56) hx hb hts (fun _ h => List.mem_cons_of_mem _ (List.mem_append_right _ h)) hown hK hP 0 rfl rfl 4 (by decide) (hts (.fieldLink RX7 142 "CrownTableModel" "tk" "I") (mem_i 2 rfl)) (fun _ h9 => h9) rfl dX7_one_43 ?_
        refine lv_bipush (v := 111) hx hb dX7_one_46 (by decide) ?_
        refine lv_bipush (v := 120) hx hb dX7_one_48 (by decide) ?_
        have hPc := hP.sub (ws' := []) [] rfl
        have hDc := hD.sub (ws' := []) [] (by decide) rfl
        have hFc := va_free (wc := []) hD hS hA [] rfl
        have kzz_32 : (111 : Int32).toInt = 111 := by decide
        have kzz_33 : (120 : Int32).toInt = 120 := by decide
        refine va_csi (va_runS (As := [.int (v 4), .int 111, .int 120]) (rest := []) ⟨hx, hb, hml, hown, hts⟩ (k_X7_in l D c ts s.heap.size (v 4) ((v 4).toInt) rfl 111 111 (by decide) 120 120 (by decide)) (cwS 3 hts gX7_one_X7_in rfl rfl rfl ⟨rfl, hdX7_in⟩ ⟨(show 0 + 1 ≤ 2 by decide), (show 8 + (3 + 11) + 0 ≤ 45 by decide)⟩) ⟨Pre0.blind, Pre0.at hPc hDc hAm hSt hS hFc⟩ rfl rfl hl.1 rfl (lv_room (Nat.le_of_ble_eq_true rfl)) dX7_one_50 ⟨(show 0 + 0 ≤ 0 by decide), (show 0 + 0 ≤ 0 by decide)⟩) (fun r_35 hw_34 => ?_)
        rcases hw_34 with ⟨hw_34, rfl⟩ | ⟨hw_34, rfl⟩
        · exfalso; omega
        · skip
          refine iif_eqT (a := 0) (tgt := 72) hx hb (by decide) dX7_one_53 (by decide) (by decide) ?_
          refine lv_aload_n hx hb dX7_one_72 rfl (lv_at hl 0 rfl) ?_
          have hPc := hP.sub (ws' := [(A_self, .inr (7, o7 q v w))]) [0] rfl
          have hDc := hD.sub (ws' := [(A_self, .inr (7, o7 q v w))]) [0] (by decide) rfl
          have hFc := va_free (wc := [(A_self, .inr (7, o7 q v w))]) hD hS hA [0] rfl
          refine va_callv (va_runV (As := []) (rest := []) ⟨hx, hb, hml, hown, hts⟩ (k_X7_wrong l D c ts s.heap.size A_self q v w (show 0 ≤ (v 2).toInt ∧ (v 2).toInt ≤ 800 by omega) (show 0 ≤ (v 8).toInt ∧ (v 8).toInt ≤ 10 by omega) (show 0 ≤ (v 21).toInt ∧ (v 21).toInt ≤ 40 by omega) (show 0 ≤ (v 24).toInt ∧ (v 24).toInt ≤ 1000 by omega) (show 0 ≤ (v 27).toInt ∧ (v 27).toInt ≤ 400 by omega) (show 0 ≤ (v 42).toInt ∧ (v 42).toInt ≤ 4000 by omega) (show 0 ≤ (v 52).toInt ∧ (v 52).toInt ≤ 2000 by omega) (show 0 ≤ (v 5).toInt by omega)) (cwV 0 hts gX7_one_X7_wrong rfl rfl rfl ⟨rfl, hdX7_wrong⟩ ⟨(show 0 + 1 ≤ 2 by decide), (show 8 + (1 + 11) + 0 ≤ 45 by decide)⟩) ⟨Pre0.blind, va_recv hK hPc (ci := 7) (q0 := 0) rfl rfl, Pre0.at hPc hDc hAm hSt hS hFc⟩ rfl rfl hl.1 rfl (lv_room (Nat.le_of_ble_eq_true rfl)) dX7_one_73 ⟨(show 0 + 0 ≤ 0 by decide), (show 0 + 0 ≤ 0 by decide)⟩) hS (fun q _ h => hFc q h) hFc (fun u_38 t1 H locs ht hvm hw_36 hB_9 hz1_9 hk1_9 hS => ?_)
          obtain ⟨y_39, _⟩ := u_38
          have hw_36 : (0 ≤ y_39.toInt) := hw_36
          obtain ⟨hP1_9, hD1_9⟩ := hB_9
          rw [ht] at hP1_9
          have hP1_9 : va_P D vwCl [(A_self, .inr (7, o7 q (upd v 17 y_39) w))] H := hP1_9
          obtain ⟨hP, hD⟩ := va_join (wr := [(q 1, .inl (c 0, 800, .inl f_tape)), (q 14, .inl (c 1, 9000, .inl f_op)), (q 15, .inl (c 1, 9000, .inl f_number))]) (w1 := [(A_self, .inr (7, o7 q (upd v 17 y_39) w))]) hP hD [0] [1, 2, 3] rfl rfl (by decide) (by decide) hk1_9 hFc hP1_9 hD1_9
          have hP : va_P D vwCl [(q 1, .inl (c 0, 800, .inl f_tape)), (q 14, .inl (c 1, 9000, .inl f_op)), (q 15, .inl (c 1, 9000, .inl f_number)), (A_self, .inr (7, o7 q (upd v 17 y_39) w))] H := hP
          have hD : va_D A [(q 1, .inl (c 0, 800, .inl f_tape)), (q 14, .inl (c 1, 9000, .inl f_op)), (q 15, .inl (c 1, 9000, .inl f_number)), (A_self, .inr (7, o7 q (upd v 17 y_39) w))] := hD
          refine W.widen (k := 0) (n := 0) (by omega) (by omega) ?_
          have hP9 := hP.sub (ws' := [(A_self, .inr (7, o7 q (upd v 17 y_39) w)), (q 1, .inl (c 0, 800, .inl f_tape)), (q 14, .inl (c 1, 9000, .inl f_op)), (q 15, .inl (c 1, 9000, .inl f_number))]) [3, 0, 1, 2] rfl
          have hD9 := hD.sub (ws' := [(A_self, .inr (7, o7 q (upd v 17 y_39) w)), (q 1, .inl (c 0, 800, .inl f_tape)), (q 14, .inl (c 1, 9000, .inl f_op)), (q 15, .inl (c 1, 9000, .inl f_number))]) [3, 0, 1, 2] (by decide) rfl
          refine W.widen (k := 0) (n := 0) (by omega) (by omega) ?_
          exact W.vret hx hb hr (fun t ht hW => ⟨⟨((v 3), (v 4), (v 5), (v 6), (v 7), (v 16), y_39, f_op, f_number, ()), rfl, ⟨(show (v 3).toInt ≤ (v 3).toInt ∧ (v 3).toInt ≤ (v 2).toInt by omega), (show (v 5).toInt ≤ (v 5).toInt ∧ (v 5).toInt ≤ (v 3).toInt by omega), (show (v 4).toInt = 0 ∨ (v 5).toInt + 1 ≤ (v 3).toInt by omega), (show (v 16).toInt ≤ (v 16).toInt ∧ (v 16).toInt + PB ≤ BB + (v 5).toInt by omega), (show y_39.toInt < 0 → ((v 17).toInt < 0 ∧ dep f_op a0 ((v 16).toInt - a0).toNat = dd + 1 ∧ (v 5).toInt + 1 ≤ (v 5).toInt) from (fun z => absurd z (by omega))), (show ∀ j : Nat, (j : Int) < (v 16).toInt → f_op j = f_op j from (fun _ _ => rfl))⟩, ⟨by rw [ht]; exact hP9, hD9⟩⟩, hS.F ht⟩) hS.2.2 dX7_one_76
      · skip
        refine lv_aload_n hx hb dX7_one_26 rfl (lv_at hl 0 rfl) ?_
        refine lv_iconst (v := 1) hx hb dX7_one_27 (by decide) ?_
        refine lv_aload_n hx hb dX7_one_28 rfl (lv_at hl 0 rfl) ?_
        refine va_get (D := D) (ci := 7) (v := .int (v 6)) (C := RX7) (T := TX7) (N := 56) hx hb hts (fun _ h => List.mem_cons_of_mem _ (List.mem_append_right _ h)) hown hK hP 0 rfl rfl 6 (by decide) (hts (.fieldLink RX7 160 "CrownTableModel" "tkNumber" "I") (mem_i 4 rfl)) (fun _ h9 => h9) rfl dX7_one_29 ?_
        have hPc := hP.sub (ws' := [(A_self, .inr (7, o7 q v w)), (q 14, .inl (c 1, 9000, .inl f_op)), (q 15, .inl (c 1, 9000, .inl f_number))]) [0, 2, 3] rfl
        have hDc := hD.sub (ws' := [(A_self, .inr (7, o7 q v w)), (q 14, .inl (c 1, 9000, .inl f_op)), (q 15, .inl (c 1, 9000, .inl f_number))]) [0, 2, 3] (by decide) rfl
        have hFc := va_free (wc := [(A_self, .inr (7, o7 q v w)), (q 14, .inl (c 1, 9000, .inl f_op)), (q 15, .inl (c 1, 9000, .inl f_number))]) hD hS hA [0, 2, 3] rfl
        have kzz_40 : (1 : Int32).toInt = 1 := by decide
        refine va_callv (va_runV (As := [.int 1, .int (v 6)]) (rest := []) ⟨hx, hb, hml, hown, hts⟩ (k_X7_puts l D c ts s.heap.size A_self q v w f_op f_number 1 1 (by decide) (v 6) ((v 6).toInt) rfl (show 0 ≤ (v 2).toInt ∧ (v 2).toInt ≤ 800 by omega) (show 0 ≤ (v 8).toInt ∧ (v 8).toInt ≤ 10 by omega) (show 0 ≤ (v 21).toInt ∧ (v 21).toInt ≤ 40 by omega) (show 0 ≤ (v 24).toInt ∧ (v 24).toInt ≤ 1000 by omega) (show 0 ≤ (v 27).toInt ∧ (v 27).toInt ≤ 400 by omega) (show 0 ≤ (v 42).toInt ∧ (v 42).toInt ≤ 4000 by omega) (show 0 ≤ (v 52).toInt ∧ (v 52).toInt ≤ 2000 by omega) (show 0 ≤ (v 16).toInt ∧ (v 16).toInt ≤ 8999 by omega)) (cwV 2 hts gX7_one_X7_puts rfl rfl rfl ⟨rfl, hdX7_puts⟩ ⟨(show 0 + 1 ≤ 2 by decide), (show 8 + (3 + 11) + 0 ≤ 45 by decide)⟩) ⟨Pre0.blind, va_recv hK hPc (ci := 7) (q0 := 0) rfl rfl, Pre0.at hPc hDc hAm hSt hS hFc⟩ rfl rfl hl.1 rfl (lv_room (Nat.le_of_ble_eq_true rfl)) dX7_one_32 ⟨(show 0 + 0 ≤ 0 by decide), (show 0 + 0 ≤ 0 by decide)⟩) hS (fun q _ h => hFc q h) hFc (fun u_43 t1 H locs ht hvm hw_41 hB_9 hz1_9 hk1_9 hS => ?_)
        obtain ⟨y_44, f_45, f_46, _⟩ := u_43
        have hw_41 : (y_44.toInt = (v 16).toInt + 1) ∧ (∀ j : Nat, ¬ ((j : Int) = (v 16).toInt) → f_45 j = f_op j) ∧ (f_45 (v 16).toInt.toNat = 1) := hw_41
        obtain ⟨hw_47, hw_48, hw_49⟩ := hw_41
        obtain ⟨hP1_9, hD1_9⟩ := hB_9
        rw [ht] at hP1_9
        have hP1_9 : va_P D vwCl [(A_self, .inr (7, o7 q (upd v 16 y_44) w)), (q 14, .inl (c 1, 9000, .inl f_45)), (q 15, .inl (c 1, 9000, .inl f_46))] H := hP1_9
        obtain ⟨hP, hD⟩ := va_join (wr := [(q 1, .inl (c 0, 800, .inl f_tape))]) (w1 := [(A_self, .inr (7, o7 q (upd v 16 y_44) w)), (q 14, .inl (c 1, 9000, .inl f_45)), (q 15, .inl (c 1, 9000, .inl f_46))]) hP hD [0, 2, 3] [1] rfl rfl (by decide) (by decide) hk1_9 hFc hP1_9 hD1_9
        have hP : va_P D vwCl [(q 1, .inl (c 0, 800, .inl f_tape)), (A_self, .inr (7, o7 q (upd v 16 y_44) w)), (q 14, .inl (c 1, 9000, .inl f_45)), (q 15, .inl (c 1, 9000, .inl f_46))] H := hP
        have hD : va_D A [(q 1, .inl (c 0, 800, .inl f_tape)), (A_self, .inr (7, o7 q (upd v 16 y_44) w)), (q 14, .inl (c 1, 9000, .inl f_45)), (q 15, .inl (c 1, 9000, .inl f_46))] := hD
        refine W.widen (k := 0) (n := 0) (by omega) (by omega) ?_
        have dp : dep f_45 a0 (y_44.toInt - a0).toNat = stp (1 : Int32).toInt (dep f_op a0 ((v 16).toInt - a0).toNat) := by rw [show y_44.toInt = (v 16).toInt + 1 from hw_47]; exact dep_puts (x := (1 : Int32)) (by omega) (by omega) hw_48 hw_49
        have dq := hq4.2.2 (by omega)
        rw [dq, stp_val (by omega) (by omega) (by omega)] at dp
        refine lv_aload_n hx hb dX7_one_35 rfl (lv_at hl 0 rfl) ?_
        have hPc := hP.sub (ws' := [(A_self, .inr (7, o7 q (upd v 16 y_44) w)), (q 1, .inl (c 0, 800, .inl f_tape))]) [1, 0] rfl
        have hDc := hD.sub (ws' := [(A_self, .inr (7, o7 q (upd v 16 y_44) w)), (q 1, .inl (c 0, 800, .inl f_tape))]) [1, 0] (by decide) rfl
        have hFc := va_free (wc := [(A_self, .inr (7, o7 q (upd v 16 y_44) w)), (q 1, .inl (c 0, 800, .inl f_tape))]) hD hS hA [1, 0] rfl
        refine va_callv (va_runV (As := []) (rest := []) ⟨hx, hb, hml, hown, hts⟩ (k_X7_advance l D c ts H.size A_self q (upd v 16 y_44) w f_tape (show 0 ≤ (v 2).toInt ∧ (v 2).toInt ≤ 800 by omega) (show 0 ≤ (v 8).toInt ∧ (v 8).toInt ≤ 10 by omega) (show 0 ≤ (v 21).toInt ∧ (v 21).toInt ≤ 40 by omega) (show 0 ≤ (v 24).toInt ∧ (v 24).toInt ≤ 1000 by omega) (show 0 ≤ (v 27).toInt ∧ (v 27).toInt ≤ 400 by omega) (show 0 ≤ (v 42).toInt ∧ (v 42).toInt ≤ 4000 by omega) (show 0 ≤ (v 52).toInt ∧ (v 52).toInt ≤ 2000 by omega) (show 0 ≤ (v 3).toInt ∧ (v 3).toInt ≤ (v 2).toInt by omega)) (cwV 0 hts gX7_one_X7_advance rfl rfl rfl ⟨rfl, hdX7_advance⟩ ⟨(show 1 + 1 ≤ 2 by decide), (show 8 + (5 + 11) + 21 ≤ 45 by decide)⟩) ⟨Pre0.blind, va_recv hK hPc (ci := 7) (q0 := 0) rfl rfl, Pre0.at hPc hDc hAm hSt hS hFc⟩ rfl rfl hl.1 rfl (lv_room (Nat.le_of_ble_eq_true rfl)) dX7_one_36 ⟨(show 0 + 0 ≤ 0 by decide), (show 0 + 0 ≤ 0 by decide)⟩) hS (fun q _ h => hFc q h) hFc (fun u_52 t1 H locs ht hvm hw_50 hB_9 hz1_9 hk1_9 hS => ?_)
        obtain ⟨y_53, y_54, y_55, y_56, y_57, _⟩ := u_52
        have hw_50 : ((v 3).toInt ≤ y_55.toInt ∧ y_55.toInt ≤ y_53.toInt ∧ y_53.toInt ≤ (v 2).toInt) ∧ (y_54.toInt = 0 ∨ y_55.toInt + 1 ≤ y_53.toInt) := hw_50
        obtain ⟨hw_58, hw_59⟩ := hw_50
        obtain ⟨hP1_9, hD1_9⟩ := hB_9
        rw [ht] at hP1_9
        have hP1_9 : va_P D vwCl [(A_self, .inr (7, o7 q (upd (upd (upd (upd (upd (upd v 3 y_53) 4 y_54) 5 y_55) 6 y_56) 7 y_57) 16 y_44) w)), (q 1, .inl (c 0, 800, .inl f_tape))] H := hP1_9
        obtain ⟨hP, hD⟩ := va_join (wr := [(q 14, .inl (c 1, 9000, .inl f_45)), (q 15, .inl (c 1, 9000, .inl f_46))]) (w1 := [(A_self, .inr (7, o7 q (upd (upd (upd (upd (upd (upd v 3 y_53) 4 y_54) 5 y_55) 6 y_56) 7 y_57) 16 y_44) w)), (q 1, .inl (c 0, 800, .inl f_tape))]) hP hD [1, 0] [2, 3] rfl rfl (by decide) (by decide) hk1_9 hFc hP1_9 hD1_9
        have hP : va_P D vwCl [(q 14, .inl (c 1, 9000, .inl f_45)), (q 15, .inl (c 1, 9000, .inl f_46)), (A_self, .inr (7, o7 q (upd (upd (upd (upd (upd (upd v 3 y_53) 4 y_54) 5 y_55) 6 y_56) 7 y_57) 16 y_44) w)), (q 1, .inl (c 0, 800, .inl f_tape))] H := hP
        have hD : va_D A [(q 14, .inl (c 1, 9000, .inl f_45)), (q 15, .inl (c 1, 9000, .inl f_46)), (A_self, .inr (7, o7 q (upd (upd (upd (upd (upd (upd v 3 y_53) 4 y_54) 5 y_55) 6 y_56) 7 y_57) 16 y_44) w)), (q 1, .inl (c 0, 800, .inl f_tape))] := hD
        refine W.widen (k := 0) (n := 0) (by omega) (by omega) ?_
        refine lv_goto (tgt := 76) hx hb dX7_one_39 (by decide) ?_
        have hP9 := hP.sub (ws' := [(A_self, .inr (7, o7 q (upd (upd (upd (upd (upd (upd v 3 y_53) 4 y_54) 5 y_55) 6 y_56) 7 y_57) 16 y_44) w)), (q 1, .inl (c 0, 800, .inl f_tape)), (q 14, .inl (c 1, 9000, .inl f_45)), (q 15, .inl (c 1, 9000, .inl f_46))]) [2, 3, 0, 1] rfl
        have hD9 := hD.sub (ws' := [(A_self, .inr (7, o7 q (upd (upd (upd (upd (upd (upd v 3 y_53) 4 y_54) 5 y_55) 6 y_56) 7 y_57) 16 y_44) w)), (q 1, .inl (c 0, 800, .inl f_tape)), (q 14, .inl (c 1, 9000, .inl f_45)), (q 15, .inl (c 1, 9000, .inl f_46))]) [2, 3, 0, 1] (by decide) rfl
        refine W.widen (k := 0) (n := 0) (by omega) (by omega) ?_
        exact W.vret hx hb hr (fun t ht hW => ⟨⟨(y_53, y_54, y_55, y_56, y_57, y_44, (v 17), f_45, f_46, ()), rfl, ⟨(show (v 3).toInt ≤ y_53.toInt ∧ y_53.toInt ≤ (v 2).toInt by omega), (show (v 5).toInt ≤ y_55.toInt ∧ y_55.toInt ≤ y_53.toInt by omega), (show y_54.toInt = 0 ∨ y_55.toInt + 1 ≤ y_53.toInt by omega), (show (v 16).toInt ≤ y_44.toInt ∧ y_44.toInt + PB ≤ BB + y_55.toInt by omega), (show (v 17).toInt < 0 → ((v 17).toInt < 0 ∧ dep f_45 a0 (y_44.toInt - a0).toNat = dd + 1 ∧ (v 5).toInt + 1 ≤ y_55.toInt) from (fun _ => ⟨by omega, dp, by omega⟩)), (show ∀ j : Nat, (j : Int) < (v 16).toInt → f_45 j = f_op j from (fun j hj => by rw [hw_48 j (by omega)]))⟩, ⟨by rw [ht]; exact hP9, hD9⟩⟩, hS.F ht⟩) hS.2.2 dX7_one_76
  · skip
    have hP9 := hP.sub (ws' := [(A_self, .inr (7, o7 q v w)), (q 1, .inl (c 0, 800, .inl f_tape)), (q 14, .inl (c 1, 9000, .inl f_op)), (q 15, .inl (c 1, 9000, .inl f_number))]) [0, 1, 2, 3] rfl
    have hD9 := hD.sub (ws' := [(A_self, .inr (7, o7 q v w)), (q 1, .inl (c 0, 800, .inl f_tape)), (q 14, .inl (c 1, 9000, .inl f_op)), (q 15, .inl (c 1, 9000, .inl f_number))]) [0, 1, 2, 3] (by decide) rfl
    refine W.widen (k := 0) (n := 0) (by omega) (by omega) ?_
    exact W.vret hx hb hr (fun t ht hW => ⟨⟨((v 3), (v 4), (v 5), (v 6), (v 7), (v 16), (v 17), f_op, f_number, ()), rfl, ⟨(show (v 3).toInt ≤ (v 3).toInt ∧ (v 3).toInt ≤ (v 2).toInt by omega), (show (v 5).toInt ≤ (v 5).toInt ∧ (v 5).toInt ≤ (v 3).toInt by omega), (show (v 4).toInt = 0 ∨ (v 5).toInt + 1 ≤ (v 3).toInt by omega), (show (v 16).toInt ≤ (v 16).toInt ∧ (v 16).toInt + PB ≤ BB + (v 5).toInt by omega), (show (v 17).toInt < 0 → ((v 17).toInt < 0 ∧ dep f_op a0 ((v 16).toInt - a0).toNat = dd + 1 ∧ (v 5).toInt + 1 ≤ (v 5).toInt) from (fun z => absurd z (by omega))), (show ∀ j : Nat, (j : Int) < (v 16).toInt → f_op j = f_op j from (fun _ _ => rfl))⟩, ⟨by rw [ht]; exact hP9, hD9⟩⟩, hS.F ht⟩) hS.2.2 dX7_one_7
