set_option maxHeartbeats 4000000 in
set_option maxRecDepth 100000 in
theorem k_X7_take (l : Launch) (D : va_G) (c : Nat → ClassId) (ts : Nat × Nat) (sz : Nat) (A_self : Nat) (q : Nat → Nat) (v : Nat → Int32) (w : Nat → Int64) (f_cloth : Nat → Int32) (cb : Int) (a1 : Int32) (i_a1 : Int) (hi_a1 : a1.toInt = i_a1) (hv_2 : 0 ≤ (v 2).toInt ∧ (v 2).toInt ≤ 800) (hv_8 : 0 ≤ (v 8).toInt ∧ (v 8).toInt ≤ 10) (hv_21 : 0 ≤ (v 21).toInt ∧ (v 21).toInt ≤ 40) (hv_24 : 0 ≤ (v 24).toInt ∧ (v 24).toInt ≤ 1000) (hv_27 : 0 ≤ (v 27).toInt ∧ (v 27).toInt ≤ 400) (hv_42 : 0 ≤ (v 42).toInt ∧ (v 42).toInt ≤ 4000) (hv_52 : 0 ≤ (v 52).toInt ∧ (v 52).toInt ≤ 2000) (hq0 : 0 ≤ (f_cloth 0).toInt ∧ (f_cloth 0).toInt ≤ 11) (hq1 : 0 ≤ (f_cloth 1).toInt ∧ (f_cloth 1).toInt ≤ 19) (hq2 : 0 ≤ (f_cloth 2).toInt ∧ (f_cloth 2).toInt ≤ 19) (hq3 : 0 ≤ (f_cloth 3).toInt ∧ (f_cloth 3).toInt ≤ 4) (hq4 : 0 ≤ (f_cloth 4).toInt ∧ (f_cloth 4).toInt ≤ 9) (hq5 : 0 ≤ (f_cloth 5).toInt ∧ (f_cloth 5).toInt ≤ 1000000) (hq6 : (f_cloth 5).toInt ≤ cb ∧ cb ≤ 900000) : Met l yX7_take wsX7_take ({ frames := 2, cells := 0, slots := 0, locals := 43 }) (va_Pc [.ref A_self, .int a1] (Pre0 D c ts [(A_self, .inr (7, o7 q v w)), (q 55, .inl (c 1, 6, .inl f_cloth))] sz)) (va_Qi (fun (r : Int32) (u : (Nat → Int32) × Unit) => (0 ≤ (u.1 0).toInt ∧ (u.1 0).toInt ≤ 11) ∧ (0 ≤ (u.1 1).toInt ∧ (u.1 1).toInt ≤ 19) ∧ (0 ≤ (u.1 2).toInt ∧ (u.1 2).toInt ≤ 19) ∧ (0 ≤ (u.1 3).toInt ∧ (u.1 3).toInt ≤ 4) ∧ (0 ≤ (u.1 4).toInt ∧ (u.1 4).toInt ≤ 9) ∧ (0 ≤ (u.1 5).toInt ∧ (u.1 5).toInt ≤ cb) ∧ ((r.toInt = -1 ∧ ¬ (1 ≤ i_a1 ∧ i_a1 ≤ 1000000) ∧ (u.1 0).toInt = (f_cloth 0).toInt ∧ (u.1 1).toInt = (f_cloth 1).toInt ∧ (u.1 2).toInt = (f_cloth 2).toInt ∧ (u.1 3).toInt = (f_cloth 3).toInt ∧ (u.1 4).toInt = (f_cloth 4).toInt ∧ (u.1 5).toInt = (f_cloth 5).toInt) ∨ ((1 ≤ i_a1 ∧ i_a1 ≤ 1000000) ∧ r.toInt = -2 ∧ (f_cloth 0).toInt + 12 * (f_cloth 1).toInt + 240 * (f_cloth 2).toInt + 4800 * (f_cloth 3).toInt + 24000 * (f_cloth 4).toInt + 240000 * (f_cloth 5).toInt < i_a1 ∧ (u.1 0).toInt = (f_cloth 0).toInt ∧ (u.1 1).toInt = (f_cloth 1).toInt ∧ (u.1 2).toInt = (f_cloth 2).toInt ∧ (u.1 3).toInt = (f_cloth 3).toInt ∧ (u.1 4).toInt = (f_cloth 4).toInt ∧ (u.1 5).toInt = (f_cloth 5).toInt) ∨ ((1 ≤ i_a1 ∧ i_a1 ≤ 1000000) ∧ i_a1 ≤ (f_cloth 0).toInt + 12 * (f_cloth 1).toInt + 240 * (f_cloth 2).toInt + 4800 * (f_cloth 3).toInt + 24000 * (f_cloth 4).toInt + 240000 * (f_cloth 5).toInt ∧ TakI (f_cloth 0).toInt (f_cloth 1).toInt (f_cloth 2).toInt (f_cloth 3).toInt (f_cloth 4).toInt (f_cloth 5).toInt (u.1 0).toInt (u.1 1).toInt (u.1 2).toInt (u.1 3).toInt (u.1 4).toInt (u.1 5).toInt i_a1 r.toInt ∧ (0 ≤ (u.1 0).toInt ∧ (u.1 0).toInt ≤ 11) ∧ (0 ≤ (u.1 1).toInt ∧ (u.1 1).toInt ≤ 19) ∧ (0 ≤ (u.1 2).toInt ∧ (u.1 2).toInt ≤ 19) ∧ (0 ≤ (u.1 3).toInt ∧ (u.1 3).toInt ≤ 4) ∧ (0 ≤ (u.1 4).toInt ∧ (u.1 4).toInt ≤ 9)))) (fun u t => va_P D vwCl [(A_self, .inr (7, o7 q v w)), (q 55, .inl (c 1, 6, .inl u.1))] t.heap ∧ va_D (va_A [(A_self, .inr (7, o7 q v w)), (q 55, .inl (c 1, 6, .inl f_cloth))] sz) [(A_self, .inr (7, o7 q v w)), (q 55, .inl (c 1, 6, .inl u.1))]) (va_A [(A_self, .inr (7, o7 q v w)), (q 55, .inl (c 1, 6, .inl f_cloth))] sz)) 0 0 (va_A [(A_self, .inr (7, o7 q v w)), (q 55, .inl (c 1, 6, .inl f_cloth))] sz) := by
  refine Met.ofW (cc := cX7_take) (maxL := 6) (ret := (some .int)) (by decide) rfl ?_
  intro p e s m args below meth cd s₁ B hml hv
  obtain ⟨rfl, hsz, hP, hD0, hAm, hSt⟩ := hv
  have hx := B.exec
  have hb := B.bytes
  have hr := B.returns
  have hts := atoms_spec (ws := wsX7_take) B.pre
  have hown : s.vm.findClass RX7 = some m.cls := findClass_of_methodNamed B.named
  have hlocks := B.notSynchronized
  have hK := hAm.1
  subst hsz
  have hD := hD0.self (sz := s.heap.size)
  generalize hAe : va_A [(A_self, .inr (7, o7 q v w)), (q 55, .inl (c 1, 6, .inl f_cloth))] s.heap.size = A at hD hSt ⊢
  have hA : ∀ q : Nat, s.heap.size ≤ q → A q := fun q h => by rw [← hAe]; exact Or.inr h
  have hS : va_S A s.heap s.heap [] := va_S.rf
  clear hD0 hAe
  have hl := lv_entry ([.ref A_self, .int a1]) (n := 6) (Nat.le_of_ble_eq_true rfl)
  rw [lg_entry_eq]
  generalize (lg_sl ([.ref A_self, .int a1]) ++ List.replicate (6 - (lg_sl ([.ref A_self, .int a1])).length) Slot.unset).toArray = ls at hl ⊢
  have hl : lv_has ls 6 [(0, .ref A_self), (1, .int a1)] := hl
  have rg_a1 := i32r a1
  refine lv_iload_n hx hb dX7_take_0 rfl (lv_at hl 1 rfl) ?_
  refine lv_iconst (v := 1) hx hb dX7_take_1 (by decide) ?_
  refine lv_ldcw (v := 1000000) hx hb hown (hts (.constant RX7 284 (1000000)) (mem_i 1 rfl)) dX7_take_2 ?_
  have hPc := hP.sub (ws' := []) [] rfl
  have hDc := hD.sub (ws' := []) [] (by decide) rfl
  have hFc := va_free (wc := []) hD hS hA [] rfl
  have kzz_1 : (1 : Int32).toInt = 1 := by decide
  have kzz_2 : (1000000 : Int32).toInt = 1000000 := by decide
  refine va_csi (va_runS (As := [.int a1, .int 1, .int 1000000]) (rest := []) ⟨hx, hb, hml, hown, hts⟩ (k_X7_in l D c ts s.heap.size a1 i_a1 hi_a1 1 1 (by decide) 1000000 1000000 (by decide)) (cwS 3 hts gX7_take_X7_in rfl rfl rfl ⟨rfl, hdX7_in⟩ ⟨(show 0 + 1 ≤ 2 by decide), (show 8 + (3 + 11) + 0 ≤ 43 by decide)⟩) ⟨Pre0.blind, Pre0.at hPc hDc hAm hSt hS hFc⟩ rfl rfl hl.1 rfl (lv_room (Nat.le_of_ble_eq_true rfl)) dX7_take_5 ⟨(show 0 + 0 ≤ 0 by decide), (show 0 + 0 ≤ 0 by decide)⟩) (fun r_4 hw_3 => ?_)
  rcases hw_3 with ⟨hw_3, rfl⟩ | ⟨hw_3, rfl⟩
  · skip
    refine iif_neT (a := 1) (tgt := 13) hx hb (by decide) dX7_take_8 (by decide) (by decide) ?_
    refine lv_iload_n hx hb dX7_take_13 rfl (lv_at hl 1 rfl) ?_
    refine lv_i2l hx hb dX7_take_14 rfl ?_
    refine lv_aload_n hx hb dX7_take_15 rfl (lv_at hl 0 rfl) ?_
    have hPc := hP.sub (ws' := [(A_self, .inr (7, o7 q v w)), (q 55, .inl (c 1, 6, .inl f_cloth))]) [0, 1] rfl
    have hDc := hD.sub (ws' := [(A_self, .inr (7, o7 q v w)), (q 55, .inl (c 1, 6, .inl f_cloth))]) [0, 1] (by decide) rfl
    have hFc := va_free (wc := [(A_self, .inr (7, o7 q v w)), (q 55, .inl (c 1, 6, .inl f_cloth))]) hD hS hA [0, 1] rfl
    refine va_csl (va_runV (As := []) (rest := [.long a1.toInt64]) ⟨hx, hb, hml, hown, hts⟩ (k_X7_lies l D c ts s.heap.size A_self q v w f_cloth (show 0 ≤ (v 2).toInt ∧ (v 2).toInt ≤ 800 by omega) (show 0 ≤ (v 8).toInt ∧ (v 8).toInt ≤ 10 by omega) (show 0 ≤ (v 21).toInt ∧ (v 21).toInt ≤ 40 by omega) (show 0 ≤ (v 24).toInt ∧ (v 24).toInt ≤ 1000 by omega) (show 0 ≤ (v 27).toInt ∧ (v 27).toInt ≤ 400 by omega) (show 0 ≤ (v 42).toInt ∧ (v 42).toInt ≤ 4000 by omega) (show 0 ≤ (v 52).toInt ∧ (v 52).toInt ≤ 2000 by omega) (show 0 ≤ (f_cloth 0).toInt ∧ (f_cloth 0).toInt ≤ 11 by omega) (show 0 ≤ (f_cloth 1).toInt ∧ (f_cloth 1).toInt ≤ 19 by omega) (show 0 ≤ (f_cloth 2).toInt ∧ (f_cloth 2).toInt ≤ 19 by omega) (show 0 ≤ (f_cloth 3).toInt ∧ (f_cloth 3).toInt ≤ 4 by omega) (show 0 ≤ (f_cloth 4).toInt ∧ (f_cloth 4).toInt ≤ 9 by omega) (show 0 ≤ (f_cloth 5).toInt ∧ (f_cloth 5).toInt ≤ 1000000 by omega)) (cwV 0 hts gX7_take_X7_lies rfl rfl rfl ⟨rfl, hdX7_lies⟩ ⟨(show 1 + 1 ≤ 2 by decide), (show 8 + (4 + 11) + 20 ≤ 43 by decide)⟩) ⟨Pre0.blind, va_recv hK hPc (ci := 7) (q0 := 0) rfl rfl, Pre0.at hPc hDc hAm hSt hS hFc⟩ rfl rfl hl.1 rfl (lv_room (Nat.le_of_ble_eq_true rfl)) dX7_take_16 ⟨(show 0 + 0 ≤ 0 by decide), (show 0 + 0 ≤ 0 by decide)⟩) (fun r_6 hw_5 => ?_)
    have hw_5 : (r_6.toInt = (f_cloth 0).toInt + 12 * (f_cloth 1).toInt + 240 * (f_cloth 2).toInt + 4800 * (f_cloth 3).toInt + 24000 * (f_cloth 4).toInt + 240000 * (f_cloth 5).toInt) := hw_5
    refine W.lcmp hx hb dX7_take_19 ?_
    refine lv_topi (fun x_7 ex_7 => ?_)
    have tx_7 := lcg_fact (n := x_7) ex_7 (show (a1.toInt64 : Int64).toInt = i_a1 from (ti_i2l hi_a1)) (show (r_6 : Int64).toInt = r_6.toInt from rfl)
    refine iif_le (a := x_7.toInt) (tgt := 26) hx hb rfl dX7_take_20 (by decide) (fun k_8 => ?_) (fun k_8 => ?_)
    · skip
      obtain ⟨n0, n1, n2, n3, n4, n5, hDg⟩ := DgI.ex i_a1
      obtain ⟨nb0, nb1, nb2, nb3, nb4, nb5, nz⟩ := hDg.bd (by omega)
      have tv : n0 + 12 * n1 + 240 * n2 + 4800 * n3 + 24000 * n4 + 240000 * n5 ≤ (f_cloth 0).toInt + 12 * (f_cloth 1).toInt + 240 * (f_cloth 2).toInt + 4800 * (f_cloth 3).toInt + 24000 * (f_cloth 4).toInt + 240000 * (f_cloth 5).toInt := by omega
      clear nz
      have tw : i_a1 ≤ (f_cloth 0).toInt + 12 * (f_cloth 1).toInt + 240 * (f_cloth 2).toInt + 4800 * (f_cloth 3).toInt + 24000 * (f_cloth 4).toInt + 240000 * (f_cloth 5).toInt := by omega
      clear tx_7
      refine lv_iconst (v := 0) hx hb dX7_take_26 (by decide) ?_
      refine lv_istore_n (lv' := [(2, .int 0), (0, .ref A_self), (1, .int a1)]) hx hb dX7_take_27 rfl hl (by decide) rfl (fun ls hl => ?_)
      refine lv_iconst (v := 0) hx hb dX7_take_28 (by decide) ?_
      refine lv_istore_n (lv' := [(3, .int 0), (2, .int 0), (0, .ref A_self), (1, .int a1)]) hx hb dX7_take_29 rfl hl (by decide) rfl (fun ls hl => ?_)
      have lp_30_6 : ∀ (L2 : Int32) (M_cloth : Nat → Int32) (hf30_6_0 : 0 ≤ L2.toInt) (hf30_6_1 : L2.toInt ≤ 5) (hf30_6_2 : TkS6 (f_cloth 0).toInt (f_cloth 1).toInt (f_cloth 2).toInt (f_cloth 3).toInt (f_cloth 4).toInt (f_cloth 5).toInt (M_cloth 0).toInt (M_cloth 1).toInt (M_cloth 2).toInt (M_cloth 3).toInt (M_cloth 4).toInt (M_cloth 5).toInt n0 n1 n2 n3 n4 n5 L2.toInt) (hf30_6_3 : 0 ≤ (M_cloth 0).toInt ∧ (M_cloth 0).toInt ≤ 11) (hf30_6_4 : 0 ≤ (M_cloth 1).toInt ∧ (M_cloth 1).toInt ≤ 19) (hf30_6_5 : 0 ≤ (M_cloth 2).toInt ∧ (M_cloth 2).toInt ≤ 19) (hf30_6_6 : 0 ≤ (M_cloth 3).toInt ∧ (M_cloth 3).toInt ≤ 4) (hf30_6_7 : 0 ≤ (M_cloth 4).toInt ∧ (M_cloth 4).toInt ≤ 9) (hf30_6_8 : 0 ≤ (M_cloth 5).toInt ∧ (M_cloth 5).toInt ≤ 900000) (H : Heap) (locs : List Loc) (ls : Array Slot), va_P D vwCl [(A_self, .inr (7, o7 q v w)), (q 55, .inl (c 1, 6, .inl M_cloth))] H → va_D A [(A_self, .inr (7, o7 q v w)), (q 55, .inl (c 1, 6, .inl M_cloth))] → va_S A s.heap H locs → lv_has ls 6 [(3, .int 6), (0, .ref A_self), (1, .int a1), (2, .int L2)] → W p l e (headSpec wsX7_take ({ frames := 2, cells := 0, slots := 0, locals := 43 })).room s m (([.ref A_self, .int a1] : List Value).toArray) below meth cd H locs 0 0 (MQ below (va_Qi (fun (r : Int32) (u : (Nat → Int32) × Unit) => (0 ≤ (u.1 0).toInt ∧ (u.1 0).toInt ≤ 11) ∧ (0 ≤ (u.1 1).toInt ∧ (u.1 1).toInt ≤ 19) ∧ (0 ≤ (u.1 2).toInt ∧ (u.1 2).toInt ≤ 19) ∧ (0 ≤ (u.1 3).toInt ∧ (u.1 3).toInt ≤ 4) ∧ (0 ≤ (u.1 4).toInt ∧ (u.1 4).toInt ≤ 9) ∧ (0 ≤ (u.1 5).toInt ∧ (u.1 5).toInt ≤ cb) ∧ ((r.toInt = -1 ∧ ¬ (1 ≤ i_a1 ∧ i_a1 ≤ 1000000) ∧ (u.1 0).toInt = (f_cloth 0).toInt ∧ (u.1 1).toInt = (f_cloth 1).toInt ∧ (u.1 2).toInt = (f_cloth 2).toInt ∧ (u.1 3).toInt = (f_cloth 3).toInt ∧ (u.1 4).toInt = (f_cloth 4).toInt ∧ (u.1 5).toInt = (f_cloth 5).toInt) ∨ ((1 ≤ i_a1 ∧ i_a1 ≤ 1000000) ∧ r.toInt = -2 ∧ (f_cloth 0).toInt + 12 * (f_cloth 1).toInt + 240 * (f_cloth 2).toInt + 4800 * (f_cloth 3).toInt + 24000 * (f_cloth 4).toInt + 240000 * (f_cloth 5).toInt < i_a1 ∧ (u.1 0).toInt = (f_cloth 0).toInt ∧ (u.1 1).toInt = (f_cloth 1).toInt ∧ (u.1 2).toInt = (f_cloth 2).toInt ∧ (u.1 3).toInt = (f_cloth 3).toInt ∧ (u.1 4).toInt = (f_cloth 4).toInt ∧ (u.1 5).toInt = (f_cloth 5).toInt) ∨ ((1 ≤ i_a1 ∧ i_a1 ≤ 1000000) ∧ i_a1 ≤ (f_cloth 0).toInt + 12 * (f_cloth 1).toInt + 240 * (f_cloth 2).toInt + 4800 * (f_cloth 3).toInt + 24000 * (f_cloth 4).toInt + 240000 * (f_cloth 5).toInt ∧ TakI (f_cloth 0).toInt (f_cloth 1).toInt (f_cloth 2).toInt (f_cloth 3).toInt (f_cloth 4).toInt (f_cloth 5).toInt (u.1 0).toInt (u.1 1).toInt (u.1 2).toInt (u.1 3).toInt (u.1 4).toInt (u.1 5).toInt i_a1 r.toInt ∧ (0 ≤ (u.1 0).toInt ∧ (u.1 0).toInt ≤ 11) ∧ (0 ≤ (u.1 1).toInt ∧ (u.1 1).toInt ≤ 19) ∧ (0 ≤ (u.1 2).toInt ∧ (u.1 2).toInt ≤ 19) ∧ (0 ≤ (u.1 3).toInt ∧ (u.1 3).toInt ≤ 4) ∧ (0 ≤ (u.1 4).toInt ∧ (u.1 4).toInt ≤ 9)))) (fun u t => va_P D vwCl [(A_self, .inr (7, o7 q v w)), (q 55, .inl (c 1, 6, .inl u.1))] t.heap ∧ va_D A [(A_self, .inr (7, o7 q v w)), (q 55, .inl (c 1, 6, .inl u.1))]) A) ([.ref A_self, .int a1] : List Value).toArray s 0 0 A) (F0 m 30 ls []) := by
        intro L2 M_cloth hf30_6_0 hf30_6_1 hf30_6_2 hf30_6_3 hf30_6_4 hf30_6_5 hf30_6_6 hf30_6_7 hf30_6_8 H locs ls hP hD hS hl
        clear tv
        have tle := TkS.le hf30_6_2
        refine lv_iload_n hx hb dX7_take_30 rfl (lv_at hl 0 rfl) ?_
        refine lv_bipush (v := 6) hx hb dX7_take_31 (by decide) ?_
        refine iicmp_geT (a := 6) (b := 6) (tgt := 136) hx hb (by decide) (by decide) dX7_take_33 (by decide) (by decide) ?_
        refine lv_iload_n hx hb dX7_take_136 rfl (lv_at hl 3 rfl) ?_
        have hP9 := hP.sub (ws' := [(A_self, .inr (7, o7 q v w)), (q 55, .inl (c 1, 6, .inl M_cloth))]) [0, 1] rfl
        have hD9 := hD.sub (ws' := [(A_self, .inr (7, o7 q v w)), (q 55, .inl (c 1, 6, .inl M_cloth))]) [0, 1] (by decide) rfl
        refine W.widen (k := 0) (n := 0) (by omega) (by omega) ?_
        exact W.iret (v := L2) hx hb hr (fun t ht hW => ⟨⟨_, (M_cloth, ()), rfl, ⟨(show 0 ≤ (M_cloth 0).toInt ∧ (M_cloth 0).toInt ≤ 11 by omega), (show 0 ≤ (M_cloth 1).toInt ∧ (M_cloth 1).toInt ≤ 19 by omega), (show 0 ≤ (M_cloth 2).toInt ∧ (M_cloth 2).toInt ≤ 19 by omega), (show 0 ≤ (M_cloth 3).toInt ∧ (M_cloth 3).toInt ≤ 4 by omega), (show 0 ≤ (M_cloth 4).toInt ∧ (M_cloth 4).toInt ≤ 9 by omega), (show 0 ≤ (M_cloth 5).toInt ∧ (M_cloth 5).toInt ≤ cb by omega), (show (L2.toInt = -1 ∧ ¬ (1 ≤ i_a1 ∧ i_a1 ≤ 1000000) ∧ (M_cloth 0).toInt = (f_cloth 0).toInt ∧ (M_cloth 1).toInt = (f_cloth 1).toInt ∧ (M_cloth 2).toInt = (f_cloth 2).toInt ∧ (M_cloth 3).toInt = (f_cloth 3).toInt ∧ (M_cloth 4).toInt = (f_cloth 4).toInt ∧ (M_cloth 5).toInt = (f_cloth 5).toInt) ∨ ((1 ≤ i_a1 ∧ i_a1 ≤ 1000000) ∧ L2.toInt = -2 ∧ (f_cloth 0).toInt + 12 * (f_cloth 1).toInt + 240 * (f_cloth 2).toInt + 4800 * (f_cloth 3).toInt + 24000 * (f_cloth 4).toInt + 240000 * (f_cloth 5).toInt < i_a1 ∧ (M_cloth 0).toInt = (f_cloth 0).toInt ∧ (M_cloth 1).toInt = (f_cloth 1).toInt ∧ (M_cloth 2).toInt = (f_cloth 2).toInt ∧ (M_cloth 3).toInt = (f_cloth 3).toInt ∧ (M_cloth 4).toInt = (f_cloth 4).toInt ∧ (M_cloth 5).toInt = (f_cloth 5).toInt) ∨ ((1 ≤ i_a1 ∧ i_a1 ≤ 1000000) ∧ i_a1 ≤ (f_cloth 0).toInt + 12 * (f_cloth 1).toInt + 240 * (f_cloth 2).toInt + 4800 * (f_cloth 3).toInt + 24000 * (f_cloth 4).toInt + 240000 * (f_cloth 5).toInt ∧ TakI (f_cloth 0).toInt (f_cloth 1).toInt (f_cloth 2).toInt (f_cloth 3).toInt (f_cloth 4).toInt (f_cloth 5).toInt (M_cloth 0).toInt (M_cloth 1).toInt (M_cloth 2).toInt (M_cloth 3).toInt (M_cloth 4).toInt (M_cloth 5).toInt i_a1 L2.toInt ∧ (0 ≤ (M_cloth 0).toInt ∧ (M_cloth 0).toInt ≤ 11) ∧ (0 ≤ (M_cloth 1).toInt ∧ (M_cloth 1).toInt ≤ 19) ∧ (0 ≤ (M_cloth 2).toInt ∧ (M_cloth 2).toInt ≤ 19) ∧ (0 ≤ (M_cloth 3).toInt ∧ (M_cloth 3).toInt ≤ 4) ∧ (0 ≤ (M_cloth 4).toInt ∧ (M_cloth 4).toInt ≤ 9)) from Or.inr (Or.inr ⟨by omega, by omega, (TkS.fin hf30_6_2 hDg), by omega, by omega, by omega, by omega, by omega⟩))⟩, ⟨by rw [ht]; exact hP9, hD9⟩⟩, hS.F ht⟩) hS.2.2 dX7_take_137
      have lp_30_5 : ∀ (L2 : Int32) (M_cloth : Nat → Int32) (hf30_5_0 : 0 ≤ L2.toInt) (hf30_5_1 : L2.toInt ≤ 5) (hf30_5_2 : TkS5 (f_cloth 0).toInt (f_cloth 1).toInt (f_cloth 2).toInt (f_cloth 3).toInt (f_cloth 4).toInt (f_cloth 5).toInt (M_cloth 0).toInt (M_cloth 1).toInt (M_cloth 2).toInt (M_cloth 3).toInt (M_cloth 4).toInt (M_cloth 5).toInt n0 n1 n2 n3 n4 n5 L2.toInt) (hf30_5_3 : 0 ≤ (M_cloth 0).toInt ∧ (M_cloth 0).toInt ≤ 11) (hf30_5_4 : 0 ≤ (M_cloth 1).toInt ∧ (M_cloth 1).toInt ≤ 19) (hf30_5_5 : 0 ≤ (M_cloth 2).toInt ∧ (M_cloth 2).toInt ≤ 19) (hf30_5_6 : 0 ≤ (M_cloth 3).toInt ∧ (M_cloth 3).toInt ≤ 4) (hf30_5_7 : 0 ≤ (M_cloth 4).toInt ∧ (M_cloth 4).toInt ≤ 9) (hf30_5_8 : 0 ≤ (M_cloth 5).toInt ∧ (M_cloth 5).toInt ≤ 900000) (H : Heap) (locs : List Loc) (ls : Array Slot), va_P D vwCl [(A_self, .inr (7, o7 q v w)), (q 55, .inl (c 1, 6, .inl M_cloth))] H → va_D A [(A_self, .inr (7, o7 q v w)), (q 55, .inl (c 1, 6, .inl M_cloth))] → va_S A s.heap H locs → lv_has ls 6 [(3, .int 5), (0, .ref A_self), (1, .int a1), (2, .int L2)] → W p l e (headSpec wsX7_take ({ frames := 2, cells := 0, slots := 0, locals := 43 })).room s m (([.ref A_self, .int a1] : List Value).toArray) below meth cd H locs 0 0 (MQ below (va_Qi (fun (r : Int32) (u : (Nat → Int32) × Unit) => (0 ≤ (u.1 0).toInt ∧ (u.1 0).toInt ≤ 11) ∧ (0 ≤ (u.1 1).toInt ∧ (u.1 1).toInt ≤ 19) ∧ (0 ≤ (u.1 2).toInt ∧ (u.1 2).toInt ≤ 19) ∧ (0 ≤ (u.1 3).toInt ∧ (u.1 3).toInt ≤ 4) ∧ (0 ≤ (u.1 4).toInt ∧ (u.1 4).toInt ≤ 9) ∧ (0 ≤ (u.1 5).toInt ∧ (u.1 5).toInt ≤ cb) ∧ ((r.toInt = -1 ∧ ¬ (1 ≤ i_a1 ∧ i_a1 ≤ 1000000) ∧ (u.1 0).toInt = (f_cloth 0).toInt ∧ (u.1 1).toInt = (f_cloth 1).toInt ∧ (u.1 2).toInt = (f_cloth 2).toInt ∧ (u.1 3).toInt = (f_cloth 3).toInt ∧ (u.1 4).toInt = (f_cloth 4).toInt ∧ (u.1 5).toInt = (f_cloth 5).toInt) ∨ ((1 ≤ i_a1 ∧ i_a1 ≤ 1000000) ∧ r.toInt = -2 ∧ (f_cloth 0).toInt + 12 * (f_cloth 1).toInt + 240 * (f_cloth 2).toInt + 4800 * (f_cloth 3).toInt + 24000 * (f_cloth 4).toInt + 240000 * (f_cloth 5).toInt < i_a1 ∧ (u.1 0).toInt = (f_cloth 0).toInt ∧ (u.1 1).toInt = (f_cloth 1).toInt ∧ (u.1 2).toInt = (f_cloth 2).toInt ∧ (u.1 3).toInt = (f_cloth 3).toInt ∧ (u.1 4).toInt = (f_cloth 4).toInt ∧ (u.1 5).toInt = (f_cloth 5).toInt) ∨ ((1 ≤ i_a1 ∧ i_a1 ≤ 1000000) ∧ i_a1 ≤ (f_cloth 0).toInt + 12 * (f_cloth 1).toInt + 240 * (f_cloth 2).toInt + 4800 * (f_cloth 3).toInt + 24000 * (f_cloth 4).toInt + 240000 * (f_cloth 5).toInt ∧ TakI (f_cloth 0).toInt (f_cloth 1).toInt (f_cloth 2).toInt (f_cloth 3).toInt (f_cloth 4).toInt (f_cloth 5).toInt (u.1 0).toInt (u.1 1).toInt (u.1 2).toInt (u.1 3).toInt (u.1 4).toInt (u.1 5).toInt i_a1 r.toInt ∧ (0 ≤ (u.1 0).toInt ∧ (u.1 0).toInt ≤ 11) ∧ (0 ≤ (u.1 1).toInt ∧ (u.1 1).toInt ≤ 19) ∧ (0 ≤ (u.1 2).toInt ∧ (u.1 2).toInt ≤ 19) ∧ (0 ≤ (u.1 3).toInt ∧ (u.1 3).toInt ≤ 4) ∧ (0 ≤ (u.1 4).toInt ∧ (u.1 4).toInt ≤ 9)))) (fun u t => va_P D vwCl [(A_self, .inr (7, o7 q v w)), (q 55, .inl (c 1, 6, .inl u.1))] t.heap ∧ va_D A [(A_self, .inr (7, o7 q v w)), (q 55, .inl (c 1, 6, .inl u.1))]) A) ([.ref A_self, .int a1] : List Value).toArray s 0 0 A) (F0 m 30 ls []) := by
        intro L2 M_cloth hf30_5_0 hf30_5_1 hf30_5_2 hf30_5_3 hf30_5_4 hf30_5_5 hf30_5_6 hf30_5_7 hf30_5_8 H locs ls hP hD hS hl
        clear tv tw
        refine lv_iload_n hx hb dX7_take_30 rfl (lv_at hl 0 rfl) ?_
        refine lv_bipush (v := 6) hx hb dX7_take_31 (by decide) ?_
        refine iicmp_geF (a := 5) (b := 6) (tgt := 136) hx hb (by decide) (by decide) dX7_take_33 (by decide) (by decide) ?_
        refine lv_iload_n hx hb dX7_take_36 rfl (lv_at hl 2 rfl) ?_
        refine lv_iload_n hx hb dX7_take_37 rfl (lv_at hl 0 rfl) ?_
        have hPc := hP.sub (ws' := []) [] rfl
        have hDc := hD.sub (ws' := []) [] (by decide) rfl
        have hFc := va_free (wc := []) hD hS hA [] rfl
        have kzz_9 : (5 : Int32).toInt = 5 := by decide
        refine va_csi (va_runS (As := [.int a1, .int 5]) (rest := []) ⟨hx, hb, hml, hown, hts⟩ (k_X7_notch_P l D c ts H.size a1 i_a1 hi_a1 5 5 (by decide) (by omega) (by omega)) (cwS 2 hts gX7_take_X7_notch rfl rfl rfl ⟨rfl, hdX7_notch⟩ ⟨(show 1 + 1 ≤ 2 by decide), (show 8 + (2 + 11) + 20 ≤ 43 by decide)⟩) ⟨Pre0.blind, Pre0.at hPc hDc hAm hSt hS hFc⟩ rfl rfl hl.1 rfl (lv_room (Nat.le_of_ble_eq_true rfl)) dX7_take_38 ⟨(show 0 + 0 ≤ 0 by decide), (show 0 + 0 ≤ 0 by decide)⟩) (fun r_11 hw_10 => ?_)
        have nf_12 : r_11.toInt = n5 := (hw_10.2.2.2.2.2.2 rfl).trans hDg.2.2.2.2.2
        clear hw_10
        have rg_r_11 := i32r r_11
        refine lv_istore (lv' := [(4, .int r_11), (3, .int 5), (0, .ref A_self), (1, .int a1), (2, .int L2)]) hx hb dX7_take_41 hl (by decide) rfl (fun ls hl => ?_)
        refine lv_aload_n hx hb dX7_take_43 rfl (lv_at hl 2 rfl) ?_
        refine va_get (D := D) (ci := 7) (v := .ref (q 55)) (C := RX7) (T := TX7) (N := 56) hx hb hts (fun _ h => List.mem_cons_of_mem _ (List.mem_append_right _ h)) hown hK hP 0 rfl rfl 55 (by decide) (hts (.fieldLink RX7 118 "CrownTableModel" "cloth" "[I") (mem_i 2 rfl)) (fun _ h9 => h9) rfl dX7_take_44 ?_
        refine lv_iload_n hx hb dX7_take_47 rfl (lv_at hl 1 rfl) ?_
        refine va_iald hx hb hK hP 1 1 rfl rfl (vin (a := 5) (by decide) (by decide) (by decide)) dX7_take_48 ?_
        refine lv_topi (fun x_13 ex_13 => ?_)
        have lf_14 : (M_cloth 5).toInt = x_13.toInt := by rw [ex_13]; rfl
        refine lv_iload hx hb dX7_take_49 (lv_at hl 0 rfl) ?_
        refine iicmp_ge (a := x_13.toInt) (b := r_11.toInt) (tgt := 119) hx hb rfl rfl dX7_take_51 (by decide) (fun k_15 => ?_) (fun k_15 => ?_)
        · skip
          refine lv_aload_n hx hb dX7_take_119 rfl (lv_at hl 2 rfl) ?_
          refine va_get (D := D) (ci := 7) (v := .ref (q 55)) (C := RX7) (T := TX7) (N := 56) hx hb hts (fun _ h => List.mem_cons_of_mem _ (List.mem_append_right _ h)) hown hK hP 0 rfl rfl 55 (by decide) (hts (.fieldLink RX7 118 "CrownTableModel" "cloth" "[I") (mem_i 2 rfl)) (fun _ h9 => h9) rfl dX7_take_120 ?_
          refine lv_iload_n hx hb dX7_take_123 rfl (lv_at hl 1 rfl) ?_
          refine lv_dup2_11 hx hb dX7_take_124 rfl rfl ?_
          refine va_iald hx hb hK hP 1 1 rfl rfl (vin (a := 5) (by decide) (by decide) (by decide)) dX7_take_125 ?_
          refine lv_topi (fun x_16 ex_16 => ?_)
          have lf_17 : (M_cloth 5).toInt = x_16.toInt := by rw [ex_16]; rfl
          refine lv_iload hx hb dX7_take_126 (lv_at hl 0 rfl) ?_
          refine lv_isub hx hb dX7_take_128 ?_
          refine lv_topi (fun x_18 ex_18 => ?_)
          have tx_18 : x_18.toInt = (x_16.toInt - r_11.toInt) := by rw [ex_18]; exact sub_ti (a := x_16.toInt) (b := r_11.toInt) rfl rfl (by omega) (by omega)
          refine va_iast hx hb hK hP hD hS 1 1 rfl rfl (vin (a := 5) (by decide) (by decide) (by decide)) dX7_take_129 (fun H locs hP hD hS => ?_)
          obtain ⟨f_19, ef_19, hP, hD⟩ : ∃ f_19 : Nat → Int32, f_19 = upd M_cloth (5 : Int32).toNatClampNeg x_18 ∧ va_P D vwCl [(A_self, .inr (7, o7 q v w)), (q 55, .inl (c 1, 6, .inl f_19))] H ∧ va_D A [(A_self, .inr (7, o7 q v w)), (q 55, .inl (c 1, 6, .inl f_19))] := ⟨_, rfl, hP, hD⟩
          have cl_20 : (f_19 0).toInt = (M_cloth 0).toInt := by rw [ef_19]; rfl
          have cl_21 : (f_19 1).toInt = (M_cloth 1).toInt := by rw [ef_19]; rfl
          have cl_22 : (f_19 2).toInt = (M_cloth 2).toInt := by rw [ef_19]; rfl
          have cl_23 : (f_19 3).toInt = (M_cloth 3).toInt := by rw [ef_19]; rfl
          have cl_24 : (f_19 4).toInt = (M_cloth 4).toInt := by rw [ef_19]; rfl
          have cl_25 : (f_19 5).toInt = x_18.toInt := by rw [ef_19]; rfl
          refine lv_iinc (v := 6) (lv' := [(3, .int 6), (4, .int r_11), (0, .ref A_self), (1, .int a1), (2, .int L2)]) hx hb dX7_take_130 hl (k := 1) rfl (by decide) (by decide) rfl (fun ls hl => ?_)
          refine lv_goto (tgt := 30) hx hb dX7_take_133 (by decide) ?_
          obtain ⟨ts, td0, td1, td2, td3, td4, td5, tl⟩ := TkS.s5 (d0 := (f_19 0).toInt) (d1 := (f_19 1).toInt) (d2 := (f_19 2).toInt) (d3 := (f_19 3).toInt) (d4 := (f_19 4).toInt) (d5 := (f_19 5).toInt) hf30_5_2 (by omega) (by omega) (by omega) (by omega) (by omega) (by omega) (by omega)
          have hl := lv_sub hl [0, 2, 3, 4] rfl
          exact lp_30_6 L2 f_19 (by omega) (by omega) ts td0 td1 td2 td3 td4 td5 _ _ _ hP hD hS hl
        · skip
          exact (TkS.n5 hf30_5_2 (by omega)).elim
      have lp_30_4 : ∀ (L2 : Int32) (M_cloth : Nat → Int32) (hf30_4_0 : 0 ≤ L2.toInt) (hf30_4_1 : L2.toInt ≤ 5) (hf30_4_2 : TkS4 (f_cloth 0).toInt (f_cloth 1).toInt (f_cloth 2).toInt (f_cloth 3).toInt (f_cloth 4).toInt (f_cloth 5).toInt (M_cloth 0).toInt (M_cloth 1).toInt (M_cloth 2).toInt (M_cloth 3).toInt (M_cloth 4).toInt (M_cloth 5).toInt n0 n1 n2 n3 n4 n5 L2.toInt) (hf30_4_3 : 0 ≤ (M_cloth 0).toInt ∧ (M_cloth 0).toInt ≤ 11) (hf30_4_4 : 0 ≤ (M_cloth 1).toInt ∧ (M_cloth 1).toInt ≤ 19) (hf30_4_5 : 0 ≤ (M_cloth 2).toInt ∧ (M_cloth 2).toInt ≤ 19) (hf30_4_6 : 0 ≤ (M_cloth 3).toInt ∧ (M_cloth 3).toInt ≤ 4) (hf30_4_7 : 0 ≤ (M_cloth 4).toInt ∧ (M_cloth 4).toInt ≤ 9) (hf30_4_8 : 0 ≤ (M_cloth 5).toInt ∧ (M_cloth 5).toInt ≤ 900000) (H : Heap) (locs : List Loc) (ls : Array Slot), va_P D vwCl [(A_self, .inr (7, o7 q v w)), (q 55, .inl (c 1, 6, .inl M_cloth))] H → va_D A [(A_self, .inr (7, o7 q v w)), (q 55, .inl (c 1, 6, .inl M_cloth))] → va_S A s.heap H locs → lv_has ls 6 [(3, .int 4), (0, .ref A_self), (1, .int a1), (2, .int L2)] → W p l e (headSpec wsX7_take ({ frames := 2, cells := 0, slots := 0, locals := 43 })).room s m (([.ref A_self, .int a1] : List Value).toArray) below meth cd H locs 0 0 (MQ below (va_Qi (fun (r : Int32) (u : (Nat → Int32) × Unit) => (0 ≤ (u.1 0).toInt ∧ (u.1 0).toInt ≤ 11) ∧ (0 ≤ (u.1 1).toInt ∧ (u.1 1).toInt ≤ 19) ∧ (0 ≤ (u.1 2).toInt ∧ (u.1 2).toInt ≤ 19) ∧ (0 ≤ (u.1 3).toInt ∧ (u.1 3).toInt ≤ 4) ∧ (0 ≤ (u.1 4).toInt ∧ (u.1 4).toInt ≤ 9) ∧ (0 ≤ (u.1 5).toInt ∧ (u.1 5).toInt ≤ cb) ∧ ((r.toInt = -1 ∧ ¬ (1 ≤ i_a1 ∧ i_a1 ≤ 1000000) ∧ (u.1 0).toInt = (f_cloth 0).toInt ∧ (u.1 1).toInt = (f_cloth 1).toInt ∧ (u.1 2).toInt = (f_cloth 2).toInt ∧ (u.1 3).toInt = (f_cloth 3).toInt ∧ (u.1 4).toInt = (f_cloth 4).toInt ∧ (u.1 5).toInt = (f_cloth 5).toInt) ∨ ((1 ≤ i_a1 ∧ i_a1 ≤ 1000000) ∧ r.toInt = -2 ∧ (f_cloth 0).toInt + 12 * (f_cloth 1).toInt + 240 * (f_cloth 2).toInt + 4800 * (f_cloth 3).toInt + 24000 * (f_cloth 4).toInt + 240000 * (f_cloth 5).toInt < i_a1 ∧ (u.1 0).toInt = (f_cloth 0).toInt ∧ (u.1 1).toInt = (f_cloth 1).toInt ∧ (u.1 2).toInt = (f_cloth 2).toInt ∧ (u.1 3).toInt = (f_cloth 3).toInt ∧ (u.1 4).toInt = (f_cloth 4).toInt ∧ (u.1 5).toInt = (f_cloth 5).toInt) ∨ ((1 ≤ i_a1 ∧ i_a1 ≤ 1000000) ∧ i_a1 ≤ (f_cloth 0).toInt + 12 * (f_cloth 1).toInt + 240 * (f_cloth 2).toInt + 4800 * (f_cloth 3).toInt + 24000 * (f_cloth 4).toInt + 240000 * (f_cloth 5).toInt ∧ TakI (f_cloth 0).toInt (f_cloth 1).toInt (f_cloth 2).toInt (f_cloth 3).toInt (f_cloth 4).toInt (f_cloth 5).toInt (u.1 0).toInt (u.1 1).toInt (u.1 2).toInt (u.1 3).toInt (u.1 4).toInt (u.1 5).toInt i_a1 r.toInt ∧ (0 ≤ (u.1 0).toInt ∧ (u.1 0).toInt ≤ 11) ∧ (0 ≤ (u.1 1).toInt ∧ (u.1 1).toInt ≤ 19) ∧ (0 ≤ (u.1 2).toInt ∧ (u.1 2).toInt ≤ 19) ∧ (0 ≤ (u.1 3).toInt ∧ (u.1 3).toInt ≤ 4) ∧ (0 ≤ (u.1 4).toInt ∧ (u.1 4).toInt ≤ 9)))) (fun u t => va_P D vwCl [(A_self, .inr (7, o7 q v w)), (q 55, .inl (c 1, 6, .inl u.1))] t.heap ∧ va_D A [(A_self, .inr (7, o7 q v w)), (q 55, .inl (c 1, 6, .inl u.1))]) A) ([.ref A_self, .int a1] : List Value).toArray s 0 0 A) (F0 m 30 ls []) := by
        intro L2 M_cloth hf30_4_0 hf30_4_1 hf30_4_2 hf30_4_3 hf30_4_4 hf30_4_5 hf30_4_6 hf30_4_7 hf30_4_8 H locs ls hP hD hS hl
        clear tv tw
        refine lv_iload_n hx hb dX7_take_30 rfl (lv_at hl 0 rfl) ?_
        refine lv_bipush (v := 6) hx hb dX7_take_31 (by decide) ?_
        refine iicmp_geF (a := 4) (b := 6) (tgt := 136) hx hb (by decide) (by decide) dX7_take_33 (by decide) (by decide) ?_
        refine lv_iload_n hx hb dX7_take_36 rfl (lv_at hl 2 rfl) ?_
        refine lv_iload_n hx hb dX7_take_37 rfl (lv_at hl 0 rfl) ?_
        have hPc := hP.sub (ws' := []) [] rfl
        have hDc := hD.sub (ws' := []) [] (by decide) rfl
        have hFc := va_free (wc := []) hD hS hA [] rfl
        have kzz_26 : (4 : Int32).toInt = 4 := by decide
        refine va_csi (va_runS (As := [.int a1, .int 4]) (rest := []) ⟨hx, hb, hml, hown, hts⟩ (k_X7_notch_P l D c ts H.size a1 i_a1 hi_a1 4 4 (by decide) (by omega) (by omega)) (cwS 2 hts gX7_take_X7_notch rfl rfl rfl ⟨rfl, hdX7_notch⟩ ⟨(show 1 + 1 ≤ 2 by decide), (show 8 + (2 + 11) + 20 ≤ 43 by decide)⟩) ⟨Pre0.blind, Pre0.at hPc hDc hAm hSt hS hFc⟩ rfl rfl hl.1 rfl (lv_room (Nat.le_of_ble_eq_true rfl)) dX7_take_38 ⟨(show 0 + 0 ≤ 0 by decide), (show 0 + 0 ≤ 0 by decide)⟩) (fun r_28 hw_27 => ?_)
        have nf_29 : r_28.toInt = n4 := (hw_27.2.2.2.2.2.1 rfl).trans hDg.2.2.2.2.1
        clear hw_27
        have rg_r_28 := i32r r_28
        refine lv_istore (lv' := [(4, .int r_28), (3, .int 4), (0, .ref A_self), (1, .int a1), (2, .int L2)]) hx hb dX7_take_41 hl (by decide) rfl (fun ls hl => ?_)
        refine lv_aload_n hx hb dX7_take_43 rfl (lv_at hl 2 rfl) ?_
        refine va_get (D := D) (ci := 7) (v := .ref (q 55)) (C := RX7) (T := TX7) (N := 56) hx hb hts (fun _ h => List.mem_cons_of_mem _ (List.mem_append_right _ h)) hown hK hP 0 rfl rfl 55 (by decide) (hts (.fieldLink RX7 118 "CrownTableModel" "cloth" "[I") (mem_i 2 rfl)) (fun _ h9 => h9) rfl dX7_take_44 ?_
        refine lv_iload_n hx hb dX7_take_47 rfl (lv_at hl 1 rfl) ?_
        refine va_iald hx hb hK hP 1 1 rfl rfl (vin (a := 4) (by decide) (by decide) (by decide)) dX7_take_48 ?_
        refine lv_topi (fun x_30 ex_30 => ?_)
        have lf_31 : (M_cloth 4).toInt = x_30.toInt := by rw [ex_30]; rfl
        refine lv_iload hx hb dX7_take_49 (lv_at hl 0 rfl) ?_
        refine iicmp_ge (a := x_30.toInt) (b := r_28.toInt) (tgt := 119) hx hb rfl rfl dX7_take_51 (by decide) (fun k_32 => ?_) (fun k_32 => ?_)
        · skip
          refine lv_aload_n hx hb dX7_take_119 rfl (lv_at hl 2 rfl) ?_
          refine va_get (D := D) (ci := 7) (v := .ref (q 55)) (C := RX7) (T := TX7) (N := 56) hx hb hts (fun _ h => List.mem_cons_of_mem _ (List.mem_append_right _ h)) hown hK hP 0 rfl rfl 55 (by decide) (hts (.fieldLink RX7 118 "CrownTableModel" "cloth" "[I") (mem_i 2 rfl)) (fun _ h9 => h9) rfl dX7_take_120 ?_
          refine lv_iload_n hx hb dX7_take_123 rfl (lv_at hl 1 rfl) ?_
          refine lv_dup2_11 hx hb dX7_take_124 rfl rfl ?_
          refine va_iald hx hb hK hP 1 1 rfl rfl (vin (a := 4) (by decide) (by decide) (by decide)) dX7_take_125 ?_
          refine lv_topi (fun x_33 ex_33 => ?_)
          have lf_34 : (M_cloth 4).toInt = x_33.toInt := by rw [ex_33]; rfl
          refine lv_iload hx hb dX7_take_126 (lv_at hl 0 rfl) ?_
          refine lv_isub hx hb dX7_take_128 ?_
          refine lv_topi (fun x_35 ex_35 => ?_)
          have tx_35 : x_35.toInt = (x_33.toInt - r_28.toInt) := by rw [ex_35]; exact sub_ti (a := x_33.toInt) (b := r_28.toInt) rfl rfl (by omega) (by omega)
          refine va_iast hx hb hK hP hD hS 1 1 rfl rfl (vin (a := 4) (by decide) (by decide) (by decide)) dX7_take_129 (fun H locs hP hD hS => ?_)
          obtain ⟨f_36, ef_36, hP, hD⟩ : ∃ f_36 : Nat → Int32, f_36 = upd M_cloth (4 : Int32).toNatClampNeg x_35 ∧ va_P D vwCl [(A_self, .inr (7, o7 q v w)), (q 55, .inl (c 1, 6, .inl f_36))] H ∧ va_D A [(A_self, .inr (7, o7 q v w)), (q 55, .inl (c 1, 6, .inl f_36))] := ⟨_, rfl, hP, hD⟩
          have cl_37 : (f_36 0).toInt = (M_cloth 0).toInt := by rw [ef_36]; rfl
          have cl_38 : (f_36 1).toInt = (M_cloth 1).toInt := by rw [ef_36]; rfl
          have cl_39 : (f_36 2).toInt = (M_cloth 2).toInt := by rw [ef_36]; rfl
          have cl_40 : (f_36 3).toInt = (M_cloth 3).toInt := by rw [ef_36]; rfl
          have cl_41 : (f_36 4).toInt = x_35.toInt := by rw [ef_36]; rfl
          have cl_42 : (f_36 5).toInt = (M_cloth 5).toInt := by rw [ef_36]; rfl
          refine lv_iinc (v := 5) (lv' := [(3, .int 5), (4, .int r_28), (0, .ref A_self), (1, .int a1), (2, .int L2)]) hx hb dX7_take_130 hl (k := 1) rfl (by decide) (by decide) rfl (fun ls hl => ?_)
          refine lv_goto (tgt := 30) hx hb dX7_take_133 (by decide) ?_
          obtain ⟨ts, td0, td1, td2, td3, td4, td5, tl⟩ := TkS.s4 (d0 := (f_36 0).toInt) (d1 := (f_36 1).toInt) (d2 := (f_36 2).toInt) (d3 := (f_36 3).toInt) (d4 := (f_36 4).toInt) (d5 := (f_36 5).toInt) hf30_4_2 (by omega) (by omega) (by omega) (by omega) (by omega) (by omega) (by omega)
          have hl := lv_sub hl [0, 2, 3, 4] rfl
          exact lp_30_5 L2 f_36 (by omega) (by omega) ts td0 td1 td2 td3 td4 td5 _ _ _ hP hD hS hl
        · skip
          refine lv_iload_n hx hb dX7_take_54 rfl (lv_at hl 1 rfl) ?_
          refine lv_iconst (v := 1) hx hb dX7_take_55 (by decide) ?_
          refine lv_iadd hx hb dX7_take_56 ?_
          refine lk_i (y := 5) (by decide) ?_
          refine lv_istore (lv' := [(5, .int 5), (4, .int r_28), (3, .int 4), (0, .ref A_self), (1, .int a1), (2, .int L2)]) hx hb dX7_take_57 hl (by decide) rfl (fun ls hl => ?_)
          refine lv_aload_n hx hb dX7_take_59 rfl (lv_at hl 3 rfl) ?_
          refine va_get (D := D) (ci := 7) (v := .ref (q 55)) (C := RX7) (T := TX7) (N := 56) hx hb hts (fun _ h => List.mem_cons_of_mem _ (List.mem_append_right _ h)) hown hK hP 0 rfl rfl 55 (by decide) (hts (.fieldLink RX7 118 "CrownTableModel" "cloth" "[I") (mem_i 2 rfl)) (fun _ h9 => h9) rfl dX7_take_60 ?_
          refine lv_iload hx hb dX7_take_63 (lv_at hl 0 rfl) ?_
          refine va_iald hx hb hK hP 1 1 rfl rfl (vin (a := 5) (by decide) (by decide) (by decide)) dX7_take_65 ?_
          refine lv_topi (fun x_43 ex_43 => ?_)
          have lf_44 : (M_cloth 5).toInt = x_43.toInt := by rw [ex_43]; rfl
          refine iif_ne (a := x_43.toInt) (tgt := 75) hx hb rfl dX7_take_66 (by decide) (fun k_45 => ?_) (fun k_45 => ?_)
          · skip
            refine lv_iload hx hb dX7_take_75 (lv_at hl 0 rfl) ?_
            refine lv_iload_n hx hb dX7_take_77 rfl (lv_at hl 2 rfl) ?_
            refine iicmp_leF (a := 5) (b := 4) (tgt := 116) hx hb (by decide) (by decide) dX7_take_78 (by decide) (by decide) ?_
            refine lv_aload_n hx hb dX7_take_81 rfl (lv_at hl 3 rfl) ?_
            refine va_get (D := D) (ci := 7) (v := .ref (q 55)) (C := RX7) (T := TX7) (N := 56) hx hb hts (fun _ h => List.mem_cons_of_mem _ (List.mem_append_right _ h)) hown hK hP 0 rfl rfl 55 (by decide) (hts (.fieldLink RX7 118 "CrownTableModel" "cloth" "[I") (mem_i 2 rfl)) (fun _ h9 => h9) rfl dX7_take_82 ?_
            refine lv_iload hx hb dX7_take_85 (lv_at hl 0 rfl) ?_
            refine lv_dup2_11 hx hb dX7_take_87 rfl rfl ?_
            refine va_iald hx hb hK hP 1 1 rfl rfl (vin (a := 5) (by decide) (by decide) (by decide)) dX7_take_88 ?_
            refine lv_topi (fun x_46 ex_46 => ?_)
            have lf_47 : (M_cloth 5).toInt = x_46.toInt := by rw [ex_46]; rfl
            refine lv_iconst (v := 1) hx hb dX7_take_89 (by decide) ?_
            refine lv_isub hx hb dX7_take_90 ?_
            refine lv_topi (fun x_48 ex_48 => ?_)
            have tx_48 : x_48.toInt = (x_46.toInt - 1) := by rw [ex_48]; exact sub_ti (a := x_46.toInt) (b := 1) rfl (by decide) (by omega) (by omega)
            refine va_iast hx hb hK hP hD hS 1 1 rfl rfl (vin (a := 5) (by decide) (by decide) (by decide)) dX7_take_91 (fun H locs hP hD hS => ?_)
            obtain ⟨f_49, ef_49, hP, hD⟩ : ∃ f_49 : Nat → Int32, f_49 = upd M_cloth (5 : Int32).toNatClampNeg x_48 ∧ va_P D vwCl [(A_self, .inr (7, o7 q v w)), (q 55, .inl (c 1, 6, .inl f_49))] H ∧ va_D A [(A_self, .inr (7, o7 q v w)), (q 55, .inl (c 1, 6, .inl f_49))] := ⟨_, rfl, hP, hD⟩
            have cl_50 : (f_49 0).toInt = (M_cloth 0).toInt := by rw [ef_49]; rfl
            have cl_51 : (f_49 1).toInt = (M_cloth 1).toInt := by rw [ef_49]; rfl
            have cl_52 : (f_49 2).toInt = (M_cloth 2).toInt := by rw [ef_49]; rfl
            have cl_53 : (f_49 3).toInt = (M_cloth 3).toInt := by rw [ef_49]; rfl
            have cl_54 : (f_49 4).toInt = (M_cloth 4).toInt := by rw [ef_49]; rfl
            have cl_55 : (f_49 5).toInt = x_48.toInt := by rw [ef_49]; rfl
            refine lv_iinc (v := 4) (lv' := [(5, .int 4), (4, .int r_28), (3, .int 4), (0, .ref A_self), (1, .int a1), (2, .int L2)]) hx hb dX7_take_92 hl (k := 0) rfl (by decide) (by decide) rfl (fun ls hl => ?_)
            refine lv_aload_n hx hb dX7_take_95 rfl (lv_at hl 3 rfl) ?_
            refine va_get (D := D) (ci := 7) (v := .ref (q 55)) (C := RX7) (T := TX7) (N := 56) hx hb hts (fun _ h => List.mem_cons_of_mem _ (List.mem_append_right _ h)) hown hK hP 0 rfl rfl 55 (by decide) (hts (.fieldLink RX7 118 "CrownTableModel" "cloth" "[I") (mem_i 2 rfl)) (fun _ h9 => h9) rfl dX7_take_96 ?_
            refine lv_iload hx hb dX7_take_99 (lv_at hl 0 rfl) ?_
            refine lv_dup2_11 hx hb dX7_take_101 rfl rfl ?_
            refine va_iald hx hb hK hP 1 1 rfl rfl (vin (a := 4) (by decide) (by decide) (by decide)) dX7_take_102 ?_
            refine lv_topi (fun x_56 ex_56 => ?_)
            have lf_57 : (f_49 4).toInt = x_56.toInt := by rw [ex_56]; rfl
            refine lv_iload hx hb dX7_take_103 (lv_at hl 0 rfl) ?_
            have hPc := hP.sub (ws' := []) [] rfl
            have hDc := hD.sub (ws' := []) [] (by decide) rfl
            have hFc := va_free (wc := []) hD hS hA [] rfl
            have kzz_58 : (4 : Int32).toInt = 4 := by decide
            refine va_csi (va_runS (As := [.int 4]) (rest := [.int x_56, .int 4, .ref (q 55)]) ⟨hx, hb, hml, hown, hts⟩ (k_X7_next l D c ts H.size 4 4 (by decide) (by omega)) (cwS 1 hts gX7_take_X7_next rfl rfl rfl ⟨rfl, hdX7_next⟩ ⟨(show 1 + 1 ≤ 2 by decide), (show 8 + (1 + 11) + 20 ≤ 43 by decide)⟩) ⟨Pre0.blind, Pre0.at hPc hDc hAm hSt hS hFc⟩ rfl rfl hl.1 rfl (lv_room (Nat.le_of_ble_eq_true rfl)) dX7_take_105 ⟨(show 0 + 0 ≤ 0 by decide), (show 0 + 0 ≤ 0 by decide)⟩) (fun r_60 hw_59 => ?_)
            rcases hw_59 with ⟨hw_59, rfl⟩ | ⟨hw_59, rfl⟩ | ⟨hw_59, rfl⟩ | ⟨hw_59, rfl⟩
            · exfalso; omega
            · exfalso; omega
            · exfalso; omega
            · skip
              refine lv_iadd hx hb dX7_take_108 ?_
              refine lv_topi (fun x_61 ex_61 => ?_)
              have tx_61 : x_61.toInt = (x_56.toInt + 10) := by rw [ex_61]; exact add_ti (a := x_56.toInt) (b := 10) rfl (by decide) (by omega) (by omega)
              refine va_iast hx hb hK hP hD hS 1 1 rfl rfl (vin (a := 4) (by decide) (by decide) (by decide)) dX7_take_109 (fun H locs hP hD hS => ?_)
              obtain ⟨f_62, ef_62, hP, hD⟩ : ∃ f_62 : Nat → Int32, f_62 = upd f_49 (4 : Int32).toNatClampNeg x_61 ∧ va_P D vwCl [(A_self, .inr (7, o7 q v w)), (q 55, .inl (c 1, 6, .inl f_62))] H ∧ va_D A [(A_self, .inr (7, o7 q v w)), (q 55, .inl (c 1, 6, .inl f_62))] := ⟨_, rfl, hP, hD⟩
              have cl_63 : (f_62 0).toInt = (f_49 0).toInt := by rw [ef_62]; rfl
              have cl_64 : (f_62 1).toInt = (f_49 1).toInt := by rw [ef_62]; rfl
              have cl_65 : (f_62 2).toInt = (f_49 2).toInt := by rw [ef_62]; rfl
              have cl_66 : (f_62 3).toInt = (f_49 3).toInt := by rw [ef_62]; rfl
              have cl_67 : (f_62 4).toInt = x_61.toInt := by rw [ef_62]; rfl
              have cl_68 : (f_62 5).toInt = (f_49 5).toInt := by rw [ef_62]; rfl
              obtain ⟨x_69, ex_69⟩ : ∃ y : Int32, y = L2 + 1 := ⟨_, rfl⟩
              have tx_69 : x_69.toInt = L2.toInt + 1 := by rw [ex_69]; exact add_ti (a := L2.toInt) (b := 1) rfl (by decide) (by omega) (by omega)
              refine lv_iinc (v := x_69) (lv' := [(2, .int x_69), (5, .int 4), (4, .int r_28), (3, .int 4), (0, .ref A_self), (1, .int a1)]) hx hb dX7_take_110 hl (k := 5) rfl (by rw [ex_69]; rfl) (by decide) rfl (fun ls hl => ?_)
              refine lv_goto (tgt := 75) hx hb dX7_take_113 (by decide) ?_
              refine lv_iload hx hb dX7_take_75 (lv_at hl 1 rfl) ?_
              refine lv_iload_n hx hb dX7_take_77 rfl (lv_at hl 3 rfl) ?_
              refine iicmp_leT (a := 4) (b := 4) (tgt := 116) hx hb (by decide) (by decide) dX7_take_78 (by decide) (by decide) ?_
              refine lv_goto (tgt := 43) hx hb dX7_take_116 (by decide) ?_
              refine lv_aload_n hx hb dX7_take_43 rfl (lv_at hl 4 rfl) ?_
              refine va_get (D := D) (ci := 7) (v := .ref (q 55)) (C := RX7) (T := TX7) (N := 56) hx hb hts (fun _ h => List.mem_cons_of_mem _ (List.mem_append_right _ h)) hown hK hP 0 rfl rfl 55 (by decide) (hts (.fieldLink RX7 118 "CrownTableModel" "cloth" "[I") (mem_i 2 rfl)) (fun _ h9 => h9) rfl dX7_take_44 ?_
              refine lv_iload_n hx hb dX7_take_47 rfl (lv_at hl 3 rfl) ?_
              refine va_iald hx hb hK hP 1 1 rfl rfl (vin (a := 4) (by decide) (by decide) (by decide)) dX7_take_48 ?_
              refine lv_topi (fun x_70 ex_70 => ?_)
              have lf_71 : (f_62 4).toInt = x_70.toInt := by rw [ex_70]; rfl
              refine lv_iload hx hb dX7_take_49 (lv_at hl 2 rfl) ?_
              refine iicmp_ge (a := x_70.toInt) (b := r_28.toInt) (tgt := 119) hx hb rfl rfl dX7_take_51 (by decide) (fun k_72 => ?_) (fun k_72 => ?_)
              · skip
                refine lv_aload_n hx hb dX7_take_119 rfl (lv_at hl 4 rfl) ?_
                refine va_get (D := D) (ci := 7) (v := .ref (q 55)) (C := RX7) (T := TX7) (N := 56) hx hb hts (fun _ h => List.mem_cons_of_mem _ (List.mem_append_right _ h)) hown hK hP 0 rfl rfl 55 (by decide) (hts (.fieldLink RX7 118 "CrownTableModel" "cloth" "[I") (mem_i 2 rfl)) (fun _ h9 => h9) rfl dX7_take_120 ?_
                refine lv_iload_n hx hb dX7_take_123 rfl (lv_at hl 3 rfl) ?_
                refine lv_dup2_11 hx hb dX7_take_124 rfl rfl ?_
                refine va_iald hx hb hK hP 1 1 rfl rfl (vin (a := 4) (by decide) (by decide) (by decide)) dX7_take_125 ?_
                refine lv_topi (fun x_73 ex_73 => ?_)
                have lf_74 : (f_62 4).toInt = x_73.toInt := by rw [ex_73]; rfl
                refine lv_iload hx hb dX7_take_126 (lv_at hl 2 rfl) ?_
                refine lv_isub hx hb dX7_take_128 ?_
                refine lv_topi (fun x_75 ex_75 => ?_)
                have tx_75 : x_75.toInt = (x_73.toInt - r_28.toInt) := by rw [ex_75]; exact sub_ti (a := x_73.toInt) (b := r_28.toInt) rfl rfl (by omega) (by omega)
                refine va_iast hx hb hK hP hD hS 1 1 rfl rfl (vin (a := 4) (by decide) (by decide) (by decide)) dX7_take_129 (fun H locs hP hD hS => ?_)
                obtain ⟨f_76, ef_76, hP, hD⟩ : ∃ f_76 : Nat → Int32, f_76 = upd f_62 (4 : Int32).toNatClampNeg x_75 ∧ va_P D vwCl [(A_self, .inr (7, o7 q v w)), (q 55, .inl (c 1, 6, .inl f_76))] H ∧ va_D A [(A_self, .inr (7, o7 q v w)), (q 55, .inl (c 1, 6, .inl f_76))] := ⟨_, rfl, hP, hD⟩
                have cl_77 : (f_76 0).toInt = (f_62 0).toInt := by rw [ef_76]; rfl
                have cl_78 : (f_76 1).toInt = (f_62 1).toInt := by rw [ef_76]; rfl
                have cl_79 : (f_76 2).toInt = (f_62 2).toInt := by rw [ef_76]; rfl
                have cl_80 : (f_76 3).toInt = (f_62 3).toInt := by rw [ef_76]; rfl
                have cl_81 : (f_76 4).toInt = x_75.toInt := by rw [ef_76]; rfl
                have cl_82 : (f_76 5).toInt = (f_62 5).toInt := by rw [ef_76]; rfl
                refine lv_iinc (v := 5) (lv' := [(3, .int 5), (2, .int x_69), (5, .int 4), (4, .int r_28), (0, .ref A_self), (1, .int a1)]) hx hb dX7_take_130 hl (k := 3) rfl (by decide) (by decide) rfl (fun ls hl => ?_)
                refine lv_goto (tgt := 30) hx hb dX7_take_133 (by decide) ?_
                obtain ⟨ts, td0, td1, td2, td3, td4, td5, tl⟩ := TkS.b4_5 (d0 := (f_76 0).toInt) (d1 := (f_76 1).toInt) (d2 := (f_76 2).toInt) (d3 := (f_76 3).toInt) (d4 := (f_76 4).toInt) (d5 := (f_76 5).toInt) (L1 := x_69.toInt) hf30_4_2 (by omega) (by omega) (by omega) (by omega) (by omega) (by omega) (by omega) (by omega) (by omega)
                have hl := lv_sub hl [0, 4, 5, 1] rfl
                exact lp_30_5 x_69 f_76 (by omega) (by omega) ts td0 td1 td2 td3 td4 td5 _ _ _ hP hD hS hl
              · skip
                exfalso; omega
          · skip
            exact (TkS.n4 hf30_4_2 (by omega) (by omega)).elim
      have lp_30_3 : ∀ (L2 : Int32) (M_cloth : Nat → Int32) (hf30_3_0 : 0 ≤ L2.toInt) (hf30_3_1 : L2.toInt ≤ 5) (hf30_3_2 : TkS3 (f_cloth 0).toInt (f_cloth 1).toInt (f_cloth 2).toInt (f_cloth 3).toInt (f_cloth 4).toInt (f_cloth 5).toInt (M_cloth 0).toInt (M_cloth 1).toInt (M_cloth 2).toInt (M_cloth 3).toInt (M_cloth 4).toInt (M_cloth 5).toInt n0 n1 n2 n3 n4 n5 L2.toInt) (hf30_3_3 : 0 ≤ (M_cloth 0).toInt ∧ (M_cloth 0).toInt ≤ 11) (hf30_3_4 : 0 ≤ (M_cloth 1).toInt ∧ (M_cloth 1).toInt ≤ 19) (hf30_3_5 : 0 ≤ (M_cloth 2).toInt ∧ (M_cloth 2).toInt ≤ 19) (hf30_3_6 : 0 ≤ (M_cloth 3).toInt ∧ (M_cloth 3).toInt ≤ 4) (hf30_3_7 : 0 ≤ (M_cloth 4).toInt ∧ (M_cloth 4).toInt ≤ 9) (hf30_3_8 : 0 ≤ (M_cloth 5).toInt ∧ (M_cloth 5).toInt ≤ 900000) (H : Heap) (locs : List Loc) (ls : Array Slot), va_P D vwCl [(A_self, .inr (7, o7 q v w)), (q 55, .inl (c 1, 6, .inl M_cloth))] H → va_D A [(A_self, .inr (7, o7 q v w)), (q 55, .inl (c 1, 6, .inl M_cloth))] → va_S A s.heap H locs → lv_has ls 6 [(3, .int 3), (0, .ref A_self), (1, .int a1), (2, .int L2)] → W p l e (headSpec wsX7_take ({ frames := 2, cells := 0, slots := 0, locals := 43 })).room s m (([.ref A_self, .int a1] : List Value).toArray) below meth cd H locs 0 0 (MQ below (va_Qi (fun (r : Int32) (u : (Nat → Int32) × Unit) => (0 ≤ (u.1 0).toInt ∧ (u.1 0).toInt ≤ 11) ∧ (0 ≤ (u.1 1).toInt ∧ (u.1 1).toInt ≤ 19) ∧ (0 ≤ (u.1 2).toInt ∧ (u.1 2).toInt ≤ 19) ∧ (0 ≤ (u.1 3).toInt ∧ (u.1 3).toInt ≤ 4) ∧ (0 ≤ (u.1 4).toInt ∧ (u.1 4).toInt ≤ 9) ∧ (0 ≤ (u.1 5).toInt ∧ (u.1 5).toInt ≤ cb) ∧ ((r.toInt = -1 ∧ ¬ (1 ≤ i_a1 ∧ i_a1 ≤ 1000000) ∧ (u.1 0).toInt = (f_cloth 0).toInt ∧ (u.1 1).toInt = (f_cloth 1).toInt ∧ (u.1 2).toInt = (f_cloth 2).toInt ∧ (u.1 3).toInt = (f_cloth 3).toInt ∧ (u.1 4).toInt = (f_cloth 4).toInt ∧ (u.1 5).toInt = (f_cloth 5).toInt) ∨ ((1 ≤ i_a1 ∧ i_a1 ≤ 1000000) ∧ r.toInt = -2 ∧ (f_cloth 0).toInt + 12 * (f_cloth 1).toInt + 240 * (f_cloth 2).toInt + 4800 * (f_cloth 3).toInt + 24000 * (f_cloth 4).toInt + 240000 * (f_cloth 5).toInt < i_a1 ∧ (u.1 0).toInt = (f_cloth 0).toInt ∧ (u.1 1).toInt = (f_cloth 1).toInt ∧ (u.1 2).toInt = (f_cloth 2).toInt ∧ (u.1 3).toInt = (f_cloth 3).toInt ∧ (u.1 4).toInt = (f_cloth 4).toInt ∧ (u.1 5).toInt = (f_cloth 5).toInt) ∨ ((1 ≤ i_a1 ∧ i_a1 ≤ 1000000) ∧ i_a1 ≤ (f_cloth 0).toInt + 12 * (f_cloth 1).toInt + 240 * (f_cloth 2).toInt + 4800 * (f_cloth 3).toInt + 24000 * (f_cloth 4).toInt + 240000 * (f_cloth 5).toInt ∧ TakI (f_cloth 0).toInt (f_cloth 1).toInt (f_cloth 2).toInt (f_cloth 3).toInt (f_cloth 4).toInt (f_cloth 5).toInt (u.1 0).toInt (u.1 1).toInt (u.1 2).toInt (u.1 3).toInt (u.1 4).toInt (u.1 5).toInt i_a1 r.toInt ∧ (0 ≤ (u.1 0).toInt ∧ (u.1 0).toInt ≤ 11) ∧ (0 ≤ (u.1 1).toInt ∧ (u.1 1).toInt ≤ 19) ∧ (0 ≤ (u.1 2).toInt ∧ (u.1 2).toInt ≤ 19) ∧ (0 ≤ (u.1 3).toInt ∧ (u.1 3).toInt ≤ 4) ∧ (0 ≤ (u.1 4).toInt ∧ (u.1 4).toInt ≤ 9)))) (fun u t => va_P D vwCl [(A_self, .inr (7, o7 q v w)), (q 55, .inl (c 1, 6, .inl u.1))] t.heap ∧ va_D A [(A_self, .inr (7, o7 q v w)), (q 55, .inl (c 1, 6, .inl u.1))]) A) ([.ref A_self, .int a1] : List Value).toArray s 0 0 A) (F0 m 30 ls []) := by
        intro L2 M_cloth hf30_3_0 hf30_3_1 hf30_3_2 hf30_3_3 hf30_3_4 hf30_3_5 hf30_3_6 hf30_3_7 hf30_3_8 H locs ls hP hD hS hl
        clear tv tw
        refine lv_iload_n hx hb dX7_take_30 rfl (lv_at hl 0 rfl) ?_
        refine lv_bipush (v := 6) hx hb dX7_take_31 (by decide) ?_
        refine iicmp_geF (a := 3) (b := 6) (tgt := 136) hx hb (by decide) (by decide) dX7_take_33 (by decide) (by decide) ?_
        refine lv_iload_n hx hb dX7_take_36 rfl (lv_at hl 2 rfl) ?_
        refine lv_iload_n hx hb dX7_take_37 rfl (lv_at hl 0 rfl) ?_
        have hPc := hP.sub (ws' := []) [] rfl
        have hDc := hD.sub (ws' := []) [] (by decide) rfl
        have hFc := va_free (wc := []) hD hS hA [] rfl
        have kzz_83 : (3 : Int32).toInt = 3 := by decide
        refine va_csi (va_runS (As := [.int a1, .int 3]) (rest := []) ⟨hx, hb, hml, hown, hts⟩ (k_X7_notch_P l D c ts H.size a1 i_a1 hi_a1 3 3 (by decide) (by omega) (by omega)) (cwS 2 hts gX7_take_X7_notch rfl rfl rfl ⟨rfl, hdX7_notch⟩ ⟨(show 1 + 1 ≤ 2 by decide), (show 8 + (2 + 11) + 20 ≤ 43 by decide)⟩) ⟨Pre0.blind, Pre0.at hPc hDc hAm hSt hS hFc⟩ rfl rfl hl.1 rfl (lv_room (Nat.le_of_ble_eq_true rfl)) dX7_take_38 ⟨(show 0 + 0 ≤ 0 by decide), (show 0 + 0 ≤ 0 by decide)⟩) (fun r_85 hw_84 => ?_)
        have nf_86 : r_85.toInt = n3 := (hw_84.2.2.2.2.1 rfl).trans hDg.2.2.2.1
        clear hw_84
        have rg_r_85 := i32r r_85
        refine lv_istore (lv' := [(4, .int r_85), (3, .int 3), (0, .ref A_self), (1, .int a1), (2, .int L2)]) hx hb dX7_take_41 hl (by decide) rfl (fun ls hl => ?_)
        refine lv_aload_n hx hb dX7_take_43 rfl (lv_at hl 2 rfl) ?_
        refine va_get (D := D) (ci := 7) (v := .ref (q 55)) (C := RX7) (T := TX7) (N := 56) hx hb hts (fun _ h => List.mem_cons_of_mem _ (List.mem_append_right _ h)) hown hK hP 0 rfl rfl 55 (by decide) (hts (.fieldLink RX7 118 "CrownTableModel" "cloth" "[I") (mem_i 2 rfl)) (fun _ h9 => h9) rfl dX7_take_44 ?_
        refine lv_iload_n hx hb dX7_take_47 rfl (lv_at hl 1 rfl) ?_
        refine va_iald hx hb hK hP 1 1 rfl rfl (vin (a := 3) (by decide) (by decide) (by decide)) dX7_take_48 ?_
        refine lv_topi (fun x_87 ex_87 => ?_)
        have lf_88 : (M_cloth 3).toInt = x_87.toInt := by rw [ex_87]; rfl
        refine lv_iload hx hb dX7_take_49 (lv_at hl 0 rfl) ?_
        refine iicmp_ge (a := x_87.toInt) (b := r_85.toInt) (tgt := 119) hx hb rfl rfl dX7_take_51 (by decide) (fun k_89 => ?_) (fun k_89 => ?_)
        · skip
          refine lv_aload_n hx hb dX7_take_119 rfl (lv_at hl 2 rfl) ?_
          refine va_get (D := D) (ci := 7) (v := .ref (q 55)) (C := RX7) (T := TX7) (N := 56) hx hb hts (fun _ h => List.mem_cons_of_mem _ (List.mem_append_right _ h)) hown hK hP 0 rfl rfl 55 (by decide) (hts (.fieldLink RX7 118 "CrownTableModel" "cloth" "[I") (mem_i 2 rfl)) (fun _ h9 => h9) rfl dX7_take_120 ?_
          refine lv_iload_n hx hb dX7_take_123 rfl (lv_at hl 1 rfl) ?_
          refine lv_dup2_11 hx hb dX7_take_124 rfl rfl ?_
          refine va_iald hx hb hK hP 1 1 rfl rfl (vin (a := 3) (by decide) (by decide) (by decide)) dX7_take_125 ?_
          refine lv_topi (fun x_90 ex_90 => ?_)
          have lf_91 : (M_cloth 3).toInt = x_90.toInt := by rw [ex_90]; rfl
          refine lv_iload hx hb dX7_take_126 (lv_at hl 0 rfl) ?_
          refine lv_isub hx hb dX7_take_128 ?_
          refine lv_topi (fun x_92 ex_92 => ?_)
          have tx_92 : x_92.toInt = (x_90.toInt - r_85.toInt) := by rw [ex_92]; exact sub_ti (a := x_90.toInt) (b := r_85.toInt) rfl rfl (by omega) (by omega)
          refine va_iast hx hb hK hP hD hS 1 1 rfl rfl (vin (a := 3) (by decide) (by decide) (by decide)) dX7_take_129 (fun H locs hP hD hS => ?_)
          obtain ⟨f_93, ef_93, hP, hD⟩ : ∃ f_93 : Nat → Int32, f_93 = upd M_cloth (3 : Int32).toNatClampNeg x_92 ∧ va_P D vwCl [(A_self, .inr (7, o7 q v w)), (q 55, .inl (c 1, 6, .inl f_93))] H ∧ va_D A [(A_self, .inr (7, o7 q v w)), (q 55, .inl (c 1, 6, .inl f_93))] := ⟨_, rfl, hP, hD⟩
          have cl_94 : (f_93 0).toInt = (M_cloth 0).toInt := by rw [ef_93]; rfl
          have cl_95 : (f_93 1).toInt = (M_cloth 1).toInt := by rw [ef_93]; rfl
          have cl_96 : (f_93 2).toInt = (M_cloth 2).toInt := by rw [ef_93]; rfl
          have cl_97 : (f_93 3).toInt = x_92.toInt := by rw [ef_93]; rfl
          have cl_98 : (f_93 4).toInt = (M_cloth 4).toInt := by rw [ef_93]; rfl
          have cl_99 : (f_93 5).toInt = (M_cloth 5).toInt := by rw [ef_93]; rfl
          refine lv_iinc (v := 4) (lv' := [(3, .int 4), (4, .int r_85), (0, .ref A_self), (1, .int a1), (2, .int L2)]) hx hb dX7_take_130 hl (k := 1) rfl (by decide) (by decide) rfl (fun ls hl => ?_)
          refine lv_goto (tgt := 30) hx hb dX7_take_133 (by decide) ?_
          obtain ⟨ts, td0, td1, td2, td3, td4, td5, tl⟩ := TkS.s3 (d0 := (f_93 0).toInt) (d1 := (f_93 1).toInt) (d2 := (f_93 2).toInt) (d3 := (f_93 3).toInt) (d4 := (f_93 4).toInt) (d5 := (f_93 5).toInt) hf30_3_2 (by omega) (by omega) (by omega) (by omega) (by omega) (by omega) (by omega)
          have hl := lv_sub hl [0, 2, 3, 4] rfl
          exact lp_30_4 L2 f_93 (by omega) (by omega) ts td0 td1 td2 td3 td4 td5 _ _ _ hP hD hS hl
        · skip
          refine lv_iload_n hx hb dX7_take_54 rfl (lv_at hl 1 rfl) ?_
          refine lv_iconst (v := 1) hx hb dX7_take_55 (by decide) ?_
          refine lv_iadd hx hb dX7_take_56 ?_
          refine lk_i (y := 4) (by decide) ?_
          refine lv_istore (lv' := [(5, .int 4), (4, .int r_85), (3, .int 3), (0, .ref A_self), (1, .int a1), (2, .int L2)]) hx hb dX7_take_57 hl (by decide) rfl (fun ls hl => ?_)
          refine lv_aload_n hx hb dX7_take_59 rfl (lv_at hl 3 rfl) ?_
          refine va_get (D := D) (ci := 7) (v := .ref (q 55)) (C := RX7) (T := TX7) (N := 56) hx hb hts (fun _ h => List.mem_cons_of_mem _ (List.mem_append_right _ h)) hown hK hP 0 rfl rfl 55 (by decide) (hts (.fieldLink RX7 118 "CrownTableModel" "cloth" "[I") (mem_i 2 rfl)) (fun _ h9 => h9) rfl dX7_take_60 ?_
          refine lv_iload hx hb dX7_take_63 (lv_at hl 0 rfl) ?_
          refine va_iald hx hb hK hP 1 1 rfl rfl (vin (a := 4) (by decide) (by decide) (by decide)) dX7_take_65 ?_
          refine lv_topi (fun x_100 ex_100 => ?_)
          have lf_101 : (M_cloth 4).toInt = x_100.toInt := by rw [ex_100]; rfl
          refine iif_ne (a := x_100.toInt) (tgt := 75) hx hb rfl dX7_take_66 (by decide) (fun k_102 => ?_) (fun k_102 => ?_)
          · skip
            refine lv_iload hx hb dX7_take_75 (lv_at hl 0 rfl) ?_
            refine lv_iload_n hx hb dX7_take_77 rfl (lv_at hl 2 rfl) ?_
            refine iicmp_leF (a := 4) (b := 3) (tgt := 116) hx hb (by decide) (by decide) dX7_take_78 (by decide) (by decide) ?_
            refine lv_aload_n hx hb dX7_take_81 rfl (lv_at hl 3 rfl) ?_
            refine va_get (D := D) (ci := 7) (v := .ref (q 55)) (C := RX7) (T := TX7) (N := 56) hx hb hts (fun _ h => List.mem_cons_of_mem _ (List.mem_append_right _ h)) hown hK hP 0 rfl rfl 55 (by decide) (hts (.fieldLink RX7 118 "CrownTableModel" "cloth" "[I") (mem_i 2 rfl)) (fun _ h9 => h9) rfl dX7_take_82 ?_
            refine lv_iload hx hb dX7_take_85 (lv_at hl 0 rfl) ?_
            refine lv_dup2_11 hx hb dX7_take_87 rfl rfl ?_
            refine va_iald hx hb hK hP 1 1 rfl rfl (vin (a := 4) (by decide) (by decide) (by decide)) dX7_take_88 ?_
            refine lv_topi (fun x_103 ex_103 => ?_)
            have lf_104 : (M_cloth 4).toInt = x_103.toInt := by rw [ex_103]; rfl
            refine lv_iconst (v := 1) hx hb dX7_take_89 (by decide) ?_
            refine lv_isub hx hb dX7_take_90 ?_
            refine lv_topi (fun x_105 ex_105 => ?_)
            have tx_105 : x_105.toInt = (x_103.toInt - 1) := by rw [ex_105]; exact sub_ti (a := x_103.toInt) (b := 1) rfl (by decide) (by omega) (by omega)
            refine va_iast hx hb hK hP hD hS 1 1 rfl rfl (vin (a := 4) (by decide) (by decide) (by decide)) dX7_take_91 (fun H locs hP hD hS => ?_)
            obtain ⟨f_106, ef_106, hP, hD⟩ : ∃ f_106 : Nat → Int32, f_106 = upd M_cloth (4 : Int32).toNatClampNeg x_105 ∧ va_P D vwCl [(A_self, .inr (7, o7 q v w)), (q 55, .inl (c 1, 6, .inl f_106))] H ∧ va_D A [(A_self, .inr (7, o7 q v w)), (q 55, .inl (c 1, 6, .inl f_106))] := ⟨_, rfl, hP, hD⟩
            have cl_107 : (f_106 0).toInt = (M_cloth 0).toInt := by rw [ef_106]; rfl
            have cl_108 : (f_106 1).toInt = (M_cloth 1).toInt := by rw [ef_106]; rfl
            have cl_109 : (f_106 2).toInt = (M_cloth 2).toInt := by rw [ef_106]; rfl
            have cl_110 : (f_106 3).toInt = (M_cloth 3).toInt := by rw [ef_106]; rfl
            have cl_111 : (f_106 4).toInt = x_105.toInt := by rw [ef_106]; rfl
            have cl_112 : (f_106 5).toInt = (M_cloth 5).toInt := by rw [ef_106]; rfl
            refine lv_iinc (v := 3) (lv' := [(5, .int 3), (4, .int r_85), (3, .int 3), (0, .ref A_self), (1, .int a1), (2, .int L2)]) hx hb dX7_take_92 hl (k := 0) rfl (by decide) (by decide) rfl (fun ls hl => ?_)
            refine lv_aload_n hx hb dX7_take_95 rfl (lv_at hl 3 rfl) ?_
            refine va_get (D := D) (ci := 7) (v := .ref (q 55)) (C := RX7) (T := TX7) (N := 56) hx hb hts (fun _ h => List.mem_cons_of_mem _ (List.mem_append_right _ h)) hown hK hP 0 rfl rfl 55 (by decide) (hts (.fieldLink RX7 118 "CrownTableModel" "cloth" "[I") (mem_i 2 rfl)) (fun _ h9 => h9) rfl dX7_take_96 ?_
            refine lv_iload hx hb dX7_take_99 (lv_at hl 0 rfl) ?_
            refine lv_dup2_11 hx hb dX7_take_101 rfl rfl ?_
            refine va_iald hx hb hK hP 1 1 rfl rfl (vin (a := 3) (by decide) (by decide) (by decide)) dX7_take_102 ?_
            refine lv_topi (fun x_113 ex_113 => ?_)
            have lf_114 : (f_106 3).toInt = x_113.toInt := by rw [ex_113]; rfl
            refine lv_iload hx hb dX7_take_103 (lv_at hl 0 rfl) ?_
            have hPc := hP.sub (ws' := []) [] rfl
            have hDc := hD.sub (ws' := []) [] (by decide) rfl
            have hFc := va_free (wc := []) hD hS hA [] rfl
            have kzz_115 : (3 : Int32).toInt = 3 := by decide
            refine va_csi (va_runS (As := [.int 3]) (rest := [.int x_113, .int 3, .ref (q 55)]) ⟨hx, hb, hml, hown, hts⟩ (k_X7_next l D c ts H.size 3 3 (by decide) (by omega)) (cwS 1 hts gX7_take_X7_next rfl rfl rfl ⟨rfl, hdX7_next⟩ ⟨(show 1 + 1 ≤ 2 by decide), (show 8 + (1 + 11) + 20 ≤ 43 by decide)⟩) ⟨Pre0.blind, Pre0.at hPc hDc hAm hSt hS hFc⟩ rfl rfl hl.1 rfl (lv_room (Nat.le_of_ble_eq_true rfl)) dX7_take_105 ⟨(show 0 + 0 ≤ 0 by decide), (show 0 + 0 ≤ 0 by decide)⟩) (fun r_117 hw_116 => ?_)
            rcases hw_116 with ⟨hw_116, rfl⟩ | ⟨hw_116, rfl⟩ | ⟨hw_116, rfl⟩ | ⟨hw_116, rfl⟩
            · exfalso; omega
            · exfalso; omega
            · skip
              refine lv_iadd hx hb dX7_take_108 ?_
              refine lv_topi (fun x_118 ex_118 => ?_)
              have tx_118 : x_118.toInt = (x_113.toInt + 5) := by rw [ex_118]; exact add_ti (a := x_113.toInt) (b := 5) rfl (by decide) (by omega) (by omega)
              refine va_iast hx hb hK hP hD hS 1 1 rfl rfl (vin (a := 3) (by decide) (by decide) (by decide)) dX7_take_109 (fun H locs hP hD hS => ?_)
              obtain ⟨f_119, ef_119, hP, hD⟩ : ∃ f_119 : Nat → Int32, f_119 = upd f_106 (3 : Int32).toNatClampNeg x_118 ∧ va_P D vwCl [(A_self, .inr (7, o7 q v w)), (q 55, .inl (c 1, 6, .inl f_119))] H ∧ va_D A [(A_self, .inr (7, o7 q v w)), (q 55, .inl (c 1, 6, .inl f_119))] := ⟨_, rfl, hP, hD⟩
              have cl_120 : (f_119 0).toInt = (f_106 0).toInt := by rw [ef_119]; rfl
              have cl_121 : (f_119 1).toInt = (f_106 1).toInt := by rw [ef_119]; rfl
              have cl_122 : (f_119 2).toInt = (f_106 2).toInt := by rw [ef_119]; rfl
              have cl_123 : (f_119 3).toInt = x_118.toInt := by rw [ef_119]; rfl
              have cl_124 : (f_119 4).toInt = (f_106 4).toInt := by rw [ef_119]; rfl
              have cl_125 : (f_119 5).toInt = (f_106 5).toInt := by rw [ef_119]; rfl
              obtain ⟨x_126, ex_126⟩ : ∃ y : Int32, y = L2 + 1 := ⟨_, rfl⟩
              have tx_126 : x_126.toInt = L2.toInt + 1 := by rw [ex_126]; exact add_ti (a := L2.toInt) (b := 1) rfl (by decide) (by omega) (by omega)
              refine lv_iinc (v := x_126) (lv' := [(2, .int x_126), (5, .int 3), (4, .int r_85), (3, .int 3), (0, .ref A_self), (1, .int a1)]) hx hb dX7_take_110 hl (k := 5) rfl (by rw [ex_126]; rfl) (by decide) rfl (fun ls hl => ?_)
              refine lv_goto (tgt := 75) hx hb dX7_take_113 (by decide) ?_
              refine lv_iload hx hb dX7_take_75 (lv_at hl 1 rfl) ?_
              refine lv_iload_n hx hb dX7_take_77 rfl (lv_at hl 3 rfl) ?_
              refine iicmp_leT (a := 3) (b := 3) (tgt := 116) hx hb (by decide) (by decide) dX7_take_78 (by decide) (by decide) ?_
              refine lv_goto (tgt := 43) hx hb dX7_take_116 (by decide) ?_
              refine lv_aload_n hx hb dX7_take_43 rfl (lv_at hl 4 rfl) ?_
              refine va_get (D := D) (ci := 7) (v := .ref (q 55)) (C := RX7) (T := TX7) (N := 56) hx hb hts (fun _ h => List.mem_cons_of_mem _ (List.mem_append_right _ h)) hown hK hP 0 rfl rfl 55 (by decide) (hts (.fieldLink RX7 118 "CrownTableModel" "cloth" "[I") (mem_i 2 rfl)) (fun _ h9 => h9) rfl dX7_take_44 ?_
              refine lv_iload_n hx hb dX7_take_47 rfl (lv_at hl 3 rfl) ?_
              refine va_iald hx hb hK hP 1 1 rfl rfl (vin (a := 3) (by decide) (by decide) (by decide)) dX7_take_48 ?_
              refine lv_topi (fun x_127 ex_127 => ?_)
              have lf_128 : (f_119 3).toInt = x_127.toInt := by rw [ex_127]; rfl
              refine lv_iload hx hb dX7_take_49 (lv_at hl 2 rfl) ?_
              refine iicmp_ge (a := x_127.toInt) (b := r_85.toInt) (tgt := 119) hx hb rfl rfl dX7_take_51 (by decide) (fun k_129 => ?_) (fun k_129 => ?_)
              · skip
                refine lv_aload_n hx hb dX7_take_119 rfl (lv_at hl 4 rfl) ?_
                refine va_get (D := D) (ci := 7) (v := .ref (q 55)) (C := RX7) (T := TX7) (N := 56) hx hb hts (fun _ h => List.mem_cons_of_mem _ (List.mem_append_right _ h)) hown hK hP 0 rfl rfl 55 (by decide) (hts (.fieldLink RX7 118 "CrownTableModel" "cloth" "[I") (mem_i 2 rfl)) (fun _ h9 => h9) rfl dX7_take_120 ?_
                refine lv_iload_n hx hb dX7_take_123 rfl (lv_at hl 3 rfl) ?_
                refine lv_dup2_11 hx hb dX7_take_124 rfl rfl ?_
                refine va_iald hx hb hK hP 1 1 rfl rfl (vin (a := 3) (by decide) (by decide) (by decide)) dX7_take_125 ?_
                refine lv_topi (fun x_130 ex_130 => ?_)
                have lf_131 : (f_119 3).toInt = x_130.toInt := by rw [ex_130]; rfl
                refine lv_iload hx hb dX7_take_126 (lv_at hl 2 rfl) ?_
                refine lv_isub hx hb dX7_take_128 ?_
                refine lv_topi (fun x_132 ex_132 => ?_)
                have tx_132 : x_132.toInt = (x_130.toInt - r_85.toInt) := by rw [ex_132]; exact sub_ti (a := x_130.toInt) (b := r_85.toInt) rfl rfl (by omega) (by omega)
                refine va_iast hx hb hK hP hD hS 1 1 rfl rfl (vin (a := 3) (by decide) (by decide) (by decide)) dX7_take_129 (fun H locs hP hD hS => ?_)
                obtain ⟨f_133, ef_133, hP, hD⟩ : ∃ f_133 : Nat → Int32, f_133 = upd f_119 (3 : Int32).toNatClampNeg x_132 ∧ va_P D vwCl [(A_self, .inr (7, o7 q v w)), (q 55, .inl (c 1, 6, .inl f_133))] H ∧ va_D A [(A_self, .inr (7, o7 q v w)), (q 55, .inl (c 1, 6, .inl f_133))] := ⟨_, rfl, hP, hD⟩
                have cl_134 : (f_133 0).toInt = (f_119 0).toInt := by rw [ef_133]; rfl
                have cl_135 : (f_133 1).toInt = (f_119 1).toInt := by rw [ef_133]; rfl
                have cl_136 : (f_133 2).toInt = (f_119 2).toInt := by rw [ef_133]; rfl
                have cl_137 : (f_133 3).toInt = x_132.toInt := by rw [ef_133]; rfl
                have cl_138 : (f_133 4).toInt = (f_119 4).toInt := by rw [ef_133]; rfl
                have cl_139 : (f_133 5).toInt = (f_119 5).toInt := by rw [ef_133]; rfl
                refine lv_iinc (v := 4) (lv' := [(3, .int 4), (2, .int x_126), (5, .int 3), (4, .int r_85), (0, .ref A_self), (1, .int a1)]) hx hb dX7_take_130 hl (k := 3) rfl (by decide) (by decide) rfl (fun ls hl => ?_)
                refine lv_goto (tgt := 30) hx hb dX7_take_133 (by decide) ?_
                obtain ⟨ts, td0, td1, td2, td3, td4, td5, tl⟩ := TkS.b3_4 (d0 := (f_133 0).toInt) (d1 := (f_133 1).toInt) (d2 := (f_133 2).toInt) (d3 := (f_133 3).toInt) (d4 := (f_133 4).toInt) (d5 := (f_133 5).toInt) (L1 := x_126.toInt) hf30_3_2 (by omega) (by omega) (by omega) (by omega) (by omega) (by omega) (by omega) (by omega) (by omega)
                have hl := lv_sub hl [0, 4, 5, 1] rfl
                exact lp_30_4 x_126 f_133 (by omega) (by omega) ts td0 td1 td2 td3 td4 td5 _ _ _ hP hD hS hl
              · skip
                exfalso; omega
            · exfalso; omega
          · skip
            refine lv_iinc (v := 5) (lv' := [(5, .int 5), (4, .int r_85), (3, .int 3), (0, .ref A_self), (1, .int a1), (2, .int L2)]) hx hb dX7_take_69 hl (k := 0) rfl (by decide) (by decide) rfl (fun ls hl => ?_)
            refine lv_goto (tgt := 59) hx hb dX7_take_72 (by decide) ?_
            refine lv_aload_n hx hb dX7_take_59 rfl (lv_at hl 3 rfl) ?_
            refine va_get (D := D) (ci := 7) (v := .ref (q 55)) (C := RX7) (T := TX7) (N := 56) hx hb hts (fun _ h => List.mem_cons_of_mem _ (List.mem_append_right _ h)) hown hK hP 0 rfl rfl 55 (by decide) (hts (.fieldLink RX7 118 "CrownTableModel" "cloth" "[I") (mem_i 2 rfl)) (fun _ h9 => h9) rfl dX7_take_60 ?_
            refine lv_iload hx hb dX7_take_63 (lv_at hl 0 rfl) ?_
            refine va_iald hx hb hK hP 1 1 rfl rfl (vin (a := 5) (by decide) (by decide) (by decide)) dX7_take_65 ?_
            refine lv_topi (fun x_140 ex_140 => ?_)
            have lf_141 : (M_cloth 5).toInt = x_140.toInt := by rw [ex_140]; rfl
            refine iif_ne (a := x_140.toInt) (tgt := 75) hx hb rfl dX7_take_66 (by decide) (fun k_142 => ?_) (fun k_142 => ?_)
            · skip
              refine lv_iload hx hb dX7_take_75 (lv_at hl 0 rfl) ?_
              refine lv_iload_n hx hb dX7_take_77 rfl (lv_at hl 2 rfl) ?_
              refine iicmp_leF (a := 5) (b := 3) (tgt := 116) hx hb (by decide) (by decide) dX7_take_78 (by decide) (by decide) ?_
              refine lv_aload_n hx hb dX7_take_81 rfl (lv_at hl 3 rfl) ?_
              refine va_get (D := D) (ci := 7) (v := .ref (q 55)) (C := RX7) (T := TX7) (N := 56) hx hb hts (fun _ h => List.mem_cons_of_mem _ (List.mem_append_right _ h)) hown hK hP 0 rfl rfl 55 (by decide) (hts (.fieldLink RX7 118 "CrownTableModel" "cloth" "[I") (mem_i 2 rfl)) (fun _ h9 => h9) rfl dX7_take_82 ?_
              refine lv_iload hx hb dX7_take_85 (lv_at hl 0 rfl) ?_
              refine lv_dup2_11 hx hb dX7_take_87 rfl rfl ?_
              refine va_iald hx hb hK hP 1 1 rfl rfl (vin (a := 5) (by decide) (by decide) (by decide)) dX7_take_88 ?_
              refine lv_topi (fun x_143 ex_143 => ?_)
              have lf_144 : (M_cloth 5).toInt = x_143.toInt := by rw [ex_143]; rfl
              refine lv_iconst (v := 1) hx hb dX7_take_89 (by decide) ?_
              refine lv_isub hx hb dX7_take_90 ?_
              refine lv_topi (fun x_145 ex_145 => ?_)
              have tx_145 : x_145.toInt = (x_143.toInt - 1) := by rw [ex_145]; exact sub_ti (a := x_143.toInt) (b := 1) rfl (by decide) (by omega) (by omega)
              refine va_iast hx hb hK hP hD hS 1 1 rfl rfl (vin (a := 5) (by decide) (by decide) (by decide)) dX7_take_91 (fun H locs hP hD hS => ?_)
              obtain ⟨f_146, ef_146, hP, hD⟩ : ∃ f_146 : Nat → Int32, f_146 = upd M_cloth (5 : Int32).toNatClampNeg x_145 ∧ va_P D vwCl [(A_self, .inr (7, o7 q v w)), (q 55, .inl (c 1, 6, .inl f_146))] H ∧ va_D A [(A_self, .inr (7, o7 q v w)), (q 55, .inl (c 1, 6, .inl f_146))] := ⟨_, rfl, hP, hD⟩
              have cl_147 : (f_146 0).toInt = (M_cloth 0).toInt := by rw [ef_146]; rfl
              have cl_148 : (f_146 1).toInt = (M_cloth 1).toInt := by rw [ef_146]; rfl
              have cl_149 : (f_146 2).toInt = (M_cloth 2).toInt := by rw [ef_146]; rfl
              have cl_150 : (f_146 3).toInt = (M_cloth 3).toInt := by rw [ef_146]; rfl
              have cl_151 : (f_146 4).toInt = (M_cloth 4).toInt := by rw [ef_146]; rfl
              have cl_152 : (f_146 5).toInt = x_145.toInt := by rw [ef_146]; rfl
              refine lv_iinc (v := 4) (lv' := [(5, .int 4), (4, .int r_85), (3, .int 3), (0, .ref A_self), (1, .int a1), (2, .int L2)]) hx hb dX7_take_92 hl (k := 0) rfl (by decide) (by decide) rfl (fun ls hl => ?_)
              refine lv_aload_n hx hb dX7_take_95 rfl (lv_at hl 3 rfl) ?_
              refine va_get (D := D) (ci := 7) (v := .ref (q 55)) (C := RX7) (T := TX7) (N := 56) hx hb hts (fun _ h => List.mem_cons_of_mem _ (List.mem_append_right _ h)) hown hK hP 0 rfl rfl 55 (by decide) (hts (.fieldLink RX7 118 "CrownTableModel" "cloth" "[I") (mem_i 2 rfl)) (fun _ h9 => h9) rfl dX7_take_96 ?_
              refine lv_iload hx hb dX7_take_99 (lv_at hl 0 rfl) ?_
              refine lv_dup2_11 hx hb dX7_take_101 rfl rfl ?_
              refine va_iald hx hb hK hP 1 1 rfl rfl (vin (a := 4) (by decide) (by decide) (by decide)) dX7_take_102 ?_
              refine lv_topi (fun x_153 ex_153 => ?_)
              have lf_154 : (f_146 4).toInt = x_153.toInt := by rw [ex_153]; rfl
              refine lv_iload hx hb dX7_take_103 (lv_at hl 0 rfl) ?_
              have hPc := hP.sub (ws' := []) [] rfl
              have hDc := hD.sub (ws' := []) [] (by decide) rfl
              have hFc := va_free (wc := []) hD hS hA [] rfl
              have kzz_155 : (4 : Int32).toInt = 4 := by decide
              refine va_csi (va_runS (As := [.int 4]) (rest := [.int x_153, .int 4, .ref (q 55)]) ⟨hx, hb, hml, hown, hts⟩ (k_X7_next l D c ts H.size 4 4 (by decide) (by omega)) (cwS 1 hts gX7_take_X7_next rfl rfl rfl ⟨rfl, hdX7_next⟩ ⟨(show 1 + 1 ≤ 2 by decide), (show 8 + (1 + 11) + 20 ≤ 43 by decide)⟩) ⟨Pre0.blind, Pre0.at hPc hDc hAm hSt hS hFc⟩ rfl rfl hl.1 rfl (lv_room (Nat.le_of_ble_eq_true rfl)) dX7_take_105 ⟨(show 0 + 0 ≤ 0 by decide), (show 0 + 0 ≤ 0 by decide)⟩) (fun r_157 hw_156 => ?_)
              rcases hw_156 with ⟨hw_156, rfl⟩ | ⟨hw_156, rfl⟩ | ⟨hw_156, rfl⟩ | ⟨hw_156, rfl⟩
              · exfalso; omega
              · exfalso; omega
              · exfalso; omega
              · skip
                refine lv_iadd hx hb dX7_take_108 ?_
                refine lv_topi (fun x_158 ex_158 => ?_)
                have tx_158 : x_158.toInt = (x_153.toInt + 10) := by rw [ex_158]; exact add_ti (a := x_153.toInt) (b := 10) rfl (by decide) (by omega) (by omega)
                refine va_iast hx hb hK hP hD hS 1 1 rfl rfl (vin (a := 4) (by decide) (by decide) (by decide)) dX7_take_109 (fun H locs hP hD hS => ?_)
                obtain ⟨f_159, ef_159, hP, hD⟩ : ∃ f_159 : Nat → Int32, f_159 = upd f_146 (4 : Int32).toNatClampNeg x_158 ∧ va_P D vwCl [(A_self, .inr (7, o7 q v w)), (q 55, .inl (c 1, 6, .inl f_159))] H ∧ va_D A [(A_self, .inr (7, o7 q v w)), (q 55, .inl (c 1, 6, .inl f_159))] := ⟨_, rfl, hP, hD⟩
                have cl_160 : (f_159 0).toInt = (f_146 0).toInt := by rw [ef_159]; rfl
                have cl_161 : (f_159 1).toInt = (f_146 1).toInt := by rw [ef_159]; rfl
                have cl_162 : (f_159 2).toInt = (f_146 2).toInt := by rw [ef_159]; rfl
                have cl_163 : (f_159 3).toInt = (f_146 3).toInt := by rw [ef_159]; rfl
                have cl_164 : (f_159 4).toInt = x_158.toInt := by rw [ef_159]; rfl
                have cl_165 : (f_159 5).toInt = (f_146 5).toInt := by rw [ef_159]; rfl
                obtain ⟨x_166, ex_166⟩ : ∃ y : Int32, y = L2 + 1 := ⟨_, rfl⟩
                have tx_166 : x_166.toInt = L2.toInt + 1 := by rw [ex_166]; exact add_ti (a := L2.toInt) (b := 1) rfl (by decide) (by omega) (by omega)
                refine lv_iinc (v := x_166) (lv' := [(2, .int x_166), (5, .int 4), (4, .int r_85), (3, .int 3), (0, .ref A_self), (1, .int a1)]) hx hb dX7_take_110 hl (k := 5) rfl (by rw [ex_166]; rfl) (by decide) rfl (fun ls hl => ?_)
                refine lv_goto (tgt := 75) hx hb dX7_take_113 (by decide) ?_
                refine lv_iload hx hb dX7_take_75 (lv_at hl 1 rfl) ?_
                refine lv_iload_n hx hb dX7_take_77 rfl (lv_at hl 3 rfl) ?_
                refine iicmp_leF (a := 4) (b := 3) (tgt := 116) hx hb (by decide) (by decide) dX7_take_78 (by decide) (by decide) ?_
                refine lv_aload_n hx hb dX7_take_81 rfl (lv_at hl 4 rfl) ?_
                refine va_get (D := D) (ci := 7) (v := .ref (q 55)) (C := RX7) (T := TX7) (N := 56) hx hb hts (fun _ h => List.mem_cons_of_mem _ (List.mem_append_right _ h)) hown hK hP 0 rfl rfl 55 (by decide) (hts (.fieldLink RX7 118 "CrownTableModel" "cloth" "[I") (mem_i 2 rfl)) (fun _ h9 => h9) rfl dX7_take_82 ?_
                refine lv_iload hx hb dX7_take_85 (lv_at hl 1 rfl) ?_
                refine lv_dup2_11 hx hb dX7_take_87 rfl rfl ?_
                refine va_iald hx hb hK hP 1 1 rfl rfl (vin (a := 4) (by decide) (by decide) (by decide)) dX7_take_88 ?_
                refine lv_topi (fun x_167 ex_167 => ?_)
                have lf_168 : (f_159 4).toInt = x_167.toInt := by rw [ex_167]; rfl
                refine lv_iconst (v := 1) hx hb dX7_take_89 (by decide) ?_
                refine lv_isub hx hb dX7_take_90 ?_
                refine lv_topi (fun x_169 ex_169 => ?_)
                have tx_169 : x_169.toInt = (x_167.toInt - 1) := by rw [ex_169]; exact sub_ti (a := x_167.toInt) (b := 1) rfl (by decide) (by omega) (by omega)
                refine va_iast hx hb hK hP hD hS 1 1 rfl rfl (vin (a := 4) (by decide) (by decide) (by decide)) dX7_take_91 (fun H locs hP hD hS => ?_)
                obtain ⟨f_170, ef_170, hP, hD⟩ : ∃ f_170 : Nat → Int32, f_170 = upd f_159 (4 : Int32).toNatClampNeg x_169 ∧ va_P D vwCl [(A_self, .inr (7, o7 q v w)), (q 55, .inl (c 1, 6, .inl f_170))] H ∧ va_D A [(A_self, .inr (7, o7 q v w)), (q 55, .inl (c 1, 6, .inl f_170))] := ⟨_, rfl, hP, hD⟩
                have cl_171 : (f_170 0).toInt = (f_159 0).toInt := by rw [ef_170]; rfl
                have cl_172 : (f_170 1).toInt = (f_159 1).toInt := by rw [ef_170]; rfl
                have cl_173 : (f_170 2).toInt = (f_159 2).toInt := by rw [ef_170]; rfl
                have cl_174 : (f_170 3).toInt = (f_159 3).toInt := by rw [ef_170]; rfl
                have cl_175 : (f_170 4).toInt = x_169.toInt := by rw [ef_170]; rfl
                have cl_176 : (f_170 5).toInt = (f_159 5).toInt := by rw [ef_170]; rfl
                refine lv_iinc (v := 3) (lv' := [(5, .int 3), (2, .int x_166), (4, .int r_85), (3, .int 3), (0, .ref A_self), (1, .int a1)]) hx hb dX7_take_92 hl (k := 1) rfl (by decide) (by decide) rfl (fun ls hl => ?_)
                refine lv_aload_n hx hb dX7_take_95 rfl (lv_at hl 4 rfl) ?_
                refine va_get (D := D) (ci := 7) (v := .ref (q 55)) (C := RX7) (T := TX7) (N := 56) hx hb hts (fun _ h => List.mem_cons_of_mem _ (List.mem_append_right _ h)) hown hK hP 0 rfl rfl 55 (by decide) (hts (.fieldLink RX7 118 "CrownTableModel" "cloth" "[I") (mem_i 2 rfl)) (fun _ h9 => h9) rfl dX7_take_96 ?_
                refine lv_iload hx hb dX7_take_99 (lv_at hl 0 rfl) ?_
                refine lv_dup2_11 hx hb dX7_take_101 rfl rfl ?_
                refine va_iald hx hb hK hP 1 1 rfl rfl (vin (a := 3) (by decide) (by decide) (by decide)) dX7_take_102 ?_
                refine lv_topi (fun x_177 ex_177 => ?_)
                have lf_178 : (f_170 3).toInt = x_177.toInt := by rw [ex_177]; rfl
                refine lv_iload hx hb dX7_take_103 (lv_at hl 0 rfl) ?_
                have hPc := hP.sub (ws' := []) [] rfl
                have hDc := hD.sub (ws' := []) [] (by decide) rfl
                have hFc := va_free (wc := []) hD hS hA [] rfl
                have kzz_179 : (3 : Int32).toInt = 3 := by decide
                refine va_csi (va_runS (As := [.int 3]) (rest := [.int x_177, .int 3, .ref (q 55)]) ⟨hx, hb, hml, hown, hts⟩ (k_X7_next l D c ts H.size 3 3 (by decide) (by omega)) (cwS 1 hts gX7_take_X7_next rfl rfl rfl ⟨rfl, hdX7_next⟩ ⟨(show 1 + 1 ≤ 2 by decide), (show 8 + (1 + 11) + 20 ≤ 43 by decide)⟩) ⟨Pre0.blind, Pre0.at hPc hDc hAm hSt hS hFc⟩ rfl rfl hl.1 rfl (lv_room (Nat.le_of_ble_eq_true rfl)) dX7_take_105 ⟨(show 0 + 0 ≤ 0 by decide), (show 0 + 0 ≤ 0 by decide)⟩) (fun r_181 hw_180 => ?_)
                rcases hw_180 with ⟨hw_180, rfl⟩ | ⟨hw_180, rfl⟩ | ⟨hw_180, rfl⟩ | ⟨hw_180, rfl⟩
                · exfalso; omega
                · exfalso; omega
                · skip
                  refine lv_iadd hx hb dX7_take_108 ?_
                  refine lv_topi (fun x_182 ex_182 => ?_)
                  have tx_182 : x_182.toInt = (x_177.toInt + 5) := by rw [ex_182]; exact add_ti (a := x_177.toInt) (b := 5) rfl (by decide) (by omega) (by omega)
                  refine va_iast hx hb hK hP hD hS 1 1 rfl rfl (vin (a := 3) (by decide) (by decide) (by decide)) dX7_take_109 (fun H locs hP hD hS => ?_)
                  obtain ⟨f_183, ef_183, hP, hD⟩ : ∃ f_183 : Nat → Int32, f_183 = upd f_170 (3 : Int32).toNatClampNeg x_182 ∧ va_P D vwCl [(A_self, .inr (7, o7 q v w)), (q 55, .inl (c 1, 6, .inl f_183))] H ∧ va_D A [(A_self, .inr (7, o7 q v w)), (q 55, .inl (c 1, 6, .inl f_183))] := ⟨_, rfl, hP, hD⟩
                  have cl_184 : (f_183 0).toInt = (f_170 0).toInt := by rw [ef_183]; rfl
                  have cl_185 : (f_183 1).toInt = (f_170 1).toInt := by rw [ef_183]; rfl
                  have cl_186 : (f_183 2).toInt = (f_170 2).toInt := by rw [ef_183]; rfl
                  have cl_187 : (f_183 3).toInt = x_182.toInt := by rw [ef_183]; rfl
                  have cl_188 : (f_183 4).toInt = (f_170 4).toInt := by rw [ef_183]; rfl
                  have cl_189 : (f_183 5).toInt = (f_170 5).toInt := by rw [ef_183]; rfl
                  obtain ⟨x_190, ex_190⟩ : ∃ y : Int32, y = x_166 + 1 := ⟨_, rfl⟩
                  have tx_190 : x_190.toInt = x_166.toInt + 1 := by rw [ex_190]; exact add_ti (a := x_166.toInt) (b := 1) rfl (by decide) (by omega) (by omega)
                  refine lv_iinc (v := x_190) (lv' := [(2, .int x_190), (5, .int 3), (4, .int r_85), (3, .int 3), (0, .ref A_self), (1, .int a1)]) hx hb dX7_take_110 hl (k := 1) rfl (by rw [ex_190]; rfl) (by decide) rfl (fun ls hl => ?_)
                  refine lv_goto (tgt := 75) hx hb dX7_take_113 (by decide) ?_
                  refine lv_iload hx hb dX7_take_75 (lv_at hl 1 rfl) ?_
                  refine lv_iload_n hx hb dX7_take_77 rfl (lv_at hl 3 rfl) ?_
                  refine iicmp_leT (a := 3) (b := 3) (tgt := 116) hx hb (by decide) (by decide) dX7_take_78 (by decide) (by decide) ?_
                  refine lv_goto (tgt := 43) hx hb dX7_take_116 (by decide) ?_
                  refine lv_aload_n hx hb dX7_take_43 rfl (lv_at hl 4 rfl) ?_
                  refine va_get (D := D) (ci := 7) (v := .ref (q 55)) (C := RX7) (T := TX7) (N := 56) hx hb hts (fun _ h => List.mem_cons_of_mem _ (List.mem_append_right _ h)) hown hK hP 0 rfl rfl 55 (by decide) (hts (.fieldLink RX7 118 "CrownTableModel" "cloth" "[I") (mem_i 2 rfl)) (fun _ h9 => h9) rfl dX7_take_44 ?_
                  refine lv_iload_n hx hb dX7_take_47 rfl (lv_at hl 3 rfl) ?_
                  refine va_iald hx hb hK hP 1 1 rfl rfl (vin (a := 3) (by decide) (by decide) (by decide)) dX7_take_48 ?_
                  refine lv_topi (fun x_191 ex_191 => ?_)
                  have lf_192 : (f_183 3).toInt = x_191.toInt := by rw [ex_191]; rfl
                  refine lv_iload hx hb dX7_take_49 (lv_at hl 2 rfl) ?_
                  refine iicmp_ge (a := x_191.toInt) (b := r_85.toInt) (tgt := 119) hx hb rfl rfl dX7_take_51 (by decide) (fun k_193 => ?_) (fun k_193 => ?_)
                  · skip
                    refine lv_aload_n hx hb dX7_take_119 rfl (lv_at hl 4 rfl) ?_
                    refine va_get (D := D) (ci := 7) (v := .ref (q 55)) (C := RX7) (T := TX7) (N := 56) hx hb hts (fun _ h => List.mem_cons_of_mem _ (List.mem_append_right _ h)) hown hK hP 0 rfl rfl 55 (by decide) (hts (.fieldLink RX7 118 "CrownTableModel" "cloth" "[I") (mem_i 2 rfl)) (fun _ h9 => h9) rfl dX7_take_120 ?_
                    refine lv_iload_n hx hb dX7_take_123 rfl (lv_at hl 3 rfl) ?_
                    refine lv_dup2_11 hx hb dX7_take_124 rfl rfl ?_
                    refine va_iald hx hb hK hP 1 1 rfl rfl (vin (a := 3) (by decide) (by decide) (by decide)) dX7_take_125 ?_
                    refine lv_topi (fun x_194 ex_194 => ?_)
                    have lf_195 : (f_183 3).toInt = x_194.toInt := by rw [ex_194]; rfl
                    refine lv_iload hx hb dX7_take_126 (lv_at hl 2 rfl) ?_
                    refine lv_isub hx hb dX7_take_128 ?_
                    refine lv_topi (fun x_196 ex_196 => ?_)
                    have tx_196 : x_196.toInt = (x_194.toInt - r_85.toInt) := by rw [ex_196]; exact sub_ti (a := x_194.toInt) (b := r_85.toInt) rfl rfl (by omega) (by omega)
                    refine va_iast hx hb hK hP hD hS 1 1 rfl rfl (vin (a := 3) (by decide) (by decide) (by decide)) dX7_take_129 (fun H locs hP hD hS => ?_)
                    obtain ⟨f_197, ef_197, hP, hD⟩ : ∃ f_197 : Nat → Int32, f_197 = upd f_183 (3 : Int32).toNatClampNeg x_196 ∧ va_P D vwCl [(A_self, .inr (7, o7 q v w)), (q 55, .inl (c 1, 6, .inl f_197))] H ∧ va_D A [(A_self, .inr (7, o7 q v w)), (q 55, .inl (c 1, 6, .inl f_197))] := ⟨_, rfl, hP, hD⟩
                    have cl_198 : (f_197 0).toInt = (f_183 0).toInt := by rw [ef_197]; rfl
                    have cl_199 : (f_197 1).toInt = (f_183 1).toInt := by rw [ef_197]; rfl
                    have cl_200 : (f_197 2).toInt = (f_183 2).toInt := by rw [ef_197]; rfl
                    have cl_201 : (f_197 3).toInt = x_196.toInt := by rw [ef_197]; rfl
                    have cl_202 : (f_197 4).toInt = (f_183 4).toInt := by rw [ef_197]; rfl
                    have cl_203 : (f_197 5).toInt = (f_183 5).toInt := by rw [ef_197]; rfl
                    refine lv_iinc (v := 4) (lv' := [(3, .int 4), (2, .int x_190), (5, .int 3), (4, .int r_85), (0, .ref A_self), (1, .int a1)]) hx hb dX7_take_130 hl (k := 3) rfl (by decide) (by decide) rfl (fun ls hl => ?_)
                    refine lv_goto (tgt := 30) hx hb dX7_take_133 (by decide) ?_
                    obtain ⟨ts, td0, td1, td2, td3, td4, td5, tl⟩ := TkS.b3_5 (d0 := (f_197 0).toInt) (d1 := (f_197 1).toInt) (d2 := (f_197 2).toInt) (d3 := (f_197 3).toInt) (d4 := (f_197 4).toInt) (d5 := (f_197 5).toInt) (L1 := x_190.toInt) hf30_3_2 (by omega) (by omega) (by omega) (by omega) (by omega) (by omega) (by omega) (by omega) (by omega) (by omega)
                    have hl := lv_sub hl [0, 4, 5, 1] rfl
                    exact lp_30_4 x_190 f_197 (by omega) (by omega) ts td0 td1 td2 td3 td4 td5 _ _ _ hP hD hS hl
                  · skip
                    exfalso; omega
                · exfalso; omega
            · skip
              exact (TkS.n3 hf30_3_2 (by omega) (by omega) (by omega)).elim
      have lp_30_2 : ∀ (L2 : Int32) (M_cloth : Nat → Int32) (hf30_2_0 : 0 ≤ L2.toInt) (hf30_2_1 : L2.toInt ≤ 5) (hf30_2_2 : TkS2 (f_cloth 0).toInt (f_cloth 1).toInt (f_cloth 2).toInt (f_cloth 3).toInt (f_cloth 4).toInt (f_cloth 5).toInt (M_cloth 0).toInt (M_cloth 1).toInt (M_cloth 2).toInt (M_cloth 3).toInt (M_cloth 4).toInt (M_cloth 5).toInt n0 n1 n2 n3 n4 n5 L2.toInt) (hf30_2_3 : 0 ≤ (M_cloth 0).toInt ∧ (M_cloth 0).toInt ≤ 11) (hf30_2_4 : 0 ≤ (M_cloth 1).toInt ∧ (M_cloth 1).toInt ≤ 19) (hf30_2_5 : 0 ≤ (M_cloth 2).toInt ∧ (M_cloth 2).toInt ≤ 19) (hf30_2_6 : 0 ≤ (M_cloth 3).toInt ∧ (M_cloth 3).toInt ≤ 4) (hf30_2_7 : 0 ≤ (M_cloth 4).toInt ∧ (M_cloth 4).toInt ≤ 9) (hf30_2_8 : 0 ≤ (M_cloth 5).toInt ∧ (M_cloth 5).toInt ≤ 900000) (H : Heap) (locs : List Loc) (ls : Array Slot), va_P D vwCl [(A_self, .inr (7, o7 q v w)), (q 55, .inl (c 1, 6, .inl M_cloth))] H → va_D A [(A_self, .inr (7, o7 q v w)), (q 55, .inl (c 1, 6, .inl M_cloth))] → va_S A s.heap H locs → lv_has ls 6 [(3, .int 2), (0, .ref A_self), (1, .int a1), (2, .int L2)] → W p l e (headSpec wsX7_take ({ frames := 2, cells := 0, slots := 0, locals := 43 })).room s m (([.ref A_self, .int a1] : List Value).toArray) below meth cd H locs 0 0 (MQ below (va_Qi (fun (r : Int32) (u : (Nat → Int32) × Unit) => (0 ≤ (u.1 0).toInt ∧ (u.1 0).toInt ≤ 11) ∧ (0 ≤ (u.1 1).toInt ∧ (u.1 1).toInt ≤ 19) ∧ (0 ≤ (u.1 2).toInt ∧ (u.1 2).toInt ≤ 19) ∧ (0 ≤ (u.1 3).toInt ∧ (u.1 3).toInt ≤ 4) ∧ (0 ≤ (u.1 4).toInt ∧ (u.1 4).toInt ≤ 9) ∧ (0 ≤ (u.1 5).toInt ∧ (u.1 5).toInt ≤ cb) ∧ ((r.toInt = -1 ∧ ¬ (1 ≤ i_a1 ∧ i_a1 ≤ 1000000) ∧ (u.1 0).toInt = (f_cloth 0).toInt ∧ (u.1 1).toInt = (f_cloth 1).toInt ∧ (u.1 2).toInt = (f_cloth 2).toInt ∧ (u.1 3).toInt = (f_cloth 3).toInt ∧ (u.1 4).toInt = (f_cloth 4).toInt ∧ (u.1 5).toInt = (f_cloth 5).toInt) ∨ ((1 ≤ i_a1 ∧ i_a1 ≤ 1000000) ∧ r.toInt = -2 ∧ (f_cloth 0).toInt + 12 * (f_cloth 1).toInt + 240 * (f_cloth 2).toInt + 4800 * (f_cloth 3).toInt + 24000 * (f_cloth 4).toInt + 240000 * (f_cloth 5).toInt < i_a1 ∧ (u.1 0).toInt = (f_cloth 0).toInt ∧ (u.1 1).toInt = (f_cloth 1).toInt ∧ (u.1 2).toInt = (f_cloth 2).toInt ∧ (u.1 3).toInt = (f_cloth 3).toInt ∧ (u.1 4).toInt = (f_cloth 4).toInt ∧ (u.1 5).toInt = (f_cloth 5).toInt) ∨ ((1 ≤ i_a1 ∧ i_a1 ≤ 1000000) ∧ i_a1 ≤ (f_cloth 0).toInt + 12 * (f_cloth 1).toInt + 240 * (f_cloth 2).toInt + 4800 * (f_cloth 3).toInt + 24000 * (f_cloth 4).toInt + 240000 * (f_cloth 5).toInt ∧ TakI (f_cloth 0).toInt (f_cloth 1).toInt (f_cloth 2).toInt (f_cloth 3).toInt (f_cloth 4).toInt (f_cloth 5).toInt (u.1 0).toInt (u.1 1).toInt (u.1 2).toInt (u.1 3).toInt (u.1 4).toInt (u.1 5).toInt i_a1 r.toInt ∧ (0 ≤ (u.1 0).toInt ∧ (u.1 0).toInt ≤ 11) ∧ (0 ≤ (u.1 1).toInt ∧ (u.1 1).toInt ≤ 19) ∧ (0 ≤ (u.1 2).toInt ∧ (u.1 2).toInt ≤ 19) ∧ (0 ≤ (u.1 3).toInt ∧ (u.1 3).toInt ≤ 4) ∧ (0 ≤ (u.1 4).toInt ∧ (u.1 4).toInt ≤ 9)))) (fun u t => va_P D vwCl [(A_self, .inr (7, o7 q v w)), (q 55, .inl (c 1, 6, .inl u.1))] t.heap ∧ va_D A [(A_self, .inr (7, o7 q v w)), (q 55, .inl (c 1, 6, .inl u.1))]) A) ([.ref A_self, .int a1] : List Value).toArray s 0 0 A) (F0 m 30 ls []) := by
        intro L2 M_cloth hf30_2_0 hf30_2_1 hf30_2_2 hf30_2_3 hf30_2_4 hf30_2_5 hf30_2_6 hf30_2_7 hf30_2_8 H locs ls hP hD hS hl
        clear tv tw
        refine lv_iload_n hx hb dX7_take_30 rfl (lv_at hl 0 rfl) ?_
        refine lv_bipush (v := 6) hx hb dX7_take_31 (by decide) ?_
        refine iicmp_geF (a := 2) (b := 6) (tgt := 136) hx hb (by decide) (by decide) dX7_take_33 (by decide) (by decide) ?_
        refine lv_iload_n hx hb dX7_take_36 rfl (lv_at hl 2 rfl) ?_
        refine lv_iload_n hx hb dX7_take_37 rfl (lv_at hl 0 rfl) ?_
        have hPc := hP.sub (ws' := []) [] rfl
        have hDc := hD.sub (ws' := []) [] (by decide) rfl
        have hFc := va_free (wc := []) hD hS hA [] rfl
        have kzz_204 : (2 : Int32).toInt = 2 := by decide
        refine va_csi (va_runS (As := [.int a1, .int 2]) (rest := []) ⟨hx, hb, hml, hown, hts⟩ (k_X7_notch_P l D c ts H.size a1 i_a1 hi_a1 2 2 (by decide) (by omega) (by omega)) (cwS 2 hts gX7_take_X7_notch rfl rfl rfl ⟨rfl, hdX7_notch⟩ ⟨(show 1 + 1 ≤ 2 by decide), (show 8 + (2 + 11) + 20 ≤ 43 by decide)⟩) ⟨Pre0.blind, Pre0.at hPc hDc hAm hSt hS hFc⟩ rfl rfl hl.1 rfl (lv_room (Nat.le_of_ble_eq_true rfl)) dX7_take_38 ⟨(show 0 + 0 ≤ 0 by decide), (show 0 + 0 ≤ 0 by decide)⟩) (fun r_206 hw_205 => ?_)
        have nf_207 : r_206.toInt = n2 := (hw_205.2.2.2.1 rfl).trans hDg.2.2.1
        clear hw_205
        have rg_r_206 := i32r r_206
        refine lv_istore (lv' := [(4, .int r_206), (3, .int 2), (0, .ref A_self), (1, .int a1), (2, .int L2)]) hx hb dX7_take_41 hl (by decide) rfl (fun ls hl => ?_)
        refine lv_aload_n hx hb dX7_take_43 rfl (lv_at hl 2 rfl) ?_
        refine va_get (D := D) (ci := 7) (v := .ref (q 55)) (C := RX7) (T := TX7) (N := 56) hx hb hts (fun _ h => List.mem_cons_of_mem _ (List.mem_append_right _ h)) hown hK hP 0 rfl rfl 55 (by decide) (hts (.fieldLink RX7 118 "CrownTableModel" "cloth" "[I") (mem_i 2 rfl)) (fun _ h9 => h9) rfl dX7_take_44 ?_
        refine lv_iload_n hx hb dX7_take_47 rfl (lv_at hl 1 rfl) ?_
        refine va_iald hx hb hK hP 1 1 rfl rfl (vin (a := 2) (by decide) (by decide) (by decide)) dX7_take_48 ?_
        refine lv_topi (fun x_208 ex_208 => ?_)
        have lf_209 : (M_cloth 2).toInt = x_208.toInt := by rw [ex_208]; rfl
        refine lv_iload hx hb dX7_take_49 (lv_at hl 0 rfl) ?_
        refine iicmp_ge (a := x_208.toInt) (b := r_206.toInt) (tgt := 119) hx hb rfl rfl dX7_take_51 (by decide) (fun k_210 => ?_) (fun k_210 => ?_)
        · skip
          refine lv_aload_n hx hb dX7_take_119 rfl (lv_at hl 2 rfl) ?_
          refine va_get (D := D) (ci := 7) (v := .ref (q 55)) (C := RX7) (T := TX7) (N := 56) hx hb hts (fun _ h => List.mem_cons_of_mem _ (List.mem_append_right _ h)) hown hK hP 0 rfl rfl 55 (by decide) (hts (.fieldLink RX7 118 "CrownTableModel" "cloth" "[I") (mem_i 2 rfl)) (fun _ h9 => h9) rfl dX7_take_120 ?_
          refine lv_iload_n hx hb dX7_take_123 rfl (lv_at hl 1 rfl) ?_
          refine lv_dup2_11 hx hb dX7_take_124 rfl rfl ?_
          refine va_iald hx hb hK hP 1 1 rfl rfl (vin (a := 2) (by decide) (by decide) (by decide)) dX7_take_125 ?_
          refine lv_topi (fun x_211 ex_211 => ?_)
          have lf_212 : (M_cloth 2).toInt = x_211.toInt := by rw [ex_211]; rfl
          refine lv_iload hx hb dX7_take_126 (lv_at hl 0 rfl) ?_
          refine lv_isub hx hb dX7_take_128 ?_
          refine lv_topi (fun x_213 ex_213 => ?_)
          have tx_213 : x_213.toInt = (x_211.toInt - r_206.toInt) := by rw [ex_213]; exact sub_ti (a := x_211.toInt) (b := r_206.toInt) rfl rfl (by omega) (by omega)
          refine va_iast hx hb hK hP hD hS 1 1 rfl rfl (vin (a := 2) (by decide) (by decide) (by decide)) dX7_take_129 (fun H locs hP hD hS => ?_)
          obtain ⟨f_214, ef_214, hP, hD⟩ : ∃ f_214 : Nat → Int32, f_214 = upd M_cloth (2 : Int32).toNatClampNeg x_213 ∧ va_P D vwCl [(A_self, .inr (7, o7 q v w)), (q 55, .inl (c 1, 6, .inl f_214))] H ∧ va_D A [(A_self, .inr (7, o7 q v w)), (q 55, .inl (c 1, 6, .inl f_214))] := ⟨_, rfl, hP, hD⟩
          have cl_215 : (f_214 0).toInt = (M_cloth 0).toInt := by rw [ef_214]; rfl
          have cl_216 : (f_214 1).toInt = (M_cloth 1).toInt := by rw [ef_214]; rfl
          have cl_217 : (f_214 2).toInt = x_213.toInt := by rw [ef_214]; rfl
          have cl_218 : (f_214 3).toInt = (M_cloth 3).toInt := by rw [ef_214]; rfl
          have cl_219 : (f_214 4).toInt = (M_cloth 4).toInt := by rw [ef_214]; rfl
          have cl_220 : (f_214 5).toInt = (M_cloth 5).toInt := by rw [ef_214]; rfl
          refine lv_iinc (v := 3) (lv' := [(3, .int 3), (4, .int r_206), (0, .ref A_self), (1, .int a1), (2, .int L2)]) hx hb dX7_take_130 hl (k := 1) rfl (by decide) (by decide) rfl (fun ls hl => ?_)
          refine lv_goto (tgt := 30) hx hb dX7_take_133 (by decide) ?_
          obtain ⟨ts, td0, td1, td2, td3, td4, td5, tl⟩ := TkS.s2 (d0 := (f_214 0).toInt) (d1 := (f_214 1).toInt) (d2 := (f_214 2).toInt) (d3 := (f_214 3).toInt) (d4 := (f_214 4).toInt) (d5 := (f_214 5).toInt) hf30_2_2 (by omega) (by omega) (by omega) (by omega) (by omega) (by omega) (by omega)
          have hl := lv_sub hl [0, 2, 3, 4] rfl
          exact lp_30_3 L2 f_214 (by omega) (by omega) ts td0 td1 td2 td3 td4 td5 _ _ _ hP hD hS hl
        · skip
          refine lv_iload_n hx hb dX7_take_54 rfl (lv_at hl 1 rfl) ?_
          refine lv_iconst (v := 1) hx hb dX7_take_55 (by decide) ?_
          refine lv_iadd hx hb dX7_take_56 ?_
          refine lk_i (y := 3) (by decide) ?_
          refine lv_istore (lv' := [(5, .int 3), (4, .int r_206), (3, .int 2), (0, .ref A_self), (1, .int a1), (2, .int L2)]) hx hb dX7_take_57 hl (by decide) rfl (fun ls hl => ?_)
          refine lv_aload_n hx hb dX7_take_59 rfl (lv_at hl 3 rfl) ?_
          refine va_get (D := D) (ci := 7) (v := .ref (q 55)) (C := RX7) (T := TX7) (N := 56) hx hb hts (fun _ h => List.mem_cons_of_mem _ (List.mem_append_right _ h)) hown hK hP 0 rfl rfl 55 (by decide) (hts (.fieldLink RX7 118 "CrownTableModel" "cloth" "[I") (mem_i 2 rfl)) (fun _ h9 => h9) rfl dX7_take_60 ?_
          refine lv_iload hx hb dX7_take_63 (lv_at hl 0 rfl) ?_
          refine va_iald hx hb hK hP 1 1 rfl rfl (vin (a := 3) (by decide) (by decide) (by decide)) dX7_take_65 ?_
          refine lv_topi (fun x_221 ex_221 => ?_)
          have lf_222 : (M_cloth 3).toInt = x_221.toInt := by rw [ex_221]; rfl
          refine iif_ne (a := x_221.toInt) (tgt := 75) hx hb rfl dX7_take_66 (by decide) (fun k_223 => ?_) (fun k_223 => ?_)
          · skip
            refine lv_iload hx hb dX7_take_75 (lv_at hl 0 rfl) ?_
            refine lv_iload_n hx hb dX7_take_77 rfl (lv_at hl 2 rfl) ?_
            refine iicmp_leF (a := 3) (b := 2) (tgt := 116) hx hb (by decide) (by decide) dX7_take_78 (by decide) (by decide) ?_
            refine lv_aload_n hx hb dX7_take_81 rfl (lv_at hl 3 rfl) ?_
            refine va_get (D := D) (ci := 7) (v := .ref (q 55)) (C := RX7) (T := TX7) (N := 56) hx hb hts (fun _ h => List.mem_cons_of_mem _ (List.mem_append_right _ h)) hown hK hP 0 rfl rfl 55 (by decide) (hts (.fieldLink RX7 118 "CrownTableModel" "cloth" "[I") (mem_i 2 rfl)) (fun _ h9 => h9) rfl dX7_take_82 ?_
            refine lv_iload hx hb dX7_take_85 (lv_at hl 0 rfl) ?_
            refine lv_dup2_11 hx hb dX7_take_87 rfl rfl ?_
            refine va_iald hx hb hK hP 1 1 rfl rfl (vin (a := 3) (by decide) (by decide) (by decide)) dX7_take_88 ?_
            refine lv_topi (fun x_224 ex_224 => ?_)
            have lf_225 : (M_cloth 3).toInt = x_224.toInt := by rw [ex_224]; rfl
            refine lv_iconst (v := 1) hx hb dX7_take_89 (by decide) ?_
            refine lv_isub hx hb dX7_take_90 ?_
            refine lv_topi (fun x_226 ex_226 => ?_)
            have tx_226 : x_226.toInt = (x_224.toInt - 1) := by rw [ex_226]; exact sub_ti (a := x_224.toInt) (b := 1) rfl (by decide) (by omega) (by omega)
            refine va_iast hx hb hK hP hD hS 1 1 rfl rfl (vin (a := 3) (by decide) (by decide) (by decide)) dX7_take_91 (fun H locs hP hD hS => ?_)
            obtain ⟨f_227, ef_227, hP, hD⟩ : ∃ f_227 : Nat → Int32, f_227 = upd M_cloth (3 : Int32).toNatClampNeg x_226 ∧ va_P D vwCl [(A_self, .inr (7, o7 q v w)), (q 55, .inl (c 1, 6, .inl f_227))] H ∧ va_D A [(A_self, .inr (7, o7 q v w)), (q 55, .inl (c 1, 6, .inl f_227))] := ⟨_, rfl, hP, hD⟩
            have cl_228 : (f_227 0).toInt = (M_cloth 0).toInt := by rw [ef_227]; rfl
            have cl_229 : (f_227 1).toInt = (M_cloth 1).toInt := by rw [ef_227]; rfl
            have cl_230 : (f_227 2).toInt = (M_cloth 2).toInt := by rw [ef_227]; rfl
            have cl_231 : (f_227 3).toInt = x_226.toInt := by rw [ef_227]; rfl
            have cl_232 : (f_227 4).toInt = (M_cloth 4).toInt := by rw [ef_227]; rfl
            have cl_233 : (f_227 5).toInt = (M_cloth 5).toInt := by rw [ef_227]; rfl
            refine lv_iinc (v := 2) (lv' := [(5, .int 2), (4, .int r_206), (3, .int 2), (0, .ref A_self), (1, .int a1), (2, .int L2)]) hx hb dX7_take_92 hl (k := 0) rfl (by decide) (by decide) rfl (fun ls hl => ?_)
            refine lv_aload_n hx hb dX7_take_95 rfl (lv_at hl 3 rfl) ?_
            refine va_get (D := D) (ci := 7) (v := .ref (q 55)) (C := RX7) (T := TX7) (N := 56) hx hb hts (fun _ h => List.mem_cons_of_mem _ (List.mem_append_right _ h)) hown hK hP 0 rfl rfl 55 (by decide) (hts (.fieldLink RX7 118 "CrownTableModel" "cloth" "[I") (mem_i 2 rfl)) (fun _ h9 => h9) rfl dX7_take_96 ?_
            refine lv_iload hx hb dX7_take_99 (lv_at hl 0 rfl) ?_
            refine lv_dup2_11 hx hb dX7_take_101 rfl rfl ?_
            refine va_iald hx hb hK hP 1 1 rfl rfl (vin (a := 2) (by decide) (by decide) (by decide)) dX7_take_102 ?_
            refine lv_topi (fun x_234 ex_234 => ?_)
            have lf_235 : (f_227 2).toInt = x_234.toInt := by rw [ex_234]; rfl
            refine lv_iload hx hb dX7_take_103 (lv_at hl 0 rfl) ?_
            have hPc := hP.sub (ws' := []) [] rfl
            have hDc := hD.sub (ws' := []) [] (by decide) rfl
            have hFc := va_free (wc := []) hD hS hA [] rfl
            have kzz_236 : (2 : Int32).toInt = 2 := by decide
            refine va_csi (va_runS (As := [.int 2]) (rest := [.int x_234, .int 2, .ref (q 55)]) ⟨hx, hb, hml, hown, hts⟩ (k_X7_next l D c ts H.size 2 2 (by decide) (by omega)) (cwS 1 hts gX7_take_X7_next rfl rfl rfl ⟨rfl, hdX7_next⟩ ⟨(show 1 + 1 ≤ 2 by decide), (show 8 + (1 + 11) + 20 ≤ 43 by decide)⟩) ⟨Pre0.blind, Pre0.at hPc hDc hAm hSt hS hFc⟩ rfl rfl hl.1 rfl (lv_room (Nat.le_of_ble_eq_true rfl)) dX7_take_105 ⟨(show 0 + 0 ≤ 0 by decide), (show 0 + 0 ≤ 0 by decide)⟩) (fun r_238 hw_237 => ?_)
            rcases hw_237 with ⟨hw_237, rfl⟩ | ⟨hw_237, rfl⟩ | ⟨hw_237, rfl⟩ | ⟨hw_237, rfl⟩
            · exfalso; omega
            · skip
              refine lv_iadd hx hb dX7_take_108 ?_
              refine lv_topi (fun x_239 ex_239 => ?_)
              have tx_239 : x_239.toInt = (x_234.toInt + 20) := by rw [ex_239]; exact add_ti (a := x_234.toInt) (b := 20) rfl (by decide) (by omega) (by omega)
              refine va_iast hx hb hK hP hD hS 1 1 rfl rfl (vin (a := 2) (by decide) (by decide) (by decide)) dX7_take_109 (fun H locs hP hD hS => ?_)
              obtain ⟨f_240, ef_240, hP, hD⟩ : ∃ f_240 : Nat → Int32, f_240 = upd f_227 (2 : Int32).toNatClampNeg x_239 ∧ va_P D vwCl [(A_self, .inr (7, o7 q v w)), (q 55, .inl (c 1, 6, .inl f_240))] H ∧ va_D A [(A_self, .inr (7, o7 q v w)), (q 55, .inl (c 1, 6, .inl f_240))] := ⟨_, rfl, hP, hD⟩
              have cl_241 : (f_240 0).toInt = (f_227 0).toInt := by rw [ef_240]; rfl
              have cl_242 : (f_240 1).toInt = (f_227 1).toInt := by rw [ef_240]; rfl
              have cl_243 : (f_240 2).toInt = x_239.toInt := by rw [ef_240]; rfl
              have cl_244 : (f_240 3).toInt = (f_227 3).toInt := by rw [ef_240]; rfl
              have cl_245 : (f_240 4).toInt = (f_227 4).toInt := by rw [ef_240]; rfl
              have cl_246 : (f_240 5).toInt = (f_227 5).toInt := by rw [ef_240]; rfl
              obtain ⟨x_247, ex_247⟩ : ∃ y : Int32, y = L2 + 1 := ⟨_, rfl⟩
              have tx_247 : x_247.toInt = L2.toInt + 1 := by rw [ex_247]; exact add_ti (a := L2.toInt) (b := 1) rfl (by decide) (by omega) (by omega)
              refine lv_iinc (v := x_247) (lv' := [(2, .int x_247), (5, .int 2), (4, .int r_206), (3, .int 2), (0, .ref A_self), (1, .int a1)]) hx hb dX7_take_110 hl (k := 5) rfl (by rw [ex_247]; rfl) (by decide) rfl (fun ls hl => ?_)
              refine lv_goto (tgt := 75) hx hb dX7_take_113 (by decide) ?_
              refine lv_iload hx hb dX7_take_75 (lv_at hl 1 rfl) ?_
              refine lv_iload_n hx hb dX7_take_77 rfl (lv_at hl 3 rfl) ?_
              refine iicmp_leT (a := 2) (b := 2) (tgt := 116) hx hb (by decide) (by decide) dX7_take_78 (by decide) (by decide) ?_
              refine lv_goto (tgt := 43) hx hb dX7_take_116 (by decide) ?_
              refine lv_aload_n hx hb dX7_take_43 rfl (lv_at hl 4 rfl) ?_
              refine va_get (D := D) (ci := 7) (v := .ref (q 55)) (C := RX7) (T := TX7) (N := 56) hx hb hts (fun _ h => List.mem_cons_of_mem _ (List.mem_append_right _ h)) hown hK hP 0 rfl rfl 55 (by decide) (hts (.fieldLink RX7 118 "CrownTableModel" "cloth" "[I") (mem_i 2 rfl)) (fun _ h9 => h9) rfl dX7_take_44 ?_
              refine lv_iload_n hx hb dX7_take_47 rfl (lv_at hl 3 rfl) ?_
              refine va_iald hx hb hK hP 1 1 rfl rfl (vin (a := 2) (by decide) (by decide) (by decide)) dX7_take_48 ?_
              refine lv_topi (fun x_248 ex_248 => ?_)
              have lf_249 : (f_240 2).toInt = x_248.toInt := by rw [ex_248]; rfl
              refine lv_iload hx hb dX7_take_49 (lv_at hl 2 rfl) ?_
              refine iicmp_ge (a := x_248.toInt) (b := r_206.toInt) (tgt := 119) hx hb rfl rfl dX7_take_51 (by decide) (fun k_250 => ?_) (fun k_250 => ?_)
              · skip
                refine lv_aload_n hx hb dX7_take_119 rfl (lv_at hl 4 rfl) ?_
                refine va_get (D := D) (ci := 7) (v := .ref (q 55)) (C := RX7) (T := TX7) (N := 56) hx hb hts (fun _ h => List.mem_cons_of_mem _ (List.mem_append_right _ h)) hown hK hP 0 rfl rfl 55 (by decide) (hts (.fieldLink RX7 118 "CrownTableModel" "cloth" "[I") (mem_i 2 rfl)) (fun _ h9 => h9) rfl dX7_take_120 ?_
                refine lv_iload_n hx hb dX7_take_123 rfl (lv_at hl 3 rfl) ?_
                refine lv_dup2_11 hx hb dX7_take_124 rfl rfl ?_
                refine va_iald hx hb hK hP 1 1 rfl rfl (vin (a := 2) (by decide) (by decide) (by decide)) dX7_take_125 ?_
                refine lv_topi (fun x_251 ex_251 => ?_)
                have lf_252 : (f_240 2).toInt = x_251.toInt := by rw [ex_251]; rfl
                refine lv_iload hx hb dX7_take_126 (lv_at hl 2 rfl) ?_
                refine lv_isub hx hb dX7_take_128 ?_
                refine lv_topi (fun x_253 ex_253 => ?_)
                have tx_253 : x_253.toInt = (x_251.toInt - r_206.toInt) := by rw [ex_253]; exact sub_ti (a := x_251.toInt) (b := r_206.toInt) rfl rfl (by omega) (by omega)
                refine va_iast hx hb hK hP hD hS 1 1 rfl rfl (vin (a := 2) (by decide) (by decide) (by decide)) dX7_take_129 (fun H locs hP hD hS => ?_)
                obtain ⟨f_254, ef_254, hP, hD⟩ : ∃ f_254 : Nat → Int32, f_254 = upd f_240 (2 : Int32).toNatClampNeg x_253 ∧ va_P D vwCl [(A_self, .inr (7, o7 q v w)), (q 55, .inl (c 1, 6, .inl f_254))] H ∧ va_D A [(A_self, .inr (7, o7 q v w)), (q 55, .inl (c 1, 6, .inl f_254))] := ⟨_, rfl, hP, hD⟩
                have cl_255 : (f_254 0).toInt = (f_240 0).toInt := by rw [ef_254]; rfl
                have cl_256 : (f_254 1).toInt = (f_240 1).toInt := by rw [ef_254]; rfl
                have cl_257 : (f_254 2).toInt = x_253.toInt := by rw [ef_254]; rfl
                have cl_258 : (f_254 3).toInt = (f_240 3).toInt := by rw [ef_254]; rfl
                have cl_259 : (f_254 4).toInt = (f_240 4).toInt := by rw [ef_254]; rfl
                have cl_260 : (f_254 5).toInt = (f_240 5).toInt := by rw [ef_254]; rfl
                refine lv_iinc (v := 3) (lv' := [(3, .int 3), (2, .int x_247), (5, .int 2), (4, .int r_206), (0, .ref A_self), (1, .int a1)]) hx hb dX7_take_130 hl (k := 3) rfl (by decide) (by decide) rfl (fun ls hl => ?_)
                refine lv_goto (tgt := 30) hx hb dX7_take_133 (by decide) ?_
                obtain ⟨ts, td0, td1, td2, td3, td4, td5, tl⟩ := TkS.b2_3 (d0 := (f_254 0).toInt) (d1 := (f_254 1).toInt) (d2 := (f_254 2).toInt) (d3 := (f_254 3).toInt) (d4 := (f_254 4).toInt) (d5 := (f_254 5).toInt) (L1 := x_247.toInt) hf30_2_2 (by omega) (by omega) (by omega) (by omega) (by omega) (by omega) (by omega) (by omega) (by omega)
                have hl := lv_sub hl [0, 4, 5, 1] rfl
                exact lp_30_3 x_247 f_254 (by omega) (by omega) ts td0 td1 td2 td3 td4 td5 _ _ _ hP hD hS hl
              · skip
                exfalso; omega
            · exfalso; omega
            · exfalso; omega
          · skip
            refine lv_iinc (v := 4) (lv' := [(5, .int 4), (4, .int r_206), (3, .int 2), (0, .ref A_self), (1, .int a1), (2, .int L2)]) hx hb dX7_take_69 hl (k := 0) rfl (by decide) (by decide) rfl (fun ls hl => ?_)
            refine lv_goto (tgt := 59) hx hb dX7_take_72 (by decide) ?_
            refine lv_aload_n hx hb dX7_take_59 rfl (lv_at hl 3 rfl) ?_
            refine va_get (D := D) (ci := 7) (v := .ref (q 55)) (C := RX7) (T := TX7) (N := 56) hx hb hts (fun _ h => List.mem_cons_of_mem _ (List.mem_append_right _ h)) hown hK hP 0 rfl rfl 55 (by decide) (hts (.fieldLink RX7 118 "CrownTableModel" "cloth" "[I") (mem_i 2 rfl)) (fun _ h9 => h9) rfl dX7_take_60 ?_
            refine lv_iload hx hb dX7_take_63 (lv_at hl 0 rfl) ?_
            refine va_iald hx hb hK hP 1 1 rfl rfl (vin (a := 4) (by decide) (by decide) (by decide)) dX7_take_65 ?_
            refine lv_topi (fun x_261 ex_261 => ?_)
            have lf_262 : (M_cloth 4).toInt = x_261.toInt := by rw [ex_261]; rfl
            refine iif_ne (a := x_261.toInt) (tgt := 75) hx hb rfl dX7_take_66 (by decide) (fun k_263 => ?_) (fun k_263 => ?_)
            · skip
              refine lv_iload hx hb dX7_take_75 (lv_at hl 0 rfl) ?_
              refine lv_iload_n hx hb dX7_take_77 rfl (lv_at hl 2 rfl) ?_
              refine iicmp_leF (a := 4) (b := 2) (tgt := 116) hx hb (by decide) (by decide) dX7_take_78 (by decide) (by decide) ?_
              refine lv_aload_n hx hb dX7_take_81 rfl (lv_at hl 3 rfl) ?_
              refine va_get (D := D) (ci := 7) (v := .ref (q 55)) (C := RX7) (T := TX7) (N := 56) hx hb hts (fun _ h => List.mem_cons_of_mem _ (List.mem_append_right _ h)) hown hK hP 0 rfl rfl 55 (by decide) (hts (.fieldLink RX7 118 "CrownTableModel" "cloth" "[I") (mem_i 2 rfl)) (fun _ h9 => h9) rfl dX7_take_82 ?_
              refine lv_iload hx hb dX7_take_85 (lv_at hl 0 rfl) ?_
              refine lv_dup2_11 hx hb dX7_take_87 rfl rfl ?_
              refine va_iald hx hb hK hP 1 1 rfl rfl (vin (a := 4) (by decide) (by decide) (by decide)) dX7_take_88 ?_
              refine lv_topi (fun x_264 ex_264 => ?_)
              have lf_265 : (M_cloth 4).toInt = x_264.toInt := by rw [ex_264]; rfl
              refine lv_iconst (v := 1) hx hb dX7_take_89 (by decide) ?_
              refine lv_isub hx hb dX7_take_90 ?_
              refine lv_topi (fun x_266 ex_266 => ?_)
              have tx_266 : x_266.toInt = (x_264.toInt - 1) := by rw [ex_266]; exact sub_ti (a := x_264.toInt) (b := 1) rfl (by decide) (by omega) (by omega)
              refine va_iast hx hb hK hP hD hS 1 1 rfl rfl (vin (a := 4) (by decide) (by decide) (by decide)) dX7_take_91 (fun H locs hP hD hS => ?_)
              obtain ⟨f_267, ef_267, hP, hD⟩ : ∃ f_267 : Nat → Int32, f_267 = upd M_cloth (4 : Int32).toNatClampNeg x_266 ∧ va_P D vwCl [(A_self, .inr (7, o7 q v w)), (q 55, .inl (c 1, 6, .inl f_267))] H ∧ va_D A [(A_self, .inr (7, o7 q v w)), (q 55, .inl (c 1, 6, .inl f_267))] := ⟨_, rfl, hP, hD⟩
              have cl_268 : (f_267 0).toInt = (M_cloth 0).toInt := by rw [ef_267]; rfl
              have cl_269 : (f_267 1).toInt = (M_cloth 1).toInt := by rw [ef_267]; rfl
              have cl_270 : (f_267 2).toInt = (M_cloth 2).toInt := by rw [ef_267]; rfl
              have cl_271 : (f_267 3).toInt = (M_cloth 3).toInt := by rw [ef_267]; rfl
              have cl_272 : (f_267 4).toInt = x_266.toInt := by rw [ef_267]; rfl
              have cl_273 : (f_267 5).toInt = (M_cloth 5).toInt := by rw [ef_267]; rfl
              refine lv_iinc (v := 3) (lv' := [(5, .int 3), (4, .int r_206), (3, .int 2), (0, .ref A_self), (1, .int a1), (2, .int L2)]) hx hb dX7_take_92 hl (k := 0) rfl (by decide) (by decide) rfl (fun ls hl => ?_)
              refine lv_aload_n hx hb dX7_take_95 rfl (lv_at hl 3 rfl) ?_
              refine va_get (D := D) (ci := 7) (v := .ref (q 55)) (C := RX7) (T := TX7) (N := 56) hx hb hts (fun _ h => List.mem_cons_of_mem _ (List.mem_append_right _ h)) hown hK hP 0 rfl rfl 55 (by decide) (hts (.fieldLink RX7 118 "CrownTableModel" "cloth" "[I") (mem_i 2 rfl)) (fun _ h9 => h9) rfl dX7_take_96 ?_
              refine lv_iload hx hb dX7_take_99 (lv_at hl 0 rfl) ?_
              refine lv_dup2_11 hx hb dX7_take_101 rfl rfl ?_
              refine va_iald hx hb hK hP 1 1 rfl rfl (vin (a := 3) (by decide) (by decide) (by decide)) dX7_take_102 ?_
              refine lv_topi (fun x_274 ex_274 => ?_)
              have lf_275 : (f_267 3).toInt = x_274.toInt := by rw [ex_274]; rfl
              refine lv_iload hx hb dX7_take_103 (lv_at hl 0 rfl) ?_
              have hPc := hP.sub (ws' := []) [] rfl
              have hDc := hD.sub (ws' := []) [] (by decide) rfl
              have hFc := va_free (wc := []) hD hS hA [] rfl
              have kzz_276 : (3 : Int32).toInt = 3 := by decide
              refine va_csi (va_runS (As := [.int 3]) (rest := [.int x_274, .int 3, .ref (q 55)]) ⟨hx, hb, hml, hown, hts⟩ (k_X7_next l D c ts H.size 3 3 (by decide) (by omega)) (cwS 1 hts gX7_take_X7_next rfl rfl rfl ⟨rfl, hdX7_next⟩ ⟨(show 1 + 1 ≤ 2 by decide), (show 8 + (1 + 11) + 20 ≤ 43 by decide)⟩) ⟨Pre0.blind, Pre0.at hPc hDc hAm hSt hS hFc⟩ rfl rfl hl.1 rfl (lv_room (Nat.le_of_ble_eq_true rfl)) dX7_take_105 ⟨(show 0 + 0 ≤ 0 by decide), (show 0 + 0 ≤ 0 by decide)⟩) (fun r_278 hw_277 => ?_)
              rcases hw_277 with ⟨hw_277, rfl⟩ | ⟨hw_277, rfl⟩ | ⟨hw_277, rfl⟩ | ⟨hw_277, rfl⟩
              · exfalso; omega
              · exfalso; omega
              · skip
                refine lv_iadd hx hb dX7_take_108 ?_
                refine lv_topi (fun x_279 ex_279 => ?_)
                have tx_279 : x_279.toInt = (x_274.toInt + 5) := by rw [ex_279]; exact add_ti (a := x_274.toInt) (b := 5) rfl (by decide) (by omega) (by omega)
                refine va_iast hx hb hK hP hD hS 1 1 rfl rfl (vin (a := 3) (by decide) (by decide) (by decide)) dX7_take_109 (fun H locs hP hD hS => ?_)
                obtain ⟨f_280, ef_280, hP, hD⟩ : ∃ f_280 : Nat → Int32, f_280 = upd f_267 (3 : Int32).toNatClampNeg x_279 ∧ va_P D vwCl [(A_self, .inr (7, o7 q v w)), (q 55, .inl (c 1, 6, .inl f_280))] H ∧ va_D A [(A_self, .inr (7, o7 q v w)), (q 55, .inl (c 1, 6, .inl f_280))] := ⟨_, rfl, hP, hD⟩
                have cl_281 : (f_280 0).toInt = (f_267 0).toInt := by rw [ef_280]; rfl
                have cl_282 : (f_280 1).toInt = (f_267 1).toInt := by rw [ef_280]; rfl
                have cl_283 : (f_280 2).toInt = (f_267 2).toInt := by rw [ef_280]; rfl
                have cl_284 : (f_280 3).toInt = x_279.toInt := by rw [ef_280]; rfl
                have cl_285 : (f_280 4).toInt = (f_267 4).toInt := by rw [ef_280]; rfl
                have cl_286 : (f_280 5).toInt = (f_267 5).toInt := by rw [ef_280]; rfl
                obtain ⟨x_287, ex_287⟩ : ∃ y : Int32, y = L2 + 1 := ⟨_, rfl⟩
                have tx_287 : x_287.toInt = L2.toInt + 1 := by rw [ex_287]; exact add_ti (a := L2.toInt) (b := 1) rfl (by decide) (by omega) (by omega)
                refine lv_iinc (v := x_287) (lv' := [(2, .int x_287), (5, .int 3), (4, .int r_206), (3, .int 2), (0, .ref A_self), (1, .int a1)]) hx hb dX7_take_110 hl (k := 5) rfl (by rw [ex_287]; rfl) (by decide) rfl (fun ls hl => ?_)
                refine lv_goto (tgt := 75) hx hb dX7_take_113 (by decide) ?_
                refine lv_iload hx hb dX7_take_75 (lv_at hl 1 rfl) ?_
                refine lv_iload_n hx hb dX7_take_77 rfl (lv_at hl 3 rfl) ?_
                refine iicmp_leF (a := 3) (b := 2) (tgt := 116) hx hb (by decide) (by decide) dX7_take_78 (by decide) (by decide) ?_
                refine lv_aload_n hx hb dX7_take_81 rfl (lv_at hl 4 rfl) ?_
                refine va_get (D := D) (ci := 7) (v := .ref (q 55)) (C := RX7) (T := TX7) (N := 56) hx hb hts (fun _ h => List.mem_cons_of_mem _ (List.mem_append_right _ h)) hown hK hP 0 rfl rfl 55 (by decide) (hts (.fieldLink RX7 118 "CrownTableModel" "cloth" "[I") (mem_i 2 rfl)) (fun _ h9 => h9) rfl dX7_take_82 ?_
                refine lv_iload hx hb dX7_take_85 (lv_at hl 1 rfl) ?_
                refine lv_dup2_11 hx hb dX7_take_87 rfl rfl ?_
                refine va_iald hx hb hK hP 1 1 rfl rfl (vin (a := 3) (by decide) (by decide) (by decide)) dX7_take_88 ?_
                refine lv_topi (fun x_288 ex_288 => ?_)
                have lf_289 : (f_280 3).toInt = x_288.toInt := by rw [ex_288]; rfl
                refine lv_iconst (v := 1) hx hb dX7_take_89 (by decide) ?_
                refine lv_isub hx hb dX7_take_90 ?_
                refine lv_topi (fun x_290 ex_290 => ?_)
                have tx_290 : x_290.toInt = (x_288.toInt - 1) := by rw [ex_290]; exact sub_ti (a := x_288.toInt) (b := 1) rfl (by decide) (by omega) (by omega)
                refine va_iast hx hb hK hP hD hS 1 1 rfl rfl (vin (a := 3) (by decide) (by decide) (by decide)) dX7_take_91 (fun H locs hP hD hS => ?_)
                obtain ⟨f_291, ef_291, hP, hD⟩ : ∃ f_291 : Nat → Int32, f_291 = upd f_280 (3 : Int32).toNatClampNeg x_290 ∧ va_P D vwCl [(A_self, .inr (7, o7 q v w)), (q 55, .inl (c 1, 6, .inl f_291))] H ∧ va_D A [(A_self, .inr (7, o7 q v w)), (q 55, .inl (c 1, 6, .inl f_291))] := ⟨_, rfl, hP, hD⟩
                have cl_292 : (f_291 0).toInt = (f_280 0).toInt := by rw [ef_291]; rfl
                have cl_293 : (f_291 1).toInt = (f_280 1).toInt := by rw [ef_291]; rfl
                have cl_294 : (f_291 2).toInt = (f_280 2).toInt := by rw [ef_291]; rfl
                have cl_295 : (f_291 3).toInt = x_290.toInt := by rw [ef_291]; rfl
                have cl_296 : (f_291 4).toInt = (f_280 4).toInt := by rw [ef_291]; rfl
                have cl_297 : (f_291 5).toInt = (f_280 5).toInt := by rw [ef_291]; rfl
                refine lv_iinc (v := 2) (lv' := [(5, .int 2), (2, .int x_287), (4, .int r_206), (3, .int 2), (0, .ref A_self), (1, .int a1)]) hx hb dX7_take_92 hl (k := 1) rfl (by decide) (by decide) rfl (fun ls hl => ?_)
                refine lv_aload_n hx hb dX7_take_95 rfl (lv_at hl 4 rfl) ?_
                refine va_get (D := D) (ci := 7) (v := .ref (q 55)) (C := RX7) (T := TX7) (N := 56) hx hb hts (fun _ h => List.mem_cons_of_mem _ (List.mem_append_right _ h)) hown hK hP 0 rfl rfl 55 (by decide) (hts (.fieldLink RX7 118 "CrownTableModel" "cloth" "[I") (mem_i 2 rfl)) (fun _ h9 => h9) rfl dX7_take_96 ?_
                refine lv_iload hx hb dX7_take_99 (lv_at hl 0 rfl) ?_
                refine lv_dup2_11 hx hb dX7_take_101 rfl rfl ?_
                refine va_iald hx hb hK hP 1 1 rfl rfl (vin (a := 2) (by decide) (by decide) (by decide)) dX7_take_102 ?_
                refine lv_topi (fun x_298 ex_298 => ?_)
                have lf_299 : (f_291 2).toInt = x_298.toInt := by rw [ex_298]; rfl
                refine lv_iload hx hb dX7_take_103 (lv_at hl 0 rfl) ?_
                have hPc := hP.sub (ws' := []) [] rfl
                have hDc := hD.sub (ws' := []) [] (by decide) rfl
                have hFc := va_free (wc := []) hD hS hA [] rfl
                have kzz_300 : (2 : Int32).toInt = 2 := by decide
                refine va_csi (va_runS (As := [.int 2]) (rest := [.int x_298, .int 2, .ref (q 55)]) ⟨hx, hb, hml, hown, hts⟩ (k_X7_next l D c ts H.size 2 2 (by decide) (by omega)) (cwS 1 hts gX7_take_X7_next rfl rfl rfl ⟨rfl, hdX7_next⟩ ⟨(show 1 + 1 ≤ 2 by decide), (show 8 + (1 + 11) + 20 ≤ 43 by decide)⟩) ⟨Pre0.blind, Pre0.at hPc hDc hAm hSt hS hFc⟩ rfl rfl hl.1 rfl (lv_room (Nat.le_of_ble_eq_true rfl)) dX7_take_105 ⟨(show 0 + 0 ≤ 0 by decide), (show 0 + 0 ≤ 0 by decide)⟩) (fun r_302 hw_301 => ?_)
                rcases hw_301 with ⟨hw_301, rfl⟩ | ⟨hw_301, rfl⟩ | ⟨hw_301, rfl⟩ | ⟨hw_301, rfl⟩
                · exfalso; omega
                · skip
                  refine lv_iadd hx hb dX7_take_108 ?_
                  refine lv_topi (fun x_303 ex_303 => ?_)
                  have tx_303 : x_303.toInt = (x_298.toInt + 20) := by rw [ex_303]; exact add_ti (a := x_298.toInt) (b := 20) rfl (by decide) (by omega) (by omega)
                  refine va_iast hx hb hK hP hD hS 1 1 rfl rfl (vin (a := 2) (by decide) (by decide) (by decide)) dX7_take_109 (fun H locs hP hD hS => ?_)
                  obtain ⟨f_304, ef_304, hP, hD⟩ : ∃ f_304 : Nat → Int32, f_304 = upd f_291 (2 : Int32).toNatClampNeg x_303 ∧ va_P D vwCl [(A_self, .inr (7, o7 q v w)), (q 55, .inl (c 1, 6, .inl f_304))] H ∧ va_D A [(A_self, .inr (7, o7 q v w)), (q 55, .inl (c 1, 6, .inl f_304))] := ⟨_, rfl, hP, hD⟩
                  have cl_305 : (f_304 0).toInt = (f_291 0).toInt := by rw [ef_304]; rfl
                  have cl_306 : (f_304 1).toInt = (f_291 1).toInt := by rw [ef_304]; rfl
                  have cl_307 : (f_304 2).toInt = x_303.toInt := by rw [ef_304]; rfl
                  have cl_308 : (f_304 3).toInt = (f_291 3).toInt := by rw [ef_304]; rfl
                  have cl_309 : (f_304 4).toInt = (f_291 4).toInt := by rw [ef_304]; rfl
                  have cl_310 : (f_304 5).toInt = (f_291 5).toInt := by rw [ef_304]; rfl
                  obtain ⟨x_311, ex_311⟩ : ∃ y : Int32, y = x_287 + 1 := ⟨_, rfl⟩
                  have tx_311 : x_311.toInt = x_287.toInt + 1 := by rw [ex_311]; exact add_ti (a := x_287.toInt) (b := 1) rfl (by decide) (by omega) (by omega)
                  refine lv_iinc (v := x_311) (lv' := [(2, .int x_311), (5, .int 2), (4, .int r_206), (3, .int 2), (0, .ref A_self), (1, .int a1)]) hx hb dX7_take_110 hl (k := 1) rfl (by rw [ex_311]; rfl) (by decide) rfl (fun ls hl => ?_)
                  refine lv_goto (tgt := 75) hx hb dX7_take_113 (by decide) ?_
                  refine lv_iload hx hb dX7_take_75 (lv_at hl 1 rfl) ?_
                  refine lv_iload_n hx hb dX7_take_77 rfl (lv_at hl 3 rfl) ?_
                  refine iicmp_leT (a := 2) (b := 2) (tgt := 116) hx hb (by decide) (by decide) dX7_take_78 (by decide) (by decide) ?_
                  refine lv_goto (tgt := 43) hx hb dX7_take_116 (by decide) ?_
                  refine lv_aload_n hx hb dX7_take_43 rfl (lv_at hl 4 rfl) ?_
                  refine va_get (D := D) (ci := 7) (v := .ref (q 55)) (C := RX7) (T := TX7) (N := 56) hx hb hts (fun _ h => List.mem_cons_of_mem _ (List.mem_append_right _ h)) hown hK hP 0 rfl rfl 55 (by decide) (hts (.fieldLink RX7 118 "CrownTableModel" "cloth" "[I") (mem_i 2 rfl)) (fun _ h9 => h9) rfl dX7_take_44 ?_
                  refine lv_iload_n hx hb dX7_take_47 rfl (lv_at hl 3 rfl) ?_
                  refine va_iald hx hb hK hP 1 1 rfl rfl (vin (a := 2) (by decide) (by decide) (by decide)) dX7_take_48 ?_
                  refine lv_topi (fun x_312 ex_312 => ?_)
                  have lf_313 : (f_304 2).toInt = x_312.toInt := by rw [ex_312]; rfl
                  refine lv_iload hx hb dX7_take_49 (lv_at hl 2 rfl) ?_
                  refine iicmp_ge (a := x_312.toInt) (b := r_206.toInt) (tgt := 119) hx hb rfl rfl dX7_take_51 (by decide) (fun k_314 => ?_) (fun k_314 => ?_)
                  · skip
                    refine lv_aload_n hx hb dX7_take_119 rfl (lv_at hl 4 rfl) ?_
                    refine va_get (D := D) (ci := 7) (v := .ref (q 55)) (C := RX7) (T := TX7) (N := 56) hx hb hts (fun _ h => List.mem_cons_of_mem _ (List.mem_append_right _ h)) hown hK hP 0 rfl rfl 55 (by decide) (hts (.fieldLink RX7 118 "CrownTableModel" "cloth" "[I") (mem_i 2 rfl)) (fun _ h9 => h9) rfl dX7_take_120 ?_
                    refine lv_iload_n hx hb dX7_take_123 rfl (lv_at hl 3 rfl) ?_
                    refine lv_dup2_11 hx hb dX7_take_124 rfl rfl ?_
                    refine va_iald hx hb hK hP 1 1 rfl rfl (vin (a := 2) (by decide) (by decide) (by decide)) dX7_take_125 ?_
                    refine lv_topi (fun x_315 ex_315 => ?_)
                    have lf_316 : (f_304 2).toInt = x_315.toInt := by rw [ex_315]; rfl
                    refine lv_iload hx hb dX7_take_126 (lv_at hl 2 rfl) ?_
                    refine lv_isub hx hb dX7_take_128 ?_
                    refine lv_topi (fun x_317 ex_317 => ?_)
                    have tx_317 : x_317.toInt = (x_315.toInt - r_206.toInt) := by rw [ex_317]; exact sub_ti (a := x_315.toInt) (b := r_206.toInt) rfl rfl (by omega) (by omega)
                    refine va_iast hx hb hK hP hD hS 1 1 rfl rfl (vin (a := 2) (by decide) (by decide) (by decide)) dX7_take_129 (fun H locs hP hD hS => ?_)
                    obtain ⟨f_318, ef_318, hP, hD⟩ : ∃ f_318 : Nat → Int32, f_318 = upd f_304 (2 : Int32).toNatClampNeg x_317 ∧ va_P D vwCl [(A_self, .inr (7, o7 q v w)), (q 55, .inl (c 1, 6, .inl f_318))] H ∧ va_D A [(A_self, .inr (7, o7 q v w)), (q 55, .inl (c 1, 6, .inl f_318))] := ⟨_, rfl, hP, hD⟩
                    have cl_319 : (f_318 0).toInt = (f_304 0).toInt := by rw [ef_318]; rfl
                    have cl_320 : (f_318 1).toInt = (f_304 1).toInt := by rw [ef_318]; rfl
                    have cl_321 : (f_318 2).toInt = x_317.toInt := by rw [ef_318]; rfl
                    have cl_322 : (f_318 3).toInt = (f_304 3).toInt := by rw [ef_318]; rfl
                    have cl_323 : (f_318 4).toInt = (f_304 4).toInt := by rw [ef_318]; rfl
                    have cl_324 : (f_318 5).toInt = (f_304 5).toInt := by rw [ef_318]; rfl
                    refine lv_iinc (v := 3) (lv' := [(3, .int 3), (2, .int x_311), (5, .int 2), (4, .int r_206), (0, .ref A_self), (1, .int a1)]) hx hb dX7_take_130 hl (k := 3) rfl (by decide) (by decide) rfl (fun ls hl => ?_)
                    refine lv_goto (tgt := 30) hx hb dX7_take_133 (by decide) ?_
                    obtain ⟨ts, td0, td1, td2, td3, td4, td5, tl⟩ := TkS.b2_4 (d0 := (f_318 0).toInt) (d1 := (f_318 1).toInt) (d2 := (f_318 2).toInt) (d3 := (f_318 3).toInt) (d4 := (f_318 4).toInt) (d5 := (f_318 5).toInt) (L1 := x_311.toInt) hf30_2_2 (by omega) (by omega) (by omega) (by omega) (by omega) (by omega) (by omega) (by omega) (by omega) (by omega)
                    have hl := lv_sub hl [0, 4, 5, 1] rfl
                    exact lp_30_3 x_311 f_318 (by omega) (by omega) ts td0 td1 td2 td3 td4 td5 _ _ _ hP hD hS hl
                  · skip
                    exfalso; omega
                · exfalso; omega
                · exfalso; omega
              · exfalso; omega
            · skip
              refine lv_iinc (v := 5) (lv' := [(5, .int 5), (4, .int r_206), (3, .int 2), (0, .ref A_self), (1, .int a1), (2, .int L2)]) hx hb dX7_take_69 hl (k := 0) rfl (by decide) (by decide) rfl (fun ls hl => ?_)
              refine lv_goto (tgt := 59) hx hb dX7_take_72 (by decide) ?_
              refine lv_aload_n hx hb dX7_take_59 rfl (lv_at hl 3 rfl) ?_
              refine va_get (D := D) (ci := 7) (v := .ref (q 55)) (C := RX7) (T := TX7) (N := 56) hx hb hts (fun _ h => List.mem_cons_of_mem _ (List.mem_append_right _ h)) hown hK hP 0 rfl rfl 55 (by decide) (hts (.fieldLink RX7 118 "CrownTableModel" "cloth" "[I") (mem_i 2 rfl)) (fun _ h9 => h9) rfl dX7_take_60 ?_
              refine lv_iload hx hb dX7_take_63 (lv_at hl 0 rfl) ?_
              refine va_iald hx hb hK hP 1 1 rfl rfl (vin (a := 5) (by decide) (by decide) (by decide)) dX7_take_65 ?_
              refine lv_topi (fun x_325 ex_325 => ?_)
              have lf_326 : (M_cloth 5).toInt = x_325.toInt := by rw [ex_325]; rfl
              refine iif_ne (a := x_325.toInt) (tgt := 75) hx hb rfl dX7_take_66 (by decide) (fun k_327 => ?_) (fun k_327 => ?_)
              · skip
                refine lv_iload hx hb dX7_take_75 (lv_at hl 0 rfl) ?_
                refine lv_iload_n hx hb dX7_take_77 rfl (lv_at hl 2 rfl) ?_
                refine iicmp_leF (a := 5) (b := 2) (tgt := 116) hx hb (by decide) (by decide) dX7_take_78 (by decide) (by decide) ?_
                refine lv_aload_n hx hb dX7_take_81 rfl (lv_at hl 3 rfl) ?_
                refine va_get (D := D) (ci := 7) (v := .ref (q 55)) (C := RX7) (T := TX7) (N := 56) hx hb hts (fun _ h => List.mem_cons_of_mem _ (List.mem_append_right _ h)) hown hK hP 0 rfl rfl 55 (by decide) (hts (.fieldLink RX7 118 "CrownTableModel" "cloth" "[I") (mem_i 2 rfl)) (fun _ h9 => h9) rfl dX7_take_82 ?_
                refine lv_iload hx hb dX7_take_85 (lv_at hl 0 rfl) ?_
                refine lv_dup2_11 hx hb dX7_take_87 rfl rfl ?_
                refine va_iald hx hb hK hP 1 1 rfl rfl (vin (a := 5) (by decide) (by decide) (by decide)) dX7_take_88 ?_
                refine lv_topi (fun x_328 ex_328 => ?_)
                have lf_329 : (M_cloth 5).toInt = x_328.toInt := by rw [ex_328]; rfl
                refine lv_iconst (v := 1) hx hb dX7_take_89 (by decide) ?_
                refine lv_isub hx hb dX7_take_90 ?_
                refine lv_topi (fun x_330 ex_330 => ?_)
                have tx_330 : x_330.toInt = (x_328.toInt - 1) := by rw [ex_330]; exact sub_ti (a := x_328.toInt) (b := 1) rfl (by decide) (by omega) (by omega)
                refine va_iast hx hb hK hP hD hS 1 1 rfl rfl (vin (a := 5) (by decide) (by decide) (by decide)) dX7_take_91 (fun H locs hP hD hS => ?_)
                obtain ⟨f_331, ef_331, hP, hD⟩ : ∃ f_331 : Nat → Int32, f_331 = upd M_cloth (5 : Int32).toNatClampNeg x_330 ∧ va_P D vwCl [(A_self, .inr (7, o7 q v w)), (q 55, .inl (c 1, 6, .inl f_331))] H ∧ va_D A [(A_self, .inr (7, o7 q v w)), (q 55, .inl (c 1, 6, .inl f_331))] := ⟨_, rfl, hP, hD⟩
                have cl_332 : (f_331 0).toInt = (M_cloth 0).toInt := by rw [ef_331]; rfl
                have cl_333 : (f_331 1).toInt = (M_cloth 1).toInt := by rw [ef_331]; rfl
                have cl_334 : (f_331 2).toInt = (M_cloth 2).toInt := by rw [ef_331]; rfl
                have cl_335 : (f_331 3).toInt = (M_cloth 3).toInt := by rw [ef_331]; rfl
                have cl_336 : (f_331 4).toInt = (M_cloth 4).toInt := by rw [ef_331]; rfl
                have cl_337 : (f_331 5).toInt = x_330.toInt := by rw [ef_331]; rfl
                refine lv_iinc (v := 4) (lv' := [(5, .int 4), (4, .int r_206), (3, .int 2), (0, .ref A_self), (1, .int a1), (2, .int L2)]) hx hb dX7_take_92 hl (k := 0) rfl (by decide) (by decide) rfl (fun ls hl => ?_)
                refine lv_aload_n hx hb dX7_take_95 rfl (lv_at hl 3 rfl) ?_
                refine va_get (D := D) (ci := 7) (v := .ref (q 55)) (C := RX7) (T := TX7) (N := 56) hx hb hts (fun _ h => List.mem_cons_of_mem _ (List.mem_append_right _ h)) hown hK hP 0 rfl rfl 55 (by decide) (hts (.fieldLink RX7 118 "CrownTableModel" "cloth" "[I") (mem_i 2 rfl)) (fun _ h9 => h9) rfl dX7_take_96 ?_
                refine lv_iload hx hb dX7_take_99 (lv_at hl 0 rfl) ?_
                refine lv_dup2_11 hx hb dX7_take_101 rfl rfl ?_
                refine va_iald hx hb hK hP 1 1 rfl rfl (vin (a := 4) (by decide) (by decide) (by decide)) dX7_take_102 ?_
                refine lv_topi (fun x_338 ex_338 => ?_)
                have lf_339 : (f_331 4).toInt = x_338.toInt := by rw [ex_338]; rfl
                refine lv_iload hx hb dX7_take_103 (lv_at hl 0 rfl) ?_
                have hPc := hP.sub (ws' := []) [] rfl
                have hDc := hD.sub (ws' := []) [] (by decide) rfl
                have hFc := va_free (wc := []) hD hS hA [] rfl
                have kzz_340 : (4 : Int32).toInt = 4 := by decide
                refine va_csi (va_runS (As := [.int 4]) (rest := [.int x_338, .int 4, .ref (q 55)]) ⟨hx, hb, hml, hown, hts⟩ (k_X7_next l D c ts H.size 4 4 (by decide) (by omega)) (cwS 1 hts gX7_take_X7_next rfl rfl rfl ⟨rfl, hdX7_next⟩ ⟨(show 1 + 1 ≤ 2 by decide), (show 8 + (1 + 11) + 20 ≤ 43 by decide)⟩) ⟨Pre0.blind, Pre0.at hPc hDc hAm hSt hS hFc⟩ rfl rfl hl.1 rfl (lv_room (Nat.le_of_ble_eq_true rfl)) dX7_take_105 ⟨(show 0 + 0 ≤ 0 by decide), (show 0 + 0 ≤ 0 by decide)⟩) (fun r_342 hw_341 => ?_)
                rcases hw_341 with ⟨hw_341, rfl⟩ | ⟨hw_341, rfl⟩ | ⟨hw_341, rfl⟩ | ⟨hw_341, rfl⟩
                · exfalso; omega
                · exfalso; omega
                · exfalso; omega
                · skip
                  refine lv_iadd hx hb dX7_take_108 ?_
                  refine lv_topi (fun x_343 ex_343 => ?_)
                  have tx_343 : x_343.toInt = (x_338.toInt + 10) := by rw [ex_343]; exact add_ti (a := x_338.toInt) (b := 10) rfl (by decide) (by omega) (by omega)
                  refine va_iast hx hb hK hP hD hS 1 1 rfl rfl (vin (a := 4) (by decide) (by decide) (by decide)) dX7_take_109 (fun H locs hP hD hS => ?_)
                  obtain ⟨f_344, ef_344, hP, hD⟩ : ∃ f_344 : Nat → Int32, f_344 = upd f_331 (4 : Int32).toNatClampNeg x_343 ∧ va_P D vwCl [(A_self, .inr (7, o7 q v w)), (q 55, .inl (c 1, 6, .inl f_344))] H ∧ va_D A [(A_self, .inr (7, o7 q v w)), (q 55, .inl (c 1, 6, .inl f_344))] := ⟨_, rfl, hP, hD⟩
                  have cl_345 : (f_344 0).toInt = (f_331 0).toInt := by rw [ef_344]; rfl
                  have cl_346 : (f_344 1).toInt = (f_331 1).toInt := by rw [ef_344]; rfl
                  have cl_347 : (f_344 2).toInt = (f_331 2).toInt := by rw [ef_344]; rfl
                  have cl_348 : (f_344 3).toInt = (f_331 3).toInt := by rw [ef_344]; rfl
                  have cl_349 : (f_344 4).toInt = x_343.toInt := by rw [ef_344]; rfl
                  have cl_350 : (f_344 5).toInt = (f_331 5).toInt := by rw [ef_344]; rfl
                  obtain ⟨x_351, ex_351⟩ : ∃ y : Int32, y = L2 + 1 := ⟨_, rfl⟩
                  have tx_351 : x_351.toInt = L2.toInt + 1 := by rw [ex_351]; exact add_ti (a := L2.toInt) (b := 1) rfl (by decide) (by omega) (by omega)
                  refine lv_iinc (v := x_351) (lv' := [(2, .int x_351), (5, .int 4), (4, .int r_206), (3, .int 2), (0, .ref A_self), (1, .int a1)]) hx hb dX7_take_110 hl (k := 5) rfl (by rw [ex_351]; rfl) (by decide) rfl (fun ls hl => ?_)
                  refine lv_goto (tgt := 75) hx hb dX7_take_113 (by decide) ?_
                  refine lv_iload hx hb dX7_take_75 (lv_at hl 1 rfl) ?_
                  refine lv_iload_n hx hb dX7_take_77 rfl (lv_at hl 3 rfl) ?_
                  refine iicmp_leF (a := 4) (b := 2) (tgt := 116) hx hb (by decide) (by decide) dX7_take_78 (by decide) (by decide) ?_
                  refine lv_aload_n hx hb dX7_take_81 rfl (lv_at hl 4 rfl) ?_
                  refine va_get (D := D) (ci := 7) (v := .ref (q 55)) (C := RX7) (T := TX7) (N := 56) hx hb hts (fun _ h => List.mem_cons_of_mem _ (List.mem_append_right _ h)) hown hK hP 0 rfl rfl 55 (by decide) (hts (.fieldLink RX7 118 "CrownTableModel" "cloth" "[I") (mem_i 2 rfl)) (fun _ h9 => h9) rfl dX7_take_82 ?_
                  refine lv_iload hx hb dX7_take_85 (lv_at hl 1 rfl) ?_
                  refine lv_dup2_11 hx hb dX7_take_87 rfl rfl ?_
                  refine va_iald hx hb hK hP 1 1 rfl rfl (vin (a := 4) (by decide) (by decide) (by decide)) dX7_take_88 ?_
                  refine lv_topi (fun x_352 ex_352 => ?_)
                  have lf_353 : (f_344 4).toInt = x_352.toInt := by rw [ex_352]; rfl
                  refine lv_iconst (v := 1) hx hb dX7_take_89 (by decide) ?_
                  refine lv_isub hx hb dX7_take_90 ?_
                  refine lv_topi (fun x_354 ex_354 => ?_)
                  have tx_354 : x_354.toInt = (x_352.toInt - 1) := by rw [ex_354]; exact sub_ti (a := x_352.toInt) (b := 1) rfl (by decide) (by omega) (by omega)
                  refine va_iast hx hb hK hP hD hS 1 1 rfl rfl (vin (a := 4) (by decide) (by decide) (by decide)) dX7_take_91 (fun H locs hP hD hS => ?_)
                  obtain ⟨f_355, ef_355, hP, hD⟩ : ∃ f_355 : Nat → Int32, f_355 = upd f_344 (4 : Int32).toNatClampNeg x_354 ∧ va_P D vwCl [(A_self, .inr (7, o7 q v w)), (q 55, .inl (c 1, 6, .inl f_355))] H ∧ va_D A [(A_self, .inr (7, o7 q v w)), (q 55, .inl (c 1, 6, .inl f_355))] := ⟨_, rfl, hP, hD⟩
                  have cl_356 : (f_355 0).toInt = (f_344 0).toInt := by rw [ef_355]; rfl
                  have cl_357 : (f_355 1).toInt = (f_344 1).toInt := by rw [ef_355]; rfl
                  have cl_358 : (f_355 2).toInt = (f_344 2).toInt := by rw [ef_355]; rfl
                  have cl_359 : (f_355 3).toInt = (f_344 3).toInt := by rw [ef_355]; rfl
                  have cl_360 : (f_355 4).toInt = x_354.toInt := by rw [ef_355]; rfl
                  have cl_361 : (f_355 5).toInt = (f_344 5).toInt := by rw [ef_355]; rfl
                  refine lv_iinc (v := 3) (lv' := [(5, .int 3), (2, .int x_351), (4, .int r_206), (3, .int 2), (0, .ref A_self), (1, .int a1)]) hx hb dX7_take_92 hl (k := 1) rfl (by decide) (by decide) rfl (fun ls hl => ?_)
                  refine lv_aload_n hx hb dX7_take_95 rfl (lv_at hl 4 rfl) ?_
                  refine va_get (D := D) (ci := 7) (v := .ref (q 55)) (C := RX7) (T := TX7) (N := 56) hx hb hts (fun _ h => List.mem_cons_of_mem _ (List.mem_append_right _ h)) hown hK hP 0 rfl rfl 55 (by decide) (hts (.fieldLink RX7 118 "CrownTableModel" "cloth" "[I") (mem_i 2 rfl)) (fun _ h9 => h9) rfl dX7_take_96 ?_
                  refine lv_iload hx hb dX7_take_99 (lv_at hl 0 rfl) ?_
                  refine lv_dup2_11 hx hb dX7_take_101 rfl rfl ?_
                  refine va_iald hx hb hK hP 1 1 rfl rfl (vin (a := 3) (by decide) (by decide) (by decide)) dX7_take_102 ?_
                  refine lv_topi (fun x_362 ex_362 => ?_)
                  have lf_363 : (f_355 3).toInt = x_362.toInt := by rw [ex_362]; rfl
                  refine lv_iload hx hb dX7_take_103 (lv_at hl 0 rfl) ?_
                  have hPc := hP.sub (ws' := []) [] rfl
                  have hDc := hD.sub (ws' := []) [] (by decide) rfl
                  have hFc := va_free (wc := []) hD hS hA [] rfl
                  have kzz_364 : (3 : Int32).toInt = 3 := by decide
                  refine va_csi (va_runS (As := [.int 3]) (rest := [.int x_362, .int 3, .ref (q 55)]) ⟨hx, hb, hml, hown, hts⟩ (k_X7_next l D c ts H.size 3 3 (by decide) (by omega)) (cwS 1 hts gX7_take_X7_next rfl rfl rfl ⟨rfl, hdX7_next⟩ ⟨(show 1 + 1 ≤ 2 by decide), (show 8 + (1 + 11) + 20 ≤ 43 by decide)⟩) ⟨Pre0.blind, Pre0.at hPc hDc hAm hSt hS hFc⟩ rfl rfl hl.1 rfl (lv_room (Nat.le_of_ble_eq_true rfl)) dX7_take_105 ⟨(show 0 + 0 ≤ 0 by decide), (show 0 + 0 ≤ 0 by decide)⟩) (fun r_366 hw_365 => ?_)
                  rcases hw_365 with ⟨hw_365, rfl⟩ | ⟨hw_365, rfl⟩ | ⟨hw_365, rfl⟩ | ⟨hw_365, rfl⟩
                  · exfalso; omega
                  · exfalso; omega
                  · skip
                    refine lv_iadd hx hb dX7_take_108 ?_
                    refine lv_topi (fun x_367 ex_367 => ?_)
                    have tx_367 : x_367.toInt = (x_362.toInt + 5) := by rw [ex_367]; exact add_ti (a := x_362.toInt) (b := 5) rfl (by decide) (by omega) (by omega)
                    refine va_iast hx hb hK hP hD hS 1 1 rfl rfl (vin (a := 3) (by decide) (by decide) (by decide)) dX7_take_109 (fun H locs hP hD hS => ?_)
                    obtain ⟨f_368, ef_368, hP, hD⟩ : ∃ f_368 : Nat → Int32, f_368 = upd f_355 (3 : Int32).toNatClampNeg x_367 ∧ va_P D vwCl [(A_self, .inr (7, o7 q v w)), (q 55, .inl (c 1, 6, .inl f_368))] H ∧ va_D A [(A_self, .inr (7, o7 q v w)), (q 55, .inl (c 1, 6, .inl f_368))] := ⟨_, rfl, hP, hD⟩
                    have cl_369 : (f_368 0).toInt = (f_355 0).toInt := by rw [ef_368]; rfl
                    have cl_370 : (f_368 1).toInt = (f_355 1).toInt := by rw [ef_368]; rfl
                    have cl_371 : (f_368 2).toInt = (f_355 2).toInt := by rw [ef_368]; rfl
                    have cl_372 : (f_368 3).toInt = x_367.toInt := by rw [ef_368]; rfl
                    have cl_373 : (f_368 4).toInt = (f_355 4).toInt := by rw [ef_368]; rfl
                    have cl_374 : (f_368 5).toInt = (f_355 5).toInt := by rw [ef_368]; rfl
                    obtain ⟨x_375, ex_375⟩ : ∃ y : Int32, y = x_351 + 1 := ⟨_, rfl⟩
                    have tx_375 : x_375.toInt = x_351.toInt + 1 := by rw [ex_375]; exact add_ti (a := x_351.toInt) (b := 1) rfl (by decide) (by omega) (by omega)
                    refine lv_iinc (v := x_375) (lv' := [(2, .int x_375), (5, .int 3), (4, .int r_206), (3, .int 2), (0, .ref A_self), (1, .int a1)]) hx hb dX7_take_110 hl (k := 1) rfl (by rw [ex_375]; rfl) (by decide) rfl (fun ls hl => ?_)
                    refine lv_goto (tgt := 75) hx hb dX7_take_113 (by decide) ?_
                    refine lv_iload hx hb dX7_take_75 (lv_at hl 1 rfl) ?_
                    refine lv_iload_n hx hb dX7_take_77 rfl (lv_at hl 3 rfl) ?_
                    refine iicmp_leF (a := 3) (b := 2) (tgt := 116) hx hb (by decide) (by decide) dX7_take_78 (by decide) (by decide) ?_
                    refine lv_aload_n hx hb dX7_take_81 rfl (lv_at hl 4 rfl) ?_
                    refine va_get (D := D) (ci := 7) (v := .ref (q 55)) (C := RX7) (T := TX7) (N := 56) hx hb hts (fun _ h => List.mem_cons_of_mem _ (List.mem_append_right _ h)) hown hK hP 0 rfl rfl 55 (by decide) (hts (.fieldLink RX7 118 "CrownTableModel" "cloth" "[I") (mem_i 2 rfl)) (fun _ h9 => h9) rfl dX7_take_82 ?_
                    refine lv_iload hx hb dX7_take_85 (lv_at hl 1 rfl) ?_
                    refine lv_dup2_11 hx hb dX7_take_87 rfl rfl ?_
                    refine va_iald hx hb hK hP 1 1 rfl rfl (vin (a := 3) (by decide) (by decide) (by decide)) dX7_take_88 ?_
                    refine lv_topi (fun x_376 ex_376 => ?_)
                    have lf_377 : (f_368 3).toInt = x_376.toInt := by rw [ex_376]; rfl
                    refine lv_iconst (v := 1) hx hb dX7_take_89 (by decide) ?_
                    refine lv_isub hx hb dX7_take_90 ?_
                    refine lv_topi (fun x_378 ex_378 => ?_)
                    have tx_378 : x_378.toInt = (x_376.toInt - 1) := by rw [ex_378]; exact sub_ti (a := x_376.toInt) (b := 1) rfl (by decide) (by omega) (by omega)
                    refine va_iast hx hb hK hP hD hS 1 1 rfl rfl (vin (a := 3) (by decide) (by decide) (by decide)) dX7_take_91 (fun H locs hP hD hS => ?_)
                    obtain ⟨f_379, ef_379, hP, hD⟩ : ∃ f_379 : Nat → Int32, f_379 = upd f_368 (3 : Int32).toNatClampNeg x_378 ∧ va_P D vwCl [(A_self, .inr (7, o7 q v w)), (q 55, .inl (c 1, 6, .inl f_379))] H ∧ va_D A [(A_self, .inr (7, o7 q v w)), (q 55, .inl (c 1, 6, .inl f_379))] := ⟨_, rfl, hP, hD⟩
                    have cl_380 : (f_379 0).toInt = (f_368 0).toInt := by rw [ef_379]; rfl
                    have cl_381 : (f_379 1).toInt = (f_368 1).toInt := by rw [ef_379]; rfl
                    have cl_382 : (f_379 2).toInt = (f_368 2).toInt := by rw [ef_379]; rfl
                    have cl_383 : (f_379 3).toInt = x_378.toInt := by rw [ef_379]; rfl
                    have cl_384 : (f_379 4).toInt = (f_368 4).toInt := by rw [ef_379]; rfl
                    have cl_385 : (f_379 5).toInt = (f_368 5).toInt := by rw [ef_379]; rfl
                    refine lv_iinc (v := 2) (lv' := [(5, .int 2), (2, .int x_375), (4, .int r_206), (3, .int 2), (0, .ref A_self), (1, .int a1)]) hx hb dX7_take_92 hl (k := 1) rfl (by decide) (by decide) rfl (fun ls hl => ?_)
                    refine lv_aload_n hx hb dX7_take_95 rfl (lv_at hl 4 rfl) ?_
                    refine va_get (D := D) (ci := 7) (v := .ref (q 55)) (C := RX7) (T := TX7) (N := 56) hx hb hts (fun _ h => List.mem_cons_of_mem _ (List.mem_append_right _ h)) hown hK hP 0 rfl rfl 55 (by decide) (hts (.fieldLink RX7 118 "CrownTableModel" "cloth" "[I") (mem_i 2 rfl)) (fun _ h9 => h9) rfl dX7_take_96 ?_
                    refine lv_iload hx hb dX7_take_99 (lv_at hl 0 rfl) ?_
                    refine lv_dup2_11 hx hb dX7_take_101 rfl rfl ?_
                    refine va_iald hx hb hK hP 1 1 rfl rfl (vin (a := 2) (by decide) (by decide) (by decide)) dX7_take_102 ?_
                    refine lv_topi (fun x_386 ex_386 => ?_)
                    have lf_387 : (f_379 2).toInt = x_386.toInt := by rw [ex_386]; rfl
                    refine lv_iload hx hb dX7_take_103 (lv_at hl 0 rfl) ?_
                    have hPc := hP.sub (ws' := []) [] rfl
                    have hDc := hD.sub (ws' := []) [] (by decide) rfl
                    have hFc := va_free (wc := []) hD hS hA [] rfl
                    have kzz_388 : (2 : Int32).toInt = 2 := by decide
                    refine va_csi (va_runS (As := [.int 2]) (rest := [.int x_386, .int 2, .ref (q 55)]) ⟨hx, hb, hml, hown, hts⟩ (k_X7_next l D c ts H.size 2 2 (by decide) (by omega)) (cwS 1 hts gX7_take_X7_next rfl rfl rfl ⟨rfl, hdX7_next⟩ ⟨(show 1 + 1 ≤ 2 by decide), (show 8 + (1 + 11) + 20 ≤ 43 by decide)⟩) ⟨Pre0.blind, Pre0.at hPc hDc hAm hSt hS hFc⟩ rfl rfl hl.1 rfl (lv_room (Nat.le_of_ble_eq_true rfl)) dX7_take_105 ⟨(show 0 + 0 ≤ 0 by decide), (show 0 + 0 ≤ 0 by decide)⟩) (fun r_390 hw_389 => ?_)
                    rcases hw_389 with ⟨hw_389, rfl⟩ | ⟨hw_389, rfl⟩ | ⟨hw_389, rfl⟩ | ⟨hw_389, rfl⟩
                    · exfalso; omega
                    · skip
                      refine lv_iadd hx hb dX7_take_108 ?_
                      refine lv_topi (fun x_391 ex_391 => ?_)
                      have tx_391 : x_391.toInt = (x_386.toInt + 20) := by rw [ex_391]; exact add_ti (a := x_386.toInt) (b := 20) rfl (by decide) (by omega) (by omega)
                      refine va_iast hx hb hK hP hD hS 1 1 rfl rfl (vin (a := 2) (by decide) (by decide) (by decide)) dX7_take_109 (fun H locs hP hD hS => ?_)
                      obtain ⟨f_392, ef_392, hP, hD⟩ : ∃ f_392 : Nat → Int32, f_392 = upd f_379 (2 : Int32).toNatClampNeg x_391 ∧ va_P D vwCl [(A_self, .inr (7, o7 q v w)), (q 55, .inl (c 1, 6, .inl f_392))] H ∧ va_D A [(A_self, .inr (7, o7 q v w)), (q 55, .inl (c 1, 6, .inl f_392))] := ⟨_, rfl, hP, hD⟩
                      have cl_393 : (f_392 0).toInt = (f_379 0).toInt := by rw [ef_392]; rfl
                      have cl_394 : (f_392 1).toInt = (f_379 1).toInt := by rw [ef_392]; rfl
                      have cl_395 : (f_392 2).toInt = x_391.toInt := by rw [ef_392]; rfl
                      have cl_396 : (f_392 3).toInt = (f_379 3).toInt := by rw [ef_392]; rfl
                      have cl_397 : (f_392 4).toInt = (f_379 4).toInt := by rw [ef_392]; rfl
                      have cl_398 : (f_392 5).toInt = (f_379 5).toInt := by rw [ef_392]; rfl
                      obtain ⟨x_399, ex_399⟩ : ∃ y : Int32, y = x_375 + 1 := ⟨_, rfl⟩
                      have tx_399 : x_399.toInt = x_375.toInt + 1 := by rw [ex_399]; exact add_ti (a := x_375.toInt) (b := 1) rfl (by decide) (by omega) (by omega)
                      refine lv_iinc (v := x_399) (lv' := [(2, .int x_399), (5, .int 2), (4, .int r_206), (3, .int 2), (0, .ref A_self), (1, .int a1)]) hx hb dX7_take_110 hl (k := 1) rfl (by rw [ex_399]; rfl) (by decide) rfl (fun ls hl => ?_)
                      refine lv_goto (tgt := 75) hx hb dX7_take_113 (by decide) ?_
                      refine lv_iload hx hb dX7_take_75 (lv_at hl 1 rfl) ?_
                      refine lv_iload_n hx hb dX7_take_77 rfl (lv_at hl 3 rfl) ?_
                      refine iicmp_leT (a := 2) (b := 2) (tgt := 116) hx hb (by decide) (by decide) dX7_take_78 (by decide) (by decide) ?_
                      refine lv_goto (tgt := 43) hx hb dX7_take_116 (by decide) ?_
                      refine lv_aload_n hx hb dX7_take_43 rfl (lv_at hl 4 rfl) ?_
                      refine va_get (D := D) (ci := 7) (v := .ref (q 55)) (C := RX7) (T := TX7) (N := 56) hx hb hts (fun _ h => List.mem_cons_of_mem _ (List.mem_append_right _ h)) hown hK hP 0 rfl rfl 55 (by decide) (hts (.fieldLink RX7 118 "CrownTableModel" "cloth" "[I") (mem_i 2 rfl)) (fun _ h9 => h9) rfl dX7_take_44 ?_
                      refine lv_iload_n hx hb dX7_take_47 rfl (lv_at hl 3 rfl) ?_
                      refine va_iald hx hb hK hP 1 1 rfl rfl (vin (a := 2) (by decide) (by decide) (by decide)) dX7_take_48 ?_
                      refine lv_topi (fun x_400 ex_400 => ?_)
                      have lf_401 : (f_392 2).toInt = x_400.toInt := by rw [ex_400]; rfl
                      refine lv_iload hx hb dX7_take_49 (lv_at hl 2 rfl) ?_
                      refine iicmp_ge (a := x_400.toInt) (b := r_206.toInt) (tgt := 119) hx hb rfl rfl dX7_take_51 (by decide) (fun k_402 => ?_) (fun k_402 => ?_)
                      · skip
                        refine lv_aload_n hx hb dX7_take_119 rfl (lv_at hl 4 rfl) ?_
                        refine va_get (D := D) (ci := 7) (v := .ref (q 55)) (C := RX7) (T := TX7) (N := 56) hx hb hts (fun _ h => List.mem_cons_of_mem _ (List.mem_append_right _ h)) hown hK hP 0 rfl rfl 55 (by decide) (hts (.fieldLink RX7 118 "CrownTableModel" "cloth" "[I") (mem_i 2 rfl)) (fun _ h9 => h9) rfl dX7_take_120 ?_
                        refine lv_iload_n hx hb dX7_take_123 rfl (lv_at hl 3 rfl) ?_
                        refine lv_dup2_11 hx hb dX7_take_124 rfl rfl ?_
                        refine va_iald hx hb hK hP 1 1 rfl rfl (vin (a := 2) (by decide) (by decide) (by decide)) dX7_take_125 ?_
                        refine lv_topi (fun x_403 ex_403 => ?_)
                        have lf_404 : (f_392 2).toInt = x_403.toInt := by rw [ex_403]; rfl
                        refine lv_iload hx hb dX7_take_126 (lv_at hl 2 rfl) ?_
                        refine lv_isub hx hb dX7_take_128 ?_
                        refine lv_topi (fun x_405 ex_405 => ?_)
                        have tx_405 : x_405.toInt = (x_403.toInt - r_206.toInt) := by rw [ex_405]; exact sub_ti (a := x_403.toInt) (b := r_206.toInt) rfl rfl (by omega) (by omega)
                        refine va_iast hx hb hK hP hD hS 1 1 rfl rfl (vin (a := 2) (by decide) (by decide) (by decide)) dX7_take_129 (fun H locs hP hD hS => ?_)
                        obtain ⟨f_406, ef_406, hP, hD⟩ : ∃ f_406 : Nat → Int32, f_406 = upd f_392 (2 : Int32).toNatClampNeg x_405 ∧ va_P D vwCl [(A_self, .inr (7, o7 q v w)), (q 55, .inl (c 1, 6, .inl f_406))] H ∧ va_D A [(A_self, .inr (7, o7 q v w)), (q 55, .inl (c 1, 6, .inl f_406))] := ⟨_, rfl, hP, hD⟩
                        have cl_407 : (f_406 0).toInt = (f_392 0).toInt := by rw [ef_406]; rfl
                        have cl_408 : (f_406 1).toInt = (f_392 1).toInt := by rw [ef_406]; rfl
                        have cl_409 : (f_406 2).toInt = x_405.toInt := by rw [ef_406]; rfl
                        have cl_410 : (f_406 3).toInt = (f_392 3).toInt := by rw [ef_406]; rfl
                        have cl_411 : (f_406 4).toInt = (f_392 4).toInt := by rw [ef_406]; rfl
                        have cl_412 : (f_406 5).toInt = (f_392 5).toInt := by rw [ef_406]; rfl
                        refine lv_iinc (v := 3) (lv' := [(3, .int 3), (2, .int x_399), (5, .int 2), (4, .int r_206), (0, .ref A_self), (1, .int a1)]) hx hb dX7_take_130 hl (k := 3) rfl (by decide) (by decide) rfl (fun ls hl => ?_)
                        refine lv_goto (tgt := 30) hx hb dX7_take_133 (by decide) ?_
                        obtain ⟨ts, td0, td1, td2, td3, td4, td5, tl⟩ := TkS.b2_5 (d0 := (f_406 0).toInt) (d1 := (f_406 1).toInt) (d2 := (f_406 2).toInt) (d3 := (f_406 3).toInt) (d4 := (f_406 4).toInt) (d5 := (f_406 5).toInt) (L1 := x_399.toInt) hf30_2_2 (by omega) (by omega) (by omega) (by omega) (by omega) (by omega) (by omega) (by omega) (by omega) (by omega) (by omega)
                        have hl := lv_sub hl [0, 4, 5, 1] rfl
                        exact lp_30_3 x_399 f_406 (by omega) (by omega) ts td0 td1 td2 td3 td4 td5 _ _ _ hP hD hS hl
                      · skip
                        exfalso; omega
                    · exfalso; omega
                    · exfalso; omega
                  · exfalso; omega
              · skip
                exact (TkS.n2 hf30_2_2 (by omega) (by omega) (by omega) (by omega)).elim
      have lp_30_1 : ∀ (L2 : Int32) (M_cloth : Nat → Int32) (hf30_1_0 : 0 ≤ L2.toInt) (hf30_1_1 : L2.toInt ≤ 5) (hf30_1_2 : TkS1 (f_cloth 0).toInt (f_cloth 1).toInt (f_cloth 2).toInt (f_cloth 3).toInt (f_cloth 4).toInt (f_cloth 5).toInt (M_cloth 0).toInt (M_cloth 1).toInt (M_cloth 2).toInt (M_cloth 3).toInt (M_cloth 4).toInt (M_cloth 5).toInt n0 n1 n2 n3 n4 n5 L2.toInt) (hf30_1_3 : 0 ≤ (M_cloth 0).toInt ∧ (M_cloth 0).toInt ≤ 11) (hf30_1_4 : 0 ≤ (M_cloth 1).toInt ∧ (M_cloth 1).toInt ≤ 19) (hf30_1_5 : 0 ≤ (M_cloth 2).toInt ∧ (M_cloth 2).toInt ≤ 19) (hf30_1_6 : 0 ≤ (M_cloth 3).toInt ∧ (M_cloth 3).toInt ≤ 4) (hf30_1_7 : 0 ≤ (M_cloth 4).toInt ∧ (M_cloth 4).toInt ≤ 9) (hf30_1_8 : 0 ≤ (M_cloth 5).toInt ∧ (M_cloth 5).toInt ≤ 900000) (H : Heap) (locs : List Loc) (ls : Array Slot), va_P D vwCl [(A_self, .inr (7, o7 q v w)), (q 55, .inl (c 1, 6, .inl M_cloth))] H → va_D A [(A_self, .inr (7, o7 q v w)), (q 55, .inl (c 1, 6, .inl M_cloth))] → va_S A s.heap H locs → lv_has ls 6 [(3, .int 1), (0, .ref A_self), (1, .int a1), (2, .int L2)] → W p l e (headSpec wsX7_take ({ frames := 2, cells := 0, slots := 0, locals := 43 })).room s m (([.ref A_self, .int a1] : List Value).toArray) below meth cd H locs 0 0 (MQ below (va_Qi (fun (r : Int32) (u : (Nat → Int32) × Unit) => (0 ≤ (u.1 0).toInt ∧ (u.1 0).toInt ≤ 11) ∧ (0 ≤ (u.1 1).toInt ∧ (u.1 1).toInt ≤ 19) ∧ (0 ≤ (u.1 2).toInt ∧ (u.1 2).toInt ≤ 19) ∧ (0 ≤ (u.1 3).toInt ∧ (u.1 3).toInt ≤ 4) ∧ (0 ≤ (u.1 4).toInt ∧ (u.1 4).toInt ≤ 9) ∧ (0 ≤ (u.1 5).toInt ∧ (u.1 5).toInt ≤ cb) ∧ ((r.toInt = -1 ∧ ¬ (1 ≤ i_a1 ∧ i_a1 ≤ 1000000) ∧ (u.1 0).toInt = (f_cloth 0).toInt ∧ (u.1 1).toInt = (f_cloth 1).toInt ∧ (u.1 2).toInt = (f_cloth 2).toInt ∧ (u.1 3).toInt = (f_cloth 3).toInt ∧ (u.1 4).toInt = (f_cloth 4).toInt ∧ (u.1 5).toInt = (f_cloth 5).toInt) ∨ ((1 ≤ i_a1 ∧ i_a1 ≤ 1000000) ∧ r.toInt = -2 ∧ (f_cloth 0).toInt + 12 * (f_cloth 1).toInt + 240 * (f_cloth 2).toInt + 4800 * (f_cloth 3).toInt + 24000 * (f_cloth 4).toInt + 240000 * (f_cloth 5).toInt < i_a1 ∧ (u.1 0).toInt = (f_cloth 0).toInt ∧ (u.1 1).toInt = (f_cloth 1).toInt ∧ (u.1 2).toInt = (f_cloth 2).toInt ∧ (u.1 3).toInt = (f_cloth 3).toInt ∧ (u.1 4).toInt = (f_cloth 4).toInt ∧ (u.1 5).toInt = (f_cloth 5).toInt) ∨ ((1 ≤ i_a1 ∧ i_a1 ≤ 1000000) ∧ i_a1 ≤ (f_cloth 0).toInt + 12 * (f_cloth 1).toInt + 240 * (f_cloth 2).toInt + 4800 * (f_cloth 3).toInt + 24000 * (f_cloth 4).toInt + 240000 * (f_cloth 5).toInt ∧ TakI (f_cloth 0).toInt (f_cloth 1).toInt (f_cloth 2).toInt (f_cloth 3).toInt (f_cloth 4).toInt (f_cloth 5).toInt (u.1 0).toInt (u.1 1).toInt (u.1 2).toInt (u.1 3).toInt (u.1 4).toInt (u.1 5).toInt i_a1 r.toInt ∧ (0 ≤ (u.1 0).toInt ∧ (u.1 0).toInt ≤ 11) ∧ (0 ≤ (u.1 1).toInt ∧ (u.1 1).toInt ≤ 19) ∧ (0 ≤ (u.1 2).toInt ∧ (u.1 2).toInt ≤ 19) ∧ (0 ≤ (u.1 3).toInt ∧ (u.1 3).toInt ≤ 4) ∧ (0 ≤ (u.1 4).toInt ∧ (u.1 4).toInt ≤ 9)))) (fun u t => va_P D vwCl [(A_self, .inr (7, o7 q v w)), (q 55, .inl (c 1, 6, .inl u.1))] t.heap ∧ va_D A [(A_self, .inr (7, o7 q v w)), (q 55, .inl (c 1, 6, .inl u.1))]) A) ([.ref A_self, .int a1] : List Value).toArray s 0 0 A) (F0 m 30 ls []) := by
        intro L2 M_cloth hf30_1_0 hf30_1_1 hf30_1_2 hf30_1_3 hf30_1_4 hf30_1_5 hf30_1_6 hf30_1_7 hf30_1_8 H locs ls hP hD hS hl
        clear tv tw
        refine lv_iload_n hx hb dX7_take_30 rfl (lv_at hl 0 rfl) ?_
        refine lv_bipush (v := 6) hx hb dX7_take_31 (by decide) ?_
        refine iicmp_geF (a := 1) (b := 6) (tgt := 136) hx hb (by decide) (by decide) dX7_take_33 (by decide) (by decide) ?_
        refine lv_iload_n hx hb dX7_take_36 rfl (lv_at hl 2 rfl) ?_
        refine lv_iload_n hx hb dX7_take_37 rfl (lv_at hl 0 rfl) ?_
        have hPc := hP.sub (ws' := []) [] rfl
        have hDc := hD.sub (ws' := []) [] (by decide) rfl
        have hFc := va_free (wc := []) hD hS hA [] rfl
        have kzz_413 : (1 : Int32).toInt = 1 := by decide
        refine va_csi (va_runS (As := [.int a1, .int 1]) (rest := []) ⟨hx, hb, hml, hown, hts⟩ (k_X7_notch_P l D c ts H.size a1 i_a1 hi_a1 1 1 (by decide) (by omega) (by omega)) (cwS 2 hts gX7_take_X7_notch rfl rfl rfl ⟨rfl, hdX7_notch⟩ ⟨(show 1 + 1 ≤ 2 by decide), (show 8 + (2 + 11) + 20 ≤ 43 by decide)⟩) ⟨Pre0.blind, Pre0.at hPc hDc hAm hSt hS hFc⟩ rfl rfl hl.1 rfl (lv_room (Nat.le_of_ble_eq_true rfl)) dX7_take_38 ⟨(show 0 + 0 ≤ 0 by decide), (show 0 + 0 ≤ 0 by decide)⟩) (fun r_415 hw_414 => ?_)
        have nf_416 : r_415.toInt = n1 := (hw_414.2.2.1 rfl).trans hDg.2.1
        clear hw_414
        have rg_r_415 := i32r r_415
        refine lv_istore (lv' := [(4, .int r_415), (3, .int 1), (0, .ref A_self), (1, .int a1), (2, .int L2)]) hx hb dX7_take_41 hl (by decide) rfl (fun ls hl => ?_)
        refine lv_aload_n hx hb dX7_take_43 rfl (lv_at hl 2 rfl) ?_
        refine va_get (D := D) (ci := 7) (v := .ref (q 55)) (C := RX7) (T := TX7) (N := 56) hx hb hts (fun _ h => List.mem_cons_of_mem _ (List.mem_append_right _ h)) hown hK hP 0 rfl rfl 55 (by decide) (hts (.fieldLink RX7 118 "CrownTableModel" "cloth" "[I") (mem_i 2 rfl)) (fun _ h9 => h9) rfl dX7_take_44 ?_
        refine lv_iload_n hx hb dX7_take_47 rfl (lv_at hl 1 rfl) ?_
        refine va_iald hx hb hK hP 1 1 rfl rfl (vin (a := 1) (by decide) (by decide) (by decide)) dX7_take_48 ?_
        refine lv_topi (fun x_417 ex_417 => ?_)
        have lf_418 : (M_cloth 1).toInt = x_417.toInt := by rw [ex_417]; rfl
        refine lv_iload hx hb dX7_take_49 (lv_at hl 0 rfl) ?_
        refine iicmp_ge (a := x_417.toInt) (b := r_415.toInt) (tgt := 119) hx hb rfl rfl dX7_take_51 (by decide) (fun k_419 => ?_) (fun k_419 => ?_)
        · skip
          refine lv_aload_n hx hb dX7_take_119 rfl (lv_at hl 2 rfl) ?_
          refine va_get (D := D) (ci := 7) (v := .ref (q 55)) (C := RX7) (T := TX7) (N := 56) hx hb hts (fun _ h => List.mem_cons_of_mem _ (List.mem_append_right _ h)) hown hK hP 0 rfl rfl 55 (by decide) (hts (.fieldLink RX7 118 "CrownTableModel" "cloth" "[I") (mem_i 2 rfl)) (fun _ h9 => h9) rfl dX7_take_120 ?_
          refine lv_iload_n hx hb dX7_take_123 rfl (lv_at hl 1 rfl) ?_
          refine lv_dup2_11 hx hb dX7_take_124 rfl rfl ?_
          refine va_iald hx hb hK hP 1 1 rfl rfl (vin (a := 1) (by decide) (by decide) (by decide)) dX7_take_125 ?_
          refine lv_topi (fun x_420 ex_420 => ?_)
          have lf_421 : (M_cloth 1).toInt = x_420.toInt := by rw [ex_420]; rfl
          refine lv_iload hx hb dX7_take_126 (lv_at hl 0 rfl) ?_
          refine lv_isub hx hb dX7_take_128 ?_
          refine lv_topi (fun x_422 ex_422 => ?_)
          have tx_422 : x_422.toInt = (x_420.toInt - r_415.toInt) := by rw [ex_422]; exact sub_ti (a := x_420.toInt) (b := r_415.toInt) rfl rfl (by omega) (by omega)
          refine va_iast hx hb hK hP hD hS 1 1 rfl rfl (vin (a := 1) (by decide) (by decide) (by decide)) dX7_take_129 (fun H locs hP hD hS => ?_)
          obtain ⟨f_423, ef_423, hP, hD⟩ : ∃ f_423 : Nat → Int32, f_423 = upd M_cloth (1 : Int32).toNatClampNeg x_422 ∧ va_P D vwCl [(A_self, .inr (7, o7 q v w)), (q 55, .inl (c 1, 6, .inl f_423))] H ∧ va_D A [(A_self, .inr (7, o7 q v w)), (q 55, .inl (c 1, 6, .inl f_423))] := ⟨_, rfl, hP, hD⟩
          have cl_424 : (f_423 0).toInt = (M_cloth 0).toInt := by rw [ef_423]; rfl
          have cl_425 : (f_423 1).toInt = x_422.toInt := by rw [ef_423]; rfl
          have cl_426 : (f_423 2).toInt = (M_cloth 2).toInt := by rw [ef_423]; rfl
          have cl_427 : (f_423 3).toInt = (M_cloth 3).toInt := by rw [ef_423]; rfl
          have cl_428 : (f_423 4).toInt = (M_cloth 4).toInt := by rw [ef_423]; rfl
          have cl_429 : (f_423 5).toInt = (M_cloth 5).toInt := by rw [ef_423]; rfl
          refine lv_iinc (v := 2) (lv' := [(3, .int 2), (4, .int r_415), (0, .ref A_self), (1, .int a1), (2, .int L2)]) hx hb dX7_take_130 hl (k := 1) rfl (by decide) (by decide) rfl (fun ls hl => ?_)
          refine lv_goto (tgt := 30) hx hb dX7_take_133 (by decide) ?_
          obtain ⟨ts, td0, td1, td2, td3, td4, td5, tl⟩ := TkS.s1 (d0 := (f_423 0).toInt) (d1 := (f_423 1).toInt) (d2 := (f_423 2).toInt) (d3 := (f_423 3).toInt) (d4 := (f_423 4).toInt) (d5 := (f_423 5).toInt) hf30_1_2 (by omega) (by omega) (by omega) (by omega) (by omega) (by omega) (by omega)
          have hl := lv_sub hl [0, 2, 3, 4] rfl
          exact lp_30_2 L2 f_423 (by omega) (by omega) ts td0 td1 td2 td3 td4 td5 _ _ _ hP hD hS hl
        · skip
          refine lv_iload_n hx hb dX7_take_54 rfl (lv_at hl 1 rfl) ?_
          refine lv_iconst (v := 1) hx hb dX7_take_55 (by decide) ?_
          refine lv_iadd hx hb dX7_take_56 ?_
          refine lk_i (y := 2) (by decide) ?_
          refine lv_istore (lv' := [(5, .int 2), (4, .int r_415), (3, .int 1), (0, .ref A_self), (1, .int a1), (2, .int L2)]) hx hb dX7_take_57 hl (by decide) rfl (fun ls hl => ?_)
          refine lv_aload_n hx hb dX7_take_59 rfl (lv_at hl 3 rfl) ?_
          refine va_get (D := D) (ci := 7) (v := .ref (q 55)) (C := RX7) (T := TX7) (N := 56) hx hb hts (fun _ h => List.mem_cons_of_mem _ (List.mem_append_right _ h)) hown hK hP 0 rfl rfl 55 (by decide) (hts (.fieldLink RX7 118 "CrownTableModel" "cloth" "[I") (mem_i 2 rfl)) (fun _ h9 => h9) rfl dX7_take_60 ?_
          refine lv_iload hx hb dX7_take_63 (lv_at hl 0 rfl) ?_
          refine va_iald hx hb hK hP 1 1 rfl rfl (vin (a := 2) (by decide) (by decide) (by decide)) dX7_take_65 ?_
          refine lv_topi (fun x_430 ex_430 => ?_)
          have lf_431 : (M_cloth 2).toInt = x_430.toInt := by rw [ex_430]; rfl
          refine iif_ne (a := x_430.toInt) (tgt := 75) hx hb rfl dX7_take_66 (by decide) (fun k_432 => ?_) (fun k_432 => ?_)
          · skip
            refine lv_iload hx hb dX7_take_75 (lv_at hl 0 rfl) ?_
            refine lv_iload_n hx hb dX7_take_77 rfl (lv_at hl 2 rfl) ?_
            refine iicmp_leF (a := 2) (b := 1) (tgt := 116) hx hb (by decide) (by decide) dX7_take_78 (by decide) (by decide) ?_
            refine lv_aload_n hx hb dX7_take_81 rfl (lv_at hl 3 rfl) ?_
            refine va_get (D := D) (ci := 7) (v := .ref (q 55)) (C := RX7) (T := TX7) (N := 56) hx hb hts (fun _ h => List.mem_cons_of_mem _ (List.mem_append_right _ h)) hown hK hP 0 rfl rfl 55 (by decide) (hts (.fieldLink RX7 118 "CrownTableModel" "cloth" "[I") (mem_i 2 rfl)) (fun _ h9 => h9) rfl dX7_take_82 ?_
            refine lv_iload hx hb dX7_take_85 (lv_at hl 0 rfl) ?_
            refine lv_dup2_11 hx hb dX7_take_87 rfl rfl ?_
            refine va_iald hx hb hK hP 1 1 rfl rfl (vin (a := 2) (by decide) (by decide) (by decide)) dX7_take_88 ?_
            refine lv_topi (fun x_433 ex_433 => ?_)
            have lf_434 : (M_cloth 2).toInt = x_433.toInt := by rw [ex_433]; rfl
            refine lv_iconst (v := 1) hx hb dX7_take_89 (by decide) ?_
            refine lv_isub hx hb dX7_take_90 ?_
            refine lv_topi (fun x_435 ex_435 => ?_)
            have tx_435 : x_435.toInt = (x_433.toInt - 1) := by rw [ex_435]; exact sub_ti (a := x_433.toInt) (b := 1) rfl (by decide) (by omega) (by omega)
            refine va_iast hx hb hK hP hD hS 1 1 rfl rfl (vin (a := 2) (by decide) (by decide) (by decide)) dX7_take_91 (fun H locs hP hD hS => ?_)
            obtain ⟨f_436, ef_436, hP, hD⟩ : ∃ f_436 : Nat → Int32, f_436 = upd M_cloth (2 : Int32).toNatClampNeg x_435 ∧ va_P D vwCl [(A_self, .inr (7, o7 q v w)), (q 55, .inl (c 1, 6, .inl f_436))] H ∧ va_D A [(A_self, .inr (7, o7 q v w)), (q 55, .inl (c 1, 6, .inl f_436))] := ⟨_, rfl, hP, hD⟩
            have cl_437 : (f_436 0).toInt = (M_cloth 0).toInt := by rw [ef_436]; rfl
            have cl_438 : (f_436 1).toInt = (M_cloth 1).toInt := by rw [ef_436]; rfl
            have cl_439 : (f_436 2).toInt = x_435.toInt := by rw [ef_436]; rfl
            have cl_440 : (f_436 3).toInt = (M_cloth 3).toInt := by rw [ef_436]; rfl
            have cl_441 : (f_436 4).toInt = (M_cloth 4).toInt := by rw [ef_436]; rfl
            have cl_442 : (f_436 5).toInt = (M_cloth 5).toInt := by rw [ef_436]; rfl
            refine lv_iinc (v := 1) (lv' := [(5, .int 1), (4, .int r_415), (3, .int 1), (0, .ref A_self), (1, .int a1), (2, .int L2)]) hx hb dX7_take_92 hl (k := 0) rfl (by decide) (by decide) rfl (fun ls hl => ?_)
            refine lv_aload_n hx hb dX7_take_95 rfl (lv_at hl 3 rfl) ?_
            refine va_get (D := D) (ci := 7) (v := .ref (q 55)) (C := RX7) (T := TX7) (N := 56) hx hb hts (fun _ h => List.mem_cons_of_mem _ (List.mem_append_right _ h)) hown hK hP 0 rfl rfl 55 (by decide) (hts (.fieldLink RX7 118 "CrownTableModel" "cloth" "[I") (mem_i 2 rfl)) (fun _ h9 => h9) rfl dX7_take_96 ?_
            refine lv_iload hx hb dX7_take_99 (lv_at hl 0 rfl) ?_
            refine lv_dup2_11 hx hb dX7_take_101 rfl rfl ?_
            refine va_iald hx hb hK hP 1 1 rfl rfl (vin (a := 1) (by decide) (by decide) (by decide)) dX7_take_102 ?_
            refine lv_topi (fun x_443 ex_443 => ?_)
            have lf_444 : (f_436 1).toInt = x_443.toInt := by rw [ex_443]; rfl
            refine lv_iload hx hb dX7_take_103 (lv_at hl 0 rfl) ?_
            have hPc := hP.sub (ws' := []) [] rfl
            have hDc := hD.sub (ws' := []) [] (by decide) rfl
            have hFc := va_free (wc := []) hD hS hA [] rfl
            have kzz_445 : (1 : Int32).toInt = 1 := by decide
            refine va_csi (va_runS (As := [.int 1]) (rest := [.int x_443, .int 1, .ref (q 55)]) ⟨hx, hb, hml, hown, hts⟩ (k_X7_next l D c ts H.size 1 1 (by decide) (by omega)) (cwS 1 hts gX7_take_X7_next rfl rfl rfl ⟨rfl, hdX7_next⟩ ⟨(show 1 + 1 ≤ 2 by decide), (show 8 + (1 + 11) + 20 ≤ 43 by decide)⟩) ⟨Pre0.blind, Pre0.at hPc hDc hAm hSt hS hFc⟩ rfl rfl hl.1 rfl (lv_room (Nat.le_of_ble_eq_true rfl)) dX7_take_105 ⟨(show 0 + 0 ≤ 0 by decide), (show 0 + 0 ≤ 0 by decide)⟩) (fun r_447 hw_446 => ?_)
            rcases hw_446 with ⟨hw_446, rfl⟩ | ⟨hw_446, rfl⟩ | ⟨hw_446, rfl⟩ | ⟨hw_446, rfl⟩
            · exfalso; omega
            · skip
              refine lv_iadd hx hb dX7_take_108 ?_
              refine lv_topi (fun x_448 ex_448 => ?_)
              have tx_448 : x_448.toInt = (x_443.toInt + 20) := by rw [ex_448]; exact add_ti (a := x_443.toInt) (b := 20) rfl (by decide) (by omega) (by omega)
              refine va_iast hx hb hK hP hD hS 1 1 rfl rfl (vin (a := 1) (by decide) (by decide) (by decide)) dX7_take_109 (fun H locs hP hD hS => ?_)
              obtain ⟨f_449, ef_449, hP, hD⟩ : ∃ f_449 : Nat → Int32, f_449 = upd f_436 (1 : Int32).toNatClampNeg x_448 ∧ va_P D vwCl [(A_self, .inr (7, o7 q v w)), (q 55, .inl (c 1, 6, .inl f_449))] H ∧ va_D A [(A_self, .inr (7, o7 q v w)), (q 55, .inl (c 1, 6, .inl f_449))] := ⟨_, rfl, hP, hD⟩
              have cl_450 : (f_449 0).toInt = (f_436 0).toInt := by rw [ef_449]; rfl
              have cl_451 : (f_449 1).toInt = x_448.toInt := by rw [ef_449]; rfl
              have cl_452 : (f_449 2).toInt = (f_436 2).toInt := by rw [ef_449]; rfl
              have cl_453 : (f_449 3).toInt = (f_436 3).toInt := by rw [ef_449]; rfl
              have cl_454 : (f_449 4).toInt = (f_436 4).toInt := by rw [ef_449]; rfl
              have cl_455 : (f_449 5).toInt = (f_436 5).toInt := by rw [ef_449]; rfl
              obtain ⟨x_456, ex_456⟩ : ∃ y : Int32, y = L2 + 1 := ⟨_, rfl⟩
              have tx_456 : x_456.toInt = L2.toInt + 1 := by rw [ex_456]; exact add_ti (a := L2.toInt) (b := 1) rfl (by decide) (by omega) (by omega)
              refine lv_iinc (v := x_456) (lv' := [(2, .int x_456), (5, .int 1), (4, .int r_415), (3, .int 1), (0, .ref A_self), (1, .int a1)]) hx hb dX7_take_110 hl (k := 5) rfl (by rw [ex_456]; rfl) (by decide) rfl (fun ls hl => ?_)
              refine lv_goto (tgt := 75) hx hb dX7_take_113 (by decide) ?_
              refine lv_iload hx hb dX7_take_75 (lv_at hl 1 rfl) ?_
              refine lv_iload_n hx hb dX7_take_77 rfl (lv_at hl 3 rfl) ?_
              refine iicmp_leT (a := 1) (b := 1) (tgt := 116) hx hb (by decide) (by decide) dX7_take_78 (by decide) (by decide) ?_
              refine lv_goto (tgt := 43) hx hb dX7_take_116 (by decide) ?_
              refine lv_aload_n hx hb dX7_take_43 rfl (lv_at hl 4 rfl) ?_
              refine va_get (D := D) (ci := 7) (v := .ref (q 55)) (C := RX7) (T := TX7) (N := 56) hx hb hts (fun _ h => List.mem_cons_of_mem _ (List.mem_append_right _ h)) hown hK hP 0 rfl rfl 55 (by decide) (hts (.fieldLink RX7 118 "CrownTableModel" "cloth" "[I") (mem_i 2 rfl)) (fun _ h9 => h9) rfl dX7_take_44 ?_
              refine lv_iload_n hx hb dX7_take_47 rfl (lv_at hl 3 rfl) ?_
              refine va_iald hx hb hK hP 1 1 rfl rfl (vin (a := 1) (by decide) (by decide) (by decide)) dX7_take_48 ?_
              refine lv_topi (fun x_457 ex_457 => ?_)
              have lf_458 : (f_449 1).toInt = x_457.toInt := by rw [ex_457]; rfl
              refine lv_iload hx hb dX7_take_49 (lv_at hl 2 rfl) ?_
              refine iicmp_ge (a := x_457.toInt) (b := r_415.toInt) (tgt := 119) hx hb rfl rfl dX7_take_51 (by decide) (fun k_459 => ?_) (fun k_459 => ?_)
              · skip
                refine lv_aload_n hx hb dX7_take_119 rfl (lv_at hl 4 rfl) ?_
                refine va_get (D := D) (ci := 7) (v := .ref (q 55)) (C := RX7) (T := TX7) (N := 56) hx hb hts (fun _ h => List.mem_cons_of_mem _ (List.mem_append_right _ h)) hown hK hP 0 rfl rfl 55 (by decide) (hts (.fieldLink RX7 118 "CrownTableModel" "cloth" "[I") (mem_i 2 rfl)) (fun _ h9 => h9) rfl dX7_take_120 ?_
                refine lv_iload_n hx hb dX7_take_123 rfl (lv_at hl 3 rfl) ?_
                refine lv_dup2_11 hx hb dX7_take_124 rfl rfl ?_
                refine va_iald hx hb hK hP 1 1 rfl rfl (vin (a := 1) (by decide) (by decide) (by decide)) dX7_take_125 ?_
                refine lv_topi (fun x_460 ex_460 => ?_)
                have lf_461 : (f_449 1).toInt = x_460.toInt := by rw [ex_460]; rfl
                refine lv_iload hx hb dX7_take_126 (lv_at hl 2 rfl) ?_
                refine lv_isub hx hb dX7_take_128 ?_
                refine lv_topi (fun x_462 ex_462 => ?_)
                have tx_462 : x_462.toInt = (x_460.toInt - r_415.toInt) := by rw [ex_462]; exact sub_ti (a := x_460.toInt) (b := r_415.toInt) rfl rfl (by omega) (by omega)
                refine va_iast hx hb hK hP hD hS 1 1 rfl rfl (vin (a := 1) (by decide) (by decide) (by decide)) dX7_take_129 (fun H locs hP hD hS => ?_)
                obtain ⟨f_463, ef_463, hP, hD⟩ : ∃ f_463 : Nat → Int32, f_463 = upd f_449 (1 : Int32).toNatClampNeg x_462 ∧ va_P D vwCl [(A_self, .inr (7, o7 q v w)), (q 55, .inl (c 1, 6, .inl f_463))] H ∧ va_D A [(A_self, .inr (7, o7 q v w)), (q 55, .inl (c 1, 6, .inl f_463))] := ⟨_, rfl, hP, hD⟩
                have cl_464 : (f_463 0).toInt = (f_449 0).toInt := by rw [ef_463]; rfl
                have cl_465 : (f_463 1).toInt = x_462.toInt := by rw [ef_463]; rfl
                have cl_466 : (f_463 2).toInt = (f_449 2).toInt := by rw [ef_463]; rfl
                have cl_467 : (f_463 3).toInt = (f_449 3).toInt := by rw [ef_463]; rfl
                have cl_468 : (f_463 4).toInt = (f_449 4).toInt := by rw [ef_463]; rfl
                have cl_469 : (f_463 5).toInt = (f_449 5).toInt := by rw [ef_463]; rfl
                refine lv_iinc (v := 2) (lv' := [(3, .int 2), (2, .int x_456), (5, .int 1), (4, .int r_415), (0, .ref A_self), (1, .int a1)]) hx hb dX7_take_130 hl (k := 3) rfl (by decide) (by decide) rfl (fun ls hl => ?_)
                refine lv_goto (tgt := 30) hx hb dX7_take_133 (by decide) ?_
                obtain ⟨ts, td0, td1, td2, td3, td4, td5, tl⟩ := TkS.b1_2 (d0 := (f_463 0).toInt) (d1 := (f_463 1).toInt) (d2 := (f_463 2).toInt) (d3 := (f_463 3).toInt) (d4 := (f_463 4).toInt) (d5 := (f_463 5).toInt) (L1 := x_456.toInt) hf30_1_2 (by omega) (by omega) (by omega) (by omega) (by omega) (by omega) (by omega) (by omega) (by omega)
                have hl := lv_sub hl [0, 4, 5, 1] rfl
                exact lp_30_2 x_456 f_463 (by omega) (by omega) ts td0 td1 td2 td3 td4 td5 _ _ _ hP hD hS hl
              · skip
                exfalso; omega
            · exfalso; omega
            · exfalso; omega
          · skip
            refine lv_iinc (v := 3) (lv' := [(5, .int 3), (4, .int r_415), (3, .int 1), (0, .ref A_self), (1, .int a1), (2, .int L2)]) hx hb dX7_take_69 hl (k := 0) rfl (by decide) (by decide) rfl (fun ls hl => ?_)
            refine lv_goto (tgt := 59) hx hb dX7_take_72 (by decide) ?_
            refine lv_aload_n hx hb dX7_take_59 rfl (lv_at hl 3 rfl) ?_
            refine va_get (D := D) (ci := 7) (v := .ref (q 55)) (C := RX7) (T := TX7) (N := 56) hx hb hts (fun _ h => List.mem_cons_of_mem _ (List.mem_append_right _ h)) hown hK hP 0 rfl rfl 55 (by decide) (hts (.fieldLink RX7 118 "CrownTableModel" "cloth" "[I") (mem_i 2 rfl)) (fun _ h9 => h9) rfl dX7_take_60 ?_
            refine lv_iload hx hb dX7_take_63 (lv_at hl 0 rfl) ?_
            refine va_iald hx hb hK hP 1 1 rfl rfl (vin (a := 3) (by decide) (by decide) (by decide)) dX7_take_65 ?_
            refine lv_topi (fun x_470 ex_470 => ?_)
            have lf_471 : (M_cloth 3).toInt = x_470.toInt := by rw [ex_470]; rfl
            refine iif_ne (a := x_470.toInt) (tgt := 75) hx hb rfl dX7_take_66 (by decide) (fun k_472 => ?_) (fun k_472 => ?_)
            · skip
              refine lv_iload hx hb dX7_take_75 (lv_at hl 0 rfl) ?_
              refine lv_iload_n hx hb dX7_take_77 rfl (lv_at hl 2 rfl) ?_
              refine iicmp_leF (a := 3) (b := 1) (tgt := 116) hx hb (by decide) (by decide) dX7_take_78 (by decide) (by decide) ?_
              refine lv_aload_n hx hb dX7_take_81 rfl (lv_at hl 3 rfl) ?_
              refine va_get (D := D) (ci := 7) (v := .ref (q 55)) (C := RX7) (T := TX7) (N := 56) hx hb hts (fun _ h => List.mem_cons_of_mem _ (List.mem_append_right _ h)) hown hK hP 0 rfl rfl 55 (by decide) (hts (.fieldLink RX7 118 "CrownTableModel" "cloth" "[I") (mem_i 2 rfl)) (fun _ h9 => h9) rfl dX7_take_82 ?_
              refine lv_iload hx hb dX7_take_85 (lv_at hl 0 rfl) ?_
              refine lv_dup2_11 hx hb dX7_take_87 rfl rfl ?_
              refine va_iald hx hb hK hP 1 1 rfl rfl (vin (a := 3) (by decide) (by decide) (by decide)) dX7_take_88 ?_
              refine lv_topi (fun x_473 ex_473 => ?_)
              have lf_474 : (M_cloth 3).toInt = x_473.toInt := by rw [ex_473]; rfl
              refine lv_iconst (v := 1) hx hb dX7_take_89 (by decide) ?_
              refine lv_isub hx hb dX7_take_90 ?_
              refine lv_topi (fun x_475 ex_475 => ?_)
              have tx_475 : x_475.toInt = (x_473.toInt - 1) := by rw [ex_475]; exact sub_ti (a := x_473.toInt) (b := 1) rfl (by decide) (by omega) (by omega)
              refine va_iast hx hb hK hP hD hS 1 1 rfl rfl (vin (a := 3) (by decide) (by decide) (by decide)) dX7_take_91 (fun H locs hP hD hS => ?_)
              obtain ⟨f_476, ef_476, hP, hD⟩ : ∃ f_476 : Nat → Int32, f_476 = upd M_cloth (3 : Int32).toNatClampNeg x_475 ∧ va_P D vwCl [(A_self, .inr (7, o7 q v w)), (q 55, .inl (c 1, 6, .inl f_476))] H ∧ va_D A [(A_self, .inr (7, o7 q v w)), (q 55, .inl (c 1, 6, .inl f_476))] := ⟨_, rfl, hP, hD⟩
              have cl_477 : (f_476 0).toInt = (M_cloth 0).toInt := by rw [ef_476]; rfl
              have cl_478 : (f_476 1).toInt = (M_cloth 1).toInt := by rw [ef_476]; rfl
              have cl_479 : (f_476 2).toInt = (M_cloth 2).toInt := by rw [ef_476]; rfl
              have cl_480 : (f_476 3).toInt = x_475.toInt := by rw [ef_476]; rfl
              have cl_481 : (f_476 4).toInt = (M_cloth 4).toInt := by rw [ef_476]; rfl
              have cl_482 : (f_476 5).toInt = (M_cloth 5).toInt := by rw [ef_476]; rfl
              refine lv_iinc (v := 2) (lv' := [(5, .int 2), (4, .int r_415), (3, .int 1), (0, .ref A_self), (1, .int a1), (2, .int L2)]) hx hb dX7_take_92 hl (k := 0) rfl (by decide) (by decide) rfl (fun ls hl => ?_)
              refine lv_aload_n hx hb dX7_take_95 rfl (lv_at hl 3 rfl) ?_
              refine va_get (D := D) (ci := 7) (v := .ref (q 55)) (C := RX7) (T := TX7) (N := 56) hx hb hts (fun _ h => List.mem_cons_of_mem _ (List.mem_append_right _ h)) hown hK hP 0 rfl rfl 55 (by decide) (hts (.fieldLink RX7 118 "CrownTableModel" "cloth" "[I") (mem_i 2 rfl)) (fun _ h9 => h9) rfl dX7_take_96 ?_
              refine lv_iload hx hb dX7_take_99 (lv_at hl 0 rfl) ?_
              refine lv_dup2_11 hx hb dX7_take_101 rfl rfl ?_
              refine va_iald hx hb hK hP 1 1 rfl rfl (vin (a := 2) (by decide) (by decide) (by decide)) dX7_take_102 ?_
              refine lv_topi (fun x_483 ex_483 => ?_)
              have lf_484 : (f_476 2).toInt = x_483.toInt := by rw [ex_483]; rfl
              refine lv_iload hx hb dX7_take_103 (lv_at hl 0 rfl) ?_
              have hPc := hP.sub (ws' := []) [] rfl
              have hDc := hD.sub (ws' := []) [] (by decide) rfl
              have hFc := va_free (wc := []) hD hS hA [] rfl
              have kzz_485 : (2 : Int32).toInt = 2 := by decide
              refine va_csi (va_runS (As := [.int 2]) (rest := [.int x_483, .int 2, .ref (q 55)]) ⟨hx, hb, hml, hown, hts⟩ (k_X7_next l D c ts H.size 2 2 (by decide) (by omega)) (cwS 1 hts gX7_take_X7_next rfl rfl rfl ⟨rfl, hdX7_next⟩ ⟨(show 1 + 1 ≤ 2 by decide), (show 8 + (1 + 11) + 20 ≤ 43 by decide)⟩) ⟨Pre0.blind, Pre0.at hPc hDc hAm hSt hS hFc⟩ rfl rfl hl.1 rfl (lv_room (Nat.le_of_ble_eq_true rfl)) dX7_take_105 ⟨(show 0 + 0 ≤ 0 by decide), (show 0 + 0 ≤ 0 by decide)⟩) (fun r_487 hw_486 => ?_)
              rcases hw_486 with ⟨hw_486, rfl⟩ | ⟨hw_486, rfl⟩ | ⟨hw_486, rfl⟩ | ⟨hw_486, rfl⟩
              · exfalso; omega
              · skip
                refine lv_iadd hx hb dX7_take_108 ?_
                refine lv_topi (fun x_488 ex_488 => ?_)
                have tx_488 : x_488.toInt = (x_483.toInt + 20) := by rw [ex_488]; exact add_ti (a := x_483.toInt) (b := 20) rfl (by decide) (by omega) (by omega)
                refine va_iast hx hb hK hP hD hS 1 1 rfl rfl (vin (a := 2) (by decide) (by decide) (by decide)) dX7_take_109 (fun H locs hP hD hS => ?_)
                obtain ⟨f_489, ef_489, hP, hD⟩ : ∃ f_489 : Nat → Int32, f_489 = upd f_476 (2 : Int32).toNatClampNeg x_488 ∧ va_P D vwCl [(A_self, .inr (7, o7 q v w)), (q 55, .inl (c 1, 6, .inl f_489))] H ∧ va_D A [(A_self, .inr (7, o7 q v w)), (q 55, .inl (c 1, 6, .inl f_489))] := ⟨_, rfl, hP, hD⟩
                have cl_490 : (f_489 0).toInt = (f_476 0).toInt := by rw [ef_489]; rfl
                have cl_491 : (f_489 1).toInt = (f_476 1).toInt := by rw [ef_489]; rfl
                have cl_492 : (f_489 2).toInt = x_488.toInt := by rw [ef_489]; rfl
                have cl_493 : (f_489 3).toInt = (f_476 3).toInt := by rw [ef_489]; rfl
                have cl_494 : (f_489 4).toInt = (f_476 4).toInt := by rw [ef_489]; rfl
                have cl_495 : (f_489 5).toInt = (f_476 5).toInt := by rw [ef_489]; rfl
                obtain ⟨x_496, ex_496⟩ : ∃ y : Int32, y = L2 + 1 := ⟨_, rfl⟩
                have tx_496 : x_496.toInt = L2.toInt + 1 := by rw [ex_496]; exact add_ti (a := L2.toInt) (b := 1) rfl (by decide) (by omega) (by omega)
                refine lv_iinc (v := x_496) (lv' := [(2, .int x_496), (5, .int 2), (4, .int r_415), (3, .int 1), (0, .ref A_self), (1, .int a1)]) hx hb dX7_take_110 hl (k := 5) rfl (by rw [ex_496]; rfl) (by decide) rfl (fun ls hl => ?_)
                refine lv_goto (tgt := 75) hx hb dX7_take_113 (by decide) ?_
                refine lv_iload hx hb dX7_take_75 (lv_at hl 1 rfl) ?_
                refine lv_iload_n hx hb dX7_take_77 rfl (lv_at hl 3 rfl) ?_
                refine iicmp_leF (a := 2) (b := 1) (tgt := 116) hx hb (by decide) (by decide) dX7_take_78 (by decide) (by decide) ?_
                refine lv_aload_n hx hb dX7_take_81 rfl (lv_at hl 4 rfl) ?_
                refine va_get (D := D) (ci := 7) (v := .ref (q 55)) (C := RX7) (T := TX7) (N := 56) hx hb hts (fun _ h => List.mem_cons_of_mem _ (List.mem_append_right _ h)) hown hK hP 0 rfl rfl 55 (by decide) (hts (.fieldLink RX7 118 "CrownTableModel" "cloth" "[I") (mem_i 2 rfl)) (fun _ h9 => h9) rfl dX7_take_82 ?_
                refine lv_iload hx hb dX7_take_85 (lv_at hl 1 rfl) ?_
                refine lv_dup2_11 hx hb dX7_take_87 rfl rfl ?_
                refine va_iald hx hb hK hP 1 1 rfl rfl (vin (a := 2) (by decide) (by decide) (by decide)) dX7_take_88 ?_
                refine lv_topi (fun x_497 ex_497 => ?_)
                have lf_498 : (f_489 2).toInt = x_497.toInt := by rw [ex_497]; rfl
                refine lv_iconst (v := 1) hx hb dX7_take_89 (by decide) ?_
                refine lv_isub hx hb dX7_take_90 ?_
                refine lv_topi (fun x_499 ex_499 => ?_)
                have tx_499 : x_499.toInt = (x_497.toInt - 1) := by rw [ex_499]; exact sub_ti (a := x_497.toInt) (b := 1) rfl (by decide) (by omega) (by omega)
                refine va_iast hx hb hK hP hD hS 1 1 rfl rfl (vin (a := 2) (by decide) (by decide) (by decide)) dX7_take_91 (fun H locs hP hD hS => ?_)
                obtain ⟨f_500, ef_500, hP, hD⟩ : ∃ f_500 : Nat → Int32, f_500 = upd f_489 (2 : Int32).toNatClampNeg x_499 ∧ va_P D vwCl [(A_self, .inr (7, o7 q v w)), (q 55, .inl (c 1, 6, .inl f_500))] H ∧ va_D A [(A_self, .inr (7, o7 q v w)), (q 55, .inl (c 1, 6, .inl f_500))] := ⟨_, rfl, hP, hD⟩
                have cl_501 : (f_500 0).toInt = (f_489 0).toInt := by rw [ef_500]; rfl
                have cl_502 : (f_500 1).toInt = (f_489 1).toInt := by rw [ef_500]; rfl
                have cl_503 : (f_500 2).toInt = x_499.toInt := by rw [ef_500]; rfl
                have cl_504 : (f_500 3).toInt = (f_489 3).toInt := by rw [ef_500]; rfl
                have cl_505 : (f_500 4).toInt = (f_489 4).toInt := by rw [ef_500]; rfl
                have cl_506 : (f_500 5).toInt = (f_489 5).toInt := by rw [ef_500]; rfl
                refine lv_iinc (v := 1) (lv' := [(5, .int 1), (2, .int x_496), (4, .int r_415), (3, .int 1), (0, .ref A_self), (1, .int a1)]) hx hb dX7_take_92 hl (k := 1) rfl (by decide) (by decide) rfl (fun ls hl => ?_)
                refine lv_aload_n hx hb dX7_take_95 rfl (lv_at hl 4 rfl) ?_
                refine va_get (D := D) (ci := 7) (v := .ref (q 55)) (C := RX7) (T := TX7) (N := 56) hx hb hts (fun _ h => List.mem_cons_of_mem _ (List.mem_append_right _ h)) hown hK hP 0 rfl rfl 55 (by decide) (hts (.fieldLink RX7 118 "CrownTableModel" "cloth" "[I") (mem_i 2 rfl)) (fun _ h9 => h9) rfl dX7_take_96 ?_
                refine lv_iload hx hb dX7_take_99 (lv_at hl 0 rfl) ?_
                refine lv_dup2_11 hx hb dX7_take_101 rfl rfl ?_
                refine va_iald hx hb hK hP 1 1 rfl rfl (vin (a := 1) (by decide) (by decide) (by decide)) dX7_take_102 ?_
                refine lv_topi (fun x_507 ex_507 => ?_)
                have lf_508 : (f_500 1).toInt = x_507.toInt := by rw [ex_507]; rfl
                refine lv_iload hx hb dX7_take_103 (lv_at hl 0 rfl) ?_
                have hPc := hP.sub (ws' := []) [] rfl
                have hDc := hD.sub (ws' := []) [] (by decide) rfl
                have hFc := va_free (wc := []) hD hS hA [] rfl
                have kzz_509 : (1 : Int32).toInt = 1 := by decide
                refine va_csi (va_runS (As := [.int 1]) (rest := [.int x_507, .int 1, .ref (q 55)]) ⟨hx, hb, hml, hown, hts⟩ (k_X7_next l D c ts H.size 1 1 (by decide) (by omega)) (cwS 1 hts gX7_take_X7_next rfl rfl rfl ⟨rfl, hdX7_next⟩ ⟨(show 1 + 1 ≤ 2 by decide), (show 8 + (1 + 11) + 20 ≤ 43 by decide)⟩) ⟨Pre0.blind, Pre0.at hPc hDc hAm hSt hS hFc⟩ rfl rfl hl.1 rfl (lv_room (Nat.le_of_ble_eq_true rfl)) dX7_take_105 ⟨(show 0 + 0 ≤ 0 by decide), (show 0 + 0 ≤ 0 by decide)⟩) (fun r_511 hw_510 => ?_)
                rcases hw_510 with ⟨hw_510, rfl⟩ | ⟨hw_510, rfl⟩ | ⟨hw_510, rfl⟩ | ⟨hw_510, rfl⟩
                · exfalso; omega
                · skip
                  refine lv_iadd hx hb dX7_take_108 ?_
                  refine lv_topi (fun x_512 ex_512 => ?_)
                  have tx_512 : x_512.toInt = (x_507.toInt + 20) := by rw [ex_512]; exact add_ti (a := x_507.toInt) (b := 20) rfl (by decide) (by omega) (by omega)
                  refine va_iast hx hb hK hP hD hS 1 1 rfl rfl (vin (a := 1) (by decide) (by decide) (by decide)) dX7_take_109 (fun H locs hP hD hS => ?_)
                  obtain ⟨f_513, ef_513, hP, hD⟩ : ∃ f_513 : Nat → Int32, f_513 = upd f_500 (1 : Int32).toNatClampNeg x_512 ∧ va_P D vwCl [(A_self, .inr (7, o7 q v w)), (q 55, .inl (c 1, 6, .inl f_513))] H ∧ va_D A [(A_self, .inr (7, o7 q v w)), (q 55, .inl (c 1, 6, .inl f_513))] := ⟨_, rfl, hP, hD⟩
                  have cl_514 : (f_513 0).toInt = (f_500 0).toInt := by rw [ef_513]; rfl
                  have cl_515 : (f_513 1).toInt = x_512.toInt := by rw [ef_513]; rfl
                  have cl_516 : (f_513 2).toInt = (f_500 2).toInt := by rw [ef_513]; rfl
                  have cl_517 : (f_513 3).toInt = (f_500 3).toInt := by rw [ef_513]; rfl
                  have cl_518 : (f_513 4).toInt = (f_500 4).toInt := by rw [ef_513]; rfl
                  have cl_519 : (f_513 5).toInt = (f_500 5).toInt := by rw [ef_513]; rfl
                  obtain ⟨x_520, ex_520⟩ : ∃ y : Int32, y = x_496 + 1 := ⟨_, rfl⟩
                  have tx_520 : x_520.toInt = x_496.toInt + 1 := by rw [ex_520]; exact add_ti (a := x_496.toInt) (b := 1) rfl (by decide) (by omega) (by omega)
                  refine lv_iinc (v := x_520) (lv' := [(2, .int x_520), (5, .int 1), (4, .int r_415), (3, .int 1), (0, .ref A_self), (1, .int a1)]) hx hb dX7_take_110 hl (k := 1) rfl (by rw [ex_520]; rfl) (by decide) rfl (fun ls hl => ?_)
                  refine lv_goto (tgt := 75) hx hb dX7_take_113 (by decide) ?_
                  refine lv_iload hx hb dX7_take_75 (lv_at hl 1 rfl) ?_
                  refine lv_iload_n hx hb dX7_take_77 rfl (lv_at hl 3 rfl) ?_
                  refine iicmp_leT (a := 1) (b := 1) (tgt := 116) hx hb (by decide) (by decide) dX7_take_78 (by decide) (by decide) ?_
                  refine lv_goto (tgt := 43) hx hb dX7_take_116 (by decide) ?_
                  refine lv_aload_n hx hb dX7_take_43 rfl (lv_at hl 4 rfl) ?_
                  refine va_get (D := D) (ci := 7) (v := .ref (q 55)) (C := RX7) (T := TX7) (N := 56) hx hb hts (fun _ h => List.mem_cons_of_mem _ (List.mem_append_right _ h)) hown hK hP 0 rfl rfl 55 (by decide) (hts (.fieldLink RX7 118 "CrownTableModel" "cloth" "[I") (mem_i 2 rfl)) (fun _ h9 => h9) rfl dX7_take_44 ?_
                  refine lv_iload_n hx hb dX7_take_47 rfl (lv_at hl 3 rfl) ?_
                  refine va_iald hx hb hK hP 1 1 rfl rfl (vin (a := 1) (by decide) (by decide) (by decide)) dX7_take_48 ?_
                  refine lv_topi (fun x_521 ex_521 => ?_)
                  have lf_522 : (f_513 1).toInt = x_521.toInt := by rw [ex_521]; rfl
                  refine lv_iload hx hb dX7_take_49 (lv_at hl 2 rfl) ?_
                  refine iicmp_ge (a := x_521.toInt) (b := r_415.toInt) (tgt := 119) hx hb rfl rfl dX7_take_51 (by decide) (fun k_523 => ?_) (fun k_523 => ?_)
                  · skip
                    refine lv_aload_n hx hb dX7_take_119 rfl (lv_at hl 4 rfl) ?_
                    refine va_get (D := D) (ci := 7) (v := .ref (q 55)) (C := RX7) (T := TX7) (N := 56) hx hb hts (fun _ h => List.mem_cons_of_mem _ (List.mem_append_right _ h)) hown hK hP 0 rfl rfl 55 (by decide) (hts (.fieldLink RX7 118 "CrownTableModel" "cloth" "[I") (mem_i 2 rfl)) (fun _ h9 => h9) rfl dX7_take_120 ?_
                    refine lv_iload_n hx hb dX7_take_123 rfl (lv_at hl 3 rfl) ?_
                    refine lv_dup2_11 hx hb dX7_take_124 rfl rfl ?_
                    refine va_iald hx hb hK hP 1 1 rfl rfl (vin (a := 1) (by decide) (by decide) (by decide)) dX7_take_125 ?_
                    refine lv_topi (fun x_524 ex_524 => ?_)
                    have lf_525 : (f_513 1).toInt = x_524.toInt := by rw [ex_524]; rfl
                    refine lv_iload hx hb dX7_take_126 (lv_at hl 2 rfl) ?_
                    refine lv_isub hx hb dX7_take_128 ?_
                    refine lv_topi (fun x_526 ex_526 => ?_)
                    have tx_526 : x_526.toInt = (x_524.toInt - r_415.toInt) := by rw [ex_526]; exact sub_ti (a := x_524.toInt) (b := r_415.toInt) rfl rfl (by omega) (by omega)
                    refine va_iast hx hb hK hP hD hS 1 1 rfl rfl (vin (a := 1) (by decide) (by decide) (by decide)) dX7_take_129 (fun H locs hP hD hS => ?_)
                    obtain ⟨f_527, ef_527, hP, hD⟩ : ∃ f_527 : Nat → Int32, f_527 = upd f_513 (1 : Int32).toNatClampNeg x_526 ∧ va_P D vwCl [(A_self, .inr (7, o7 q v w)), (q 55, .inl (c 1, 6, .inl f_527))] H ∧ va_D A [(A_self, .inr (7, o7 q v w)), (q 55, .inl (c 1, 6, .inl f_527))] := ⟨_, rfl, hP, hD⟩
                    have cl_528 : (f_527 0).toInt = (f_513 0).toInt := by rw [ef_527]; rfl
                    have cl_529 : (f_527 1).toInt = x_526.toInt := by rw [ef_527]; rfl
                    have cl_530 : (f_527 2).toInt = (f_513 2).toInt := by rw [ef_527]; rfl
                    have cl_531 : (f_527 3).toInt = (f_513 3).toInt := by rw [ef_527]; rfl
                    have cl_532 : (f_527 4).toInt = (f_513 4).toInt := by rw [ef_527]; rfl
                    have cl_533 : (f_527 5).toInt = (f_513 5).toInt := by rw [ef_527]; rfl
                    refine lv_iinc (v := 2) (lv' := [(3, .int 2), (2, .int x_520), (5, .int 1), (4, .int r_415), (0, .ref A_self), (1, .int a1)]) hx hb dX7_take_130 hl (k := 3) rfl (by decide) (by decide) rfl (fun ls hl => ?_)
                    refine lv_goto (tgt := 30) hx hb dX7_take_133 (by decide) ?_
                    obtain ⟨ts, td0, td1, td2, td3, td4, td5, tl⟩ := TkS.b1_3 (d0 := (f_527 0).toInt) (d1 := (f_527 1).toInt) (d2 := (f_527 2).toInt) (d3 := (f_527 3).toInt) (d4 := (f_527 4).toInt) (d5 := (f_527 5).toInt) (L1 := x_520.toInt) hf30_1_2 (by omega) (by omega) (by omega) (by omega) (by omega) (by omega) (by omega) (by omega) (by omega) (by omega)
                    have hl := lv_sub hl [0, 4, 5, 1] rfl
                    exact lp_30_2 x_520 f_527 (by omega) (by omega) ts td0 td1 td2 td3 td4 td5 _ _ _ hP hD hS hl
                  · skip
                    exfalso; omega
                · exfalso; omega
                · exfalso; omega
              · exfalso; omega
              · exfalso; omega
            · skip
              refine lv_iinc (v := 4) (lv' := [(5, .int 4), (4, .int r_415), (3, .int 1), (0, .ref A_self), (1, .int a1), (2, .int L2)]) hx hb dX7_take_69 hl (k := 0) rfl (by decide) (by decide) rfl (fun ls hl => ?_)
              refine lv_goto (tgt := 59) hx hb dX7_take_72 (by decide) ?_
              refine lv_aload_n hx hb dX7_take_59 rfl (lv_at hl 3 rfl) ?_
              refine va_get (D := D) (ci := 7) (v := .ref (q 55)) (C := RX7) (T := TX7) (N := 56) hx hb hts (fun _ h => List.mem_cons_of_mem _ (List.mem_append_right _ h)) hown hK hP 0 rfl rfl 55 (by decide) (hts (.fieldLink RX7 118 "CrownTableModel" "cloth" "[I") (mem_i 2 rfl)) (fun _ h9 => h9) rfl dX7_take_60 ?_
              refine lv_iload hx hb dX7_take_63 (lv_at hl 0 rfl) ?_
              refine va_iald hx hb hK hP 1 1 rfl rfl (vin (a := 4) (by decide) (by decide) (by decide)) dX7_take_65 ?_
              refine lv_topi (fun x_534 ex_534 => ?_)
              have lf_535 : (M_cloth 4).toInt = x_534.toInt := by rw [ex_534]; rfl
              refine iif_ne (a := x_534.toInt) (tgt := 75) hx hb rfl dX7_take_66 (by decide) (fun k_536 => ?_) (fun k_536 => ?_)
              · skip
                refine lv_iload hx hb dX7_take_75 (lv_at hl 0 rfl) ?_
                refine lv_iload_n hx hb dX7_take_77 rfl (lv_at hl 2 rfl) ?_
                refine iicmp_leF (a := 4) (b := 1) (tgt := 116) hx hb (by decide) (by decide) dX7_take_78 (by decide) (by decide) ?_
                refine lv_aload_n hx hb dX7_take_81 rfl (lv_at hl 3 rfl) ?_
                refine va_get (D := D) (ci := 7) (v := .ref (q 55)) (C := RX7) (T := TX7) (N := 56) hx hb hts (fun _ h => List.mem_cons_of_mem _ (List.mem_append_right _ h)) hown hK hP 0 rfl rfl 55 (by decide) (hts (.fieldLink RX7 118 "CrownTableModel" "cloth" "[I") (mem_i 2 rfl)) (fun _ h9 => h9) rfl dX7_take_82 ?_
                refine lv_iload hx hb dX7_take_85 (lv_at hl 0 rfl) ?_
                refine lv_dup2_11 hx hb dX7_take_87 rfl rfl ?_
                refine va_iald hx hb hK hP 1 1 rfl rfl (vin (a := 4) (by decide) (by decide) (by decide)) dX7_take_88 ?_
                refine lv_topi (fun x_537 ex_537 => ?_)
                have lf_538 : (M_cloth 4).toInt = x_537.toInt := by rw [ex_537]; rfl
                refine lv_iconst (v := 1) hx hb dX7_take_89 (by decide) ?_
                refine lv_isub hx hb dX7_take_90 ?_
                refine lv_topi (fun x_539 ex_539 => ?_)
                have tx_539 : x_539.toInt = (x_537.toInt - 1) := by rw [ex_539]; exact sub_ti (a := x_537.toInt) (b := 1) rfl (by decide) (by omega) (by omega)
                refine va_iast hx hb hK hP hD hS 1 1 rfl rfl (vin (a := 4) (by decide) (by decide) (by decide)) dX7_take_91 (fun H locs hP hD hS => ?_)
                obtain ⟨f_540, ef_540, hP, hD⟩ : ∃ f_540 : Nat → Int32, f_540 = upd M_cloth (4 : Int32).toNatClampNeg x_539 ∧ va_P D vwCl [(A_self, .inr (7, o7 q v w)), (q 55, .inl (c 1, 6, .inl f_540))] H ∧ va_D A [(A_self, .inr (7, o7 q v w)), (q 55, .inl (c 1, 6, .inl f_540))] := ⟨_, rfl, hP, hD⟩
                have cl_541 : (f_540 0).toInt = (M_cloth 0).toInt := by rw [ef_540]; rfl
                have cl_542 : (f_540 1).toInt = (M_cloth 1).toInt := by rw [ef_540]; rfl
                have cl_543 : (f_540 2).toInt = (M_cloth 2).toInt := by rw [ef_540]; rfl
                have cl_544 : (f_540 3).toInt = (M_cloth 3).toInt := by rw [ef_540]; rfl
                have cl_545 : (f_540 4).toInt = x_539.toInt := by rw [ef_540]; rfl
                have cl_546 : (f_540 5).toInt = (M_cloth 5).toInt := by rw [ef_540]; rfl
                refine lv_iinc (v := 3) (lv' := [(5, .int 3), (4, .int r_415), (3, .int 1), (0, .ref A_self), (1, .int a1), (2, .int L2)]) hx hb dX7_take_92 hl (k := 0) rfl (by decide) (by decide) rfl (fun ls hl => ?_)
                refine lv_aload_n hx hb dX7_take_95 rfl (lv_at hl 3 rfl) ?_
                refine va_get (D := D) (ci := 7) (v := .ref (q 55)) (C := RX7) (T := TX7) (N := 56) hx hb hts (fun _ h => List.mem_cons_of_mem _ (List.mem_append_right _ h)) hown hK hP 0 rfl rfl 55 (by decide) (hts (.fieldLink RX7 118 "CrownTableModel" "cloth" "[I") (mem_i 2 rfl)) (fun _ h9 => h9) rfl dX7_take_96 ?_
                refine lv_iload hx hb dX7_take_99 (lv_at hl 0 rfl) ?_
                refine lv_dup2_11 hx hb dX7_take_101 rfl rfl ?_
                refine va_iald hx hb hK hP 1 1 rfl rfl (vin (a := 3) (by decide) (by decide) (by decide)) dX7_take_102 ?_
                refine lv_topi (fun x_547 ex_547 => ?_)
                have lf_548 : (f_540 3).toInt = x_547.toInt := by rw [ex_547]; rfl
                refine lv_iload hx hb dX7_take_103 (lv_at hl 0 rfl) ?_
                have hPc := hP.sub (ws' := []) [] rfl
                have hDc := hD.sub (ws' := []) [] (by decide) rfl
                have hFc := va_free (wc := []) hD hS hA [] rfl
                have kzz_549 : (3 : Int32).toInt = 3 := by decide
                refine va_csi (va_runS (As := [.int 3]) (rest := [.int x_547, .int 3, .ref (q 55)]) ⟨hx, hb, hml, hown, hts⟩ (k_X7_next l D c ts H.size 3 3 (by decide) (by omega)) (cwS 1 hts gX7_take_X7_next rfl rfl rfl ⟨rfl, hdX7_next⟩ ⟨(show 1 + 1 ≤ 2 by decide), (show 8 + (1 + 11) + 20 ≤ 43 by decide)⟩) ⟨Pre0.blind, Pre0.at hPc hDc hAm hSt hS hFc⟩ rfl rfl hl.1 rfl (lv_room (Nat.le_of_ble_eq_true rfl)) dX7_take_105 ⟨(show 0 + 0 ≤ 0 by decide), (show 0 + 0 ≤ 0 by decide)⟩) (fun r_551 hw_550 => ?_)
                rcases hw_550 with ⟨hw_550, rfl⟩ | ⟨hw_550, rfl⟩ | ⟨hw_550, rfl⟩ | ⟨hw_550, rfl⟩
                · exfalso; omega
                · exfalso; omega
                · skip
                  refine lv_iadd hx hb dX7_take_108 ?_
                  refine lv_topi (fun x_552 ex_552 => ?_)
                  have tx_552 : x_552.toInt = (x_547.toInt + 5) := by rw [ex_552]; exact add_ti (a := x_547.toInt) (b := 5) rfl (by decide) (by omega) (by omega)
                  refine va_iast hx hb hK hP hD hS 1 1 rfl rfl (vin (a := 3) (by decide) (by decide) (by decide)) dX7_take_109 (fun H locs hP hD hS => ?_)
                  obtain ⟨f_553, ef_553, hP, hD⟩ : ∃ f_553 : Nat → Int32, f_553 = upd f_540 (3 : Int32).toNatClampNeg x_552 ∧ va_P D vwCl [(A_self, .inr (7, o7 q v w)), (q 55, .inl (c 1, 6, .inl f_553))] H ∧ va_D A [(A_self, .inr (7, o7 q v w)), (q 55, .inl (c 1, 6, .inl f_553))] := ⟨_, rfl, hP, hD⟩
                  have cl_554 : (f_553 0).toInt = (f_540 0).toInt := by rw [ef_553]; rfl
                  have cl_555 : (f_553 1).toInt = (f_540 1).toInt := by rw [ef_553]; rfl
                  have cl_556 : (f_553 2).toInt = (f_540 2).toInt := by rw [ef_553]; rfl
                  have cl_557 : (f_553 3).toInt = x_552.toInt := by rw [ef_553]; rfl
                  have cl_558 : (f_553 4).toInt = (f_540 4).toInt := by rw [ef_553]; rfl
                  have cl_559 : (f_553 5).toInt = (f_540 5).toInt := by rw [ef_553]; rfl
                  obtain ⟨x_560, ex_560⟩ : ∃ y : Int32, y = L2 + 1 := ⟨_, rfl⟩
                  have tx_560 : x_560.toInt = L2.toInt + 1 := by rw [ex_560]; exact add_ti (a := L2.toInt) (b := 1) rfl (by decide) (by omega) (by omega)
                  refine lv_iinc (v := x_560) (lv' := [(2, .int x_560), (5, .int 3), (4, .int r_415), (3, .int 1), (0, .ref A_self), (1, .int a1)]) hx hb dX7_take_110 hl (k := 5) rfl (by rw [ex_560]; rfl) (by decide) rfl (fun ls hl => ?_)
                  refine lv_goto (tgt := 75) hx hb dX7_take_113 (by decide) ?_
                  refine lv_iload hx hb dX7_take_75 (lv_at hl 1 rfl) ?_
                  refine lv_iload_n hx hb dX7_take_77 rfl (lv_at hl 3 rfl) ?_
                  refine iicmp_leF (a := 3) (b := 1) (tgt := 116) hx hb (by decide) (by decide) dX7_take_78 (by decide) (by decide) ?_
                  refine lv_aload_n hx hb dX7_take_81 rfl (lv_at hl 4 rfl) ?_
                  refine va_get (D := D) (ci := 7) (v := .ref (q 55)) (C := RX7) (T := TX7) (N := 56) hx hb hts (fun _ h => List.mem_cons_of_mem _ (List.mem_append_right _ h)) hown hK hP 0 rfl rfl 55 (by decide) (hts (.fieldLink RX7 118 "CrownTableModel" "cloth" "[I") (mem_i 2 rfl)) (fun _ h9 => h9) rfl dX7_take_82 ?_
                  refine lv_iload hx hb dX7_take_85 (lv_at hl 1 rfl) ?_
                  refine lv_dup2_11 hx hb dX7_take_87 rfl rfl ?_
                  refine va_iald hx hb hK hP 1 1 rfl rfl (vin (a := 3) (by decide) (by decide) (by decide)) dX7_take_88 ?_
                  refine lv_topi (fun x_561 ex_561 => ?_)
                  have lf_562 : (f_553 3).toInt = x_561.toInt := by rw [ex_561]; rfl
                  refine lv_iconst (v := 1) hx hb dX7_take_89 (by decide) ?_
                  refine lv_isub hx hb dX7_take_90 ?_
                  refine lv_topi (fun x_563 ex_563 => ?_)
                  have tx_563 : x_563.toInt = (x_561.toInt - 1) := by rw [ex_563]; exact sub_ti (a := x_561.toInt) (b := 1) rfl (by decide) (by omega) (by omega)
                  refine va_iast hx hb hK hP hD hS 1 1 rfl rfl (vin (a := 3) (by decide) (by decide) (by decide)) dX7_take_91 (fun H locs hP hD hS => ?_)
                  obtain ⟨f_564, ef_564, hP, hD⟩ : ∃ f_564 : Nat → Int32, f_564 = upd f_553 (3 : Int32).toNatClampNeg x_563 ∧ va_P D vwCl [(A_self, .inr (7, o7 q v w)), (q 55, .inl (c 1, 6, .inl f_564))] H ∧ va_D A [(A_self, .inr (7, o7 q v w)), (q 55, .inl (c 1, 6, .inl f_564))] := ⟨_, rfl, hP, hD⟩
                  have cl_565 : (f_564 0).toInt = (f_553 0).toInt := by rw [ef_564]; rfl
                  have cl_566 : (f_564 1).toInt = (f_553 1).toInt := by rw [ef_564]; rfl
                  have cl_567 : (f_564 2).toInt = (f_553 2).toInt := by rw [ef_564]; rfl
                  have cl_568 : (f_564 3).toInt = x_563.toInt := by rw [ef_564]; rfl
                  have cl_569 : (f_564 4).toInt = (f_553 4).toInt := by rw [ef_564]; rfl
                  have cl_570 : (f_564 5).toInt = (f_553 5).toInt := by rw [ef_564]; rfl
                  refine lv_iinc (v := 2) (lv' := [(5, .int 2), (2, .int x_560), (4, .int r_415), (3, .int 1), (0, .ref A_self), (1, .int a1)]) hx hb dX7_take_92 hl (k := 1) rfl (by decide) (by decide) rfl (fun ls hl => ?_)
                  refine lv_aload_n hx hb dX7_take_95 rfl (lv_at hl 4 rfl) ?_
                  refine va_get (D := D) (ci := 7) (v := .ref (q 55)) (C := RX7) (T := TX7) (N := 56) hx hb hts (fun _ h => List.mem_cons_of_mem _ (List.mem_append_right _ h)) hown hK hP 0 rfl rfl 55 (by decide) (hts (.fieldLink RX7 118 "CrownTableModel" "cloth" "[I") (mem_i 2 rfl)) (fun _ h9 => h9) rfl dX7_take_96 ?_
                  refine lv_iload hx hb dX7_take_99 (lv_at hl 0 rfl) ?_
                  refine lv_dup2_11 hx hb dX7_take_101 rfl rfl ?_
                  refine va_iald hx hb hK hP 1 1 rfl rfl (vin (a := 2) (by decide) (by decide) (by decide)) dX7_take_102 ?_
                  refine lv_topi (fun x_571 ex_571 => ?_)
                  have lf_572 : (f_564 2).toInt = x_571.toInt := by rw [ex_571]; rfl
                  refine lv_iload hx hb dX7_take_103 (lv_at hl 0 rfl) ?_
                  have hPc := hP.sub (ws' := []) [] rfl
                  have hDc := hD.sub (ws' := []) [] (by decide) rfl
                  have hFc := va_free (wc := []) hD hS hA [] rfl
                  have kzz_573 : (2 : Int32).toInt = 2 := by decide
                  refine va_csi (va_runS (As := [.int 2]) (rest := [.int x_571, .int 2, .ref (q 55)]) ⟨hx, hb, hml, hown, hts⟩ (k_X7_next l D c ts H.size 2 2 (by decide) (by omega)) (cwS 1 hts gX7_take_X7_next rfl rfl rfl ⟨rfl, hdX7_next⟩ ⟨(show 1 + 1 ≤ 2 by decide), (show 8 + (1 + 11) + 20 ≤ 43 by decide)⟩) ⟨Pre0.blind, Pre0.at hPc hDc hAm hSt hS hFc⟩ rfl rfl hl.1 rfl (lv_room (Nat.le_of_ble_eq_true rfl)) dX7_take_105 ⟨(show 0 + 0 ≤ 0 by decide), (show 0 + 0 ≤ 0 by decide)⟩) (fun r_575 hw_574 => ?_)
                  rcases hw_574 with ⟨hw_574, rfl⟩ | ⟨hw_574, rfl⟩ | ⟨hw_574, rfl⟩ | ⟨hw_574, rfl⟩
                  · exfalso; omega
                  · skip
                    refine lv_iadd hx hb dX7_take_108 ?_
                    refine lv_topi (fun x_576 ex_576 => ?_)
                    have tx_576 : x_576.toInt = (x_571.toInt + 20) := by rw [ex_576]; exact add_ti (a := x_571.toInt) (b := 20) rfl (by decide) (by omega) (by omega)
                    refine va_iast hx hb hK hP hD hS 1 1 rfl rfl (vin (a := 2) (by decide) (by decide) (by decide)) dX7_take_109 (fun H locs hP hD hS => ?_)
                    obtain ⟨f_577, ef_577, hP, hD⟩ : ∃ f_577 : Nat → Int32, f_577 = upd f_564 (2 : Int32).toNatClampNeg x_576 ∧ va_P D vwCl [(A_self, .inr (7, o7 q v w)), (q 55, .inl (c 1, 6, .inl f_577))] H ∧ va_D A [(A_self, .inr (7, o7 q v w)), (q 55, .inl (c 1, 6, .inl f_577))] := ⟨_, rfl, hP, hD⟩
                    have cl_578 : (f_577 0).toInt = (f_564 0).toInt := by rw [ef_577]; rfl
                    have cl_579 : (f_577 1).toInt = (f_564 1).toInt := by rw [ef_577]; rfl
                    have cl_580 : (f_577 2).toInt = x_576.toInt := by rw [ef_577]; rfl
                    have cl_581 : (f_577 3).toInt = (f_564 3).toInt := by rw [ef_577]; rfl
                    have cl_582 : (f_577 4).toInt = (f_564 4).toInt := by rw [ef_577]; rfl
                    have cl_583 : (f_577 5).toInt = (f_564 5).toInt := by rw [ef_577]; rfl
                    obtain ⟨x_584, ex_584⟩ : ∃ y : Int32, y = x_560 + 1 := ⟨_, rfl⟩
                    have tx_584 : x_584.toInt = x_560.toInt + 1 := by rw [ex_584]; exact add_ti (a := x_560.toInt) (b := 1) rfl (by decide) (by omega) (by omega)
                    refine lv_iinc (v := x_584) (lv' := [(2, .int x_584), (5, .int 2), (4, .int r_415), (3, .int 1), (0, .ref A_self), (1, .int a1)]) hx hb dX7_take_110 hl (k := 1) rfl (by rw [ex_584]; rfl) (by decide) rfl (fun ls hl => ?_)
                    refine lv_goto (tgt := 75) hx hb dX7_take_113 (by decide) ?_
                    refine lv_iload hx hb dX7_take_75 (lv_at hl 1 rfl) ?_
                    refine lv_iload_n hx hb dX7_take_77 rfl (lv_at hl 3 rfl) ?_
                    refine iicmp_leF (a := 2) (b := 1) (tgt := 116) hx hb (by decide) (by decide) dX7_take_78 (by decide) (by decide) ?_
                    refine lv_aload_n hx hb dX7_take_81 rfl (lv_at hl 4 rfl) ?_
                    refine va_get (D := D) (ci := 7) (v := .ref (q 55)) (C := RX7) (T := TX7) (N := 56) hx hb hts (fun _ h => List.mem_cons_of_mem _ (List.mem_append_right _ h)) hown hK hP 0 rfl rfl 55 (by decide) (hts (.fieldLink RX7 118 "CrownTableModel" "cloth" "[I") (mem_i 2 rfl)) (fun _ h9 => h9) rfl dX7_take_82 ?_
                    refine lv_iload hx hb dX7_take_85 (lv_at hl 1 rfl) ?_
                    refine lv_dup2_11 hx hb dX7_take_87 rfl rfl ?_
                    refine va_iald hx hb hK hP 1 1 rfl rfl (vin (a := 2) (by decide) (by decide) (by decide)) dX7_take_88 ?_
                    refine lv_topi (fun x_585 ex_585 => ?_)
                    have lf_586 : (f_577 2).toInt = x_585.toInt := by rw [ex_585]; rfl
                    refine lv_iconst (v := 1) hx hb dX7_take_89 (by decide) ?_
                    refine lv_isub hx hb dX7_take_90 ?_
                    refine lv_topi (fun x_587 ex_587 => ?_)
                    have tx_587 : x_587.toInt = (x_585.toInt - 1) := by rw [ex_587]; exact sub_ti (a := x_585.toInt) (b := 1) rfl (by decide) (by omega) (by omega)
                    refine va_iast hx hb hK hP hD hS 1 1 rfl rfl (vin (a := 2) (by decide) (by decide) (by decide)) dX7_take_91 (fun H locs hP hD hS => ?_)
                    obtain ⟨f_588, ef_588, hP, hD⟩ : ∃ f_588 : Nat → Int32, f_588 = upd f_577 (2 : Int32).toNatClampNeg x_587 ∧ va_P D vwCl [(A_self, .inr (7, o7 q v w)), (q 55, .inl (c 1, 6, .inl f_588))] H ∧ va_D A [(A_self, .inr (7, o7 q v w)), (q 55, .inl (c 1, 6, .inl f_588))] := ⟨_, rfl, hP, hD⟩
                    have cl_589 : (f_588 0).toInt = (f_577 0).toInt := by rw [ef_588]; rfl
                    have cl_590 : (f_588 1).toInt = (f_577 1).toInt := by rw [ef_588]; rfl
                    have cl_591 : (f_588 2).toInt = x_587.toInt := by rw [ef_588]; rfl
                    have cl_592 : (f_588 3).toInt = (f_577 3).toInt := by rw [ef_588]; rfl
                    have cl_593 : (f_588 4).toInt = (f_577 4).toInt := by rw [ef_588]; rfl
                    have cl_594 : (f_588 5).toInt = (f_577 5).toInt := by rw [ef_588]; rfl
                    refine lv_iinc (v := 1) (lv' := [(5, .int 1), (2, .int x_584), (4, .int r_415), (3, .int 1), (0, .ref A_self), (1, .int a1)]) hx hb dX7_take_92 hl (k := 1) rfl (by decide) (by decide) rfl (fun ls hl => ?_)
                    refine lv_aload_n hx hb dX7_take_95 rfl (lv_at hl 4 rfl) ?_
                    refine va_get (D := D) (ci := 7) (v := .ref (q 55)) (C := RX7) (T := TX7) (N := 56) hx hb hts (fun _ h => List.mem_cons_of_mem _ (List.mem_append_right _ h)) hown hK hP 0 rfl rfl 55 (by decide) (hts (.fieldLink RX7 118 "CrownTableModel" "cloth" "[I") (mem_i 2 rfl)) (fun _ h9 => h9) rfl dX7_take_96 ?_
                    refine lv_iload hx hb dX7_take_99 (lv_at hl 0 rfl) ?_
                    refine lv_dup2_11 hx hb dX7_take_101 rfl rfl ?_
                    refine va_iald hx hb hK hP 1 1 rfl rfl (vin (a := 1) (by decide) (by decide) (by decide)) dX7_take_102 ?_
                    refine lv_topi (fun x_595 ex_595 => ?_)
                    have lf_596 : (f_588 1).toInt = x_595.toInt := by rw [ex_595]; rfl
                    refine lv_iload hx hb dX7_take_103 (lv_at hl 0 rfl) ?_
                    have hPc := hP.sub (ws' := []) [] rfl
                    have hDc := hD.sub (ws' := []) [] (by decide) rfl
                    have hFc := va_free (wc := []) hD hS hA [] rfl
                    have kzz_597 : (1 : Int32).toInt = 1 := by decide
                    refine va_csi (va_runS (As := [.int 1]) (rest := [.int x_595, .int 1, .ref (q 55)]) ⟨hx, hb, hml, hown, hts⟩ (k_X7_next l D c ts H.size 1 1 (by decide) (by omega)) (cwS 1 hts gX7_take_X7_next rfl rfl rfl ⟨rfl, hdX7_next⟩ ⟨(show 1 + 1 ≤ 2 by decide), (show 8 + (1 + 11) + 20 ≤ 43 by decide)⟩) ⟨Pre0.blind, Pre0.at hPc hDc hAm hSt hS hFc⟩ rfl rfl hl.1 rfl (lv_room (Nat.le_of_ble_eq_true rfl)) dX7_take_105 ⟨(show 0 + 0 ≤ 0 by decide), (show 0 + 0 ≤ 0 by decide)⟩) (fun r_599 hw_598 => ?_)
                    rcases hw_598 with ⟨hw_598, rfl⟩ | ⟨hw_598, rfl⟩ | ⟨hw_598, rfl⟩ | ⟨hw_598, rfl⟩
                    · exfalso; omega
                    · skip
                      refine lv_iadd hx hb dX7_take_108 ?_
                      refine lv_topi (fun x_600 ex_600 => ?_)
                      have tx_600 : x_600.toInt = (x_595.toInt + 20) := by rw [ex_600]; exact add_ti (a := x_595.toInt) (b := 20) rfl (by decide) (by omega) (by omega)
                      refine va_iast hx hb hK hP hD hS 1 1 rfl rfl (vin (a := 1) (by decide) (by decide) (by decide)) dX7_take_109 (fun H locs hP hD hS => ?_)
                      obtain ⟨f_601, ef_601, hP, hD⟩ : ∃ f_601 : Nat → Int32, f_601 = upd f_588 (1 : Int32).toNatClampNeg x_600 ∧ va_P D vwCl [(A_self, .inr (7, o7 q v w)), (q 55, .inl (c 1, 6, .inl f_601))] H ∧ va_D A [(A_self, .inr (7, o7 q v w)), (q 55, .inl (c 1, 6, .inl f_601))] := ⟨_, rfl, hP, hD⟩
                      have cl_602 : (f_601 0).toInt = (f_588 0).toInt := by rw [ef_601]; rfl
                      have cl_603 : (f_601 1).toInt = x_600.toInt := by rw [ef_601]; rfl
                      have cl_604 : (f_601 2).toInt = (f_588 2).toInt := by rw [ef_601]; rfl
                      have cl_605 : (f_601 3).toInt = (f_588 3).toInt := by rw [ef_601]; rfl
                      have cl_606 : (f_601 4).toInt = (f_588 4).toInt := by rw [ef_601]; rfl
                      have cl_607 : (f_601 5).toInt = (f_588 5).toInt := by rw [ef_601]; rfl
                      obtain ⟨x_608, ex_608⟩ : ∃ y : Int32, y = x_584 + 1 := ⟨_, rfl⟩
                      have tx_608 : x_608.toInt = x_584.toInt + 1 := by rw [ex_608]; exact add_ti (a := x_584.toInt) (b := 1) rfl (by decide) (by omega) (by omega)
                      refine lv_iinc (v := x_608) (lv' := [(2, .int x_608), (5, .int 1), (4, .int r_415), (3, .int 1), (0, .ref A_self), (1, .int a1)]) hx hb dX7_take_110 hl (k := 1) rfl (by rw [ex_608]; rfl) (by decide) rfl (fun ls hl => ?_)
                      refine lv_goto (tgt := 75) hx hb dX7_take_113 (by decide) ?_
                      refine lv_iload hx hb dX7_take_75 (lv_at hl 1 rfl) ?_
                      refine lv_iload_n hx hb dX7_take_77 rfl (lv_at hl 3 rfl) ?_
                      refine iicmp_leT (a := 1) (b := 1) (tgt := 116) hx hb (by decide) (by decide) dX7_take_78 (by decide) (by decide) ?_
                      refine lv_goto (tgt := 43) hx hb dX7_take_116 (by decide) ?_
                      refine lv_aload_n hx hb dX7_take_43 rfl (lv_at hl 4 rfl) ?_
                      refine va_get (D := D) (ci := 7) (v := .ref (q 55)) (C := RX7) (T := TX7) (N := 56) hx hb hts (fun _ h => List.mem_cons_of_mem _ (List.mem_append_right _ h)) hown hK hP 0 rfl rfl 55 (by decide) (hts (.fieldLink RX7 118 "CrownTableModel" "cloth" "[I") (mem_i 2 rfl)) (fun _ h9 => h9) rfl dX7_take_44 ?_
                      refine lv_iload_n hx hb dX7_take_47 rfl (lv_at hl 3 rfl) ?_
                      refine va_iald hx hb hK hP 1 1 rfl rfl (vin (a := 1) (by decide) (by decide) (by decide)) dX7_take_48 ?_
                      refine lv_topi (fun x_609 ex_609 => ?_)
                      have lf_610 : (f_601 1).toInt = x_609.toInt := by rw [ex_609]; rfl
                      refine lv_iload hx hb dX7_take_49 (lv_at hl 2 rfl) ?_
                      refine iicmp_ge (a := x_609.toInt) (b := r_415.toInt) (tgt := 119) hx hb rfl rfl dX7_take_51 (by decide) (fun k_611 => ?_) (fun k_611 => ?_)
                      · skip
                        refine lv_aload_n hx hb dX7_take_119 rfl (lv_at hl 4 rfl) ?_
                        refine va_get (D := D) (ci := 7) (v := .ref (q 55)) (C := RX7) (T := TX7) (N := 56) hx hb hts (fun _ h => List.mem_cons_of_mem _ (List.mem_append_right _ h)) hown hK hP 0 rfl rfl 55 (by decide) (hts (.fieldLink RX7 118 "CrownTableModel" "cloth" "[I") (mem_i 2 rfl)) (fun _ h9 => h9) rfl dX7_take_120 ?_
                        refine lv_iload_n hx hb dX7_take_123 rfl (lv_at hl 3 rfl) ?_
                        refine lv_dup2_11 hx hb dX7_take_124 rfl rfl ?_
                        refine va_iald hx hb hK hP 1 1 rfl rfl (vin (a := 1) (by decide) (by decide) (by decide)) dX7_take_125 ?_
                        refine lv_topi (fun x_612 ex_612 => ?_)
                        have lf_613 : (f_601 1).toInt = x_612.toInt := by rw [ex_612]; rfl
                        refine lv_iload hx hb dX7_take_126 (lv_at hl 2 rfl) ?_
                        refine lv_isub hx hb dX7_take_128 ?_
                        refine lv_topi (fun x_614 ex_614 => ?_)
                        have tx_614 : x_614.toInt = (x_612.toInt - r_415.toInt) := by rw [ex_614]; exact sub_ti (a := x_612.toInt) (b := r_415.toInt) rfl rfl (by omega) (by omega)
                        refine va_iast hx hb hK hP hD hS 1 1 rfl rfl (vin (a := 1) (by decide) (by decide) (by decide)) dX7_take_129 (fun H locs hP hD hS => ?_)
                        obtain ⟨f_615, ef_615, hP, hD⟩ : ∃ f_615 : Nat → Int32, f_615 = upd f_601 (1 : Int32).toNatClampNeg x_614 ∧ va_P D vwCl [(A_self, .inr (7, o7 q v w)), (q 55, .inl (c 1, 6, .inl f_615))] H ∧ va_D A [(A_self, .inr (7, o7 q v w)), (q 55, .inl (c 1, 6, .inl f_615))] := ⟨_, rfl, hP, hD⟩
                        have cl_616 : (f_615 0).toInt = (f_601 0).toInt := by rw [ef_615]; rfl
                        have cl_617 : (f_615 1).toInt = x_614.toInt := by rw [ef_615]; rfl
                        have cl_618 : (f_615 2).toInt = (f_601 2).toInt := by rw [ef_615]; rfl
                        have cl_619 : (f_615 3).toInt = (f_601 3).toInt := by rw [ef_615]; rfl
                        have cl_620 : (f_615 4).toInt = (f_601 4).toInt := by rw [ef_615]; rfl
                        have cl_621 : (f_615 5).toInt = (f_601 5).toInt := by rw [ef_615]; rfl
                        refine lv_iinc (v := 2) (lv' := [(3, .int 2), (2, .int x_608), (5, .int 1), (4, .int r_415), (0, .ref A_self), (1, .int a1)]) hx hb dX7_take_130 hl (k := 3) rfl (by decide) (by decide) rfl (fun ls hl => ?_)
                        refine lv_goto (tgt := 30) hx hb dX7_take_133 (by decide) ?_
                        obtain ⟨ts, td0, td1, td2, td3, td4, td5, tl⟩ := TkS.b1_4 (d0 := (f_615 0).toInt) (d1 := (f_615 1).toInt) (d2 := (f_615 2).toInt) (d3 := (f_615 3).toInt) (d4 := (f_615 4).toInt) (d5 := (f_615 5).toInt) (L1 := x_608.toInt) hf30_1_2 (by omega) (by omega) (by omega) (by omega) (by omega) (by omega) (by omega) (by omega) (by omega) (by omega) (by omega)
                        have hl := lv_sub hl [0, 4, 5, 1] rfl
                        exact lp_30_2 x_608 f_615 (by omega) (by omega) ts td0 td1 td2 td3 td4 td5 _ _ _ hP hD hS hl
                      · skip
                        exfalso; omega
                    · exfalso; omega
                    · exfalso; omega
                  · exfalso; omega
                  · exfalso; omega
                · exfalso; omega
              · skip
                refine lv_iinc (v := 5) (lv' := [(5, .int 5), (4, .int r_415), (3, .int 1), (0, .ref A_self), (1, .int a1), (2, .int L2)]) hx hb dX7_take_69 hl (k := 0) rfl (by decide) (by decide) rfl (fun ls hl => ?_)
                refine lv_goto (tgt := 59) hx hb dX7_take_72 (by decide) ?_
                refine lv_aload_n hx hb dX7_take_59 rfl (lv_at hl 3 rfl) ?_
                refine va_get (D := D) (ci := 7) (v := .ref (q 55)) (C := RX7) (T := TX7) (N := 56) hx hb hts (fun _ h => List.mem_cons_of_mem _ (List.mem_append_right _ h)) hown hK hP 0 rfl rfl 55 (by decide) (hts (.fieldLink RX7 118 "CrownTableModel" "cloth" "[I") (mem_i 2 rfl)) (fun _ h9 => h9) rfl dX7_take_60 ?_
                refine lv_iload hx hb dX7_take_63 (lv_at hl 0 rfl) ?_
                refine va_iald hx hb hK hP 1 1 rfl rfl (vin (a := 5) (by decide) (by decide) (by decide)) dX7_take_65 ?_
                refine lv_topi (fun x_622 ex_622 => ?_)
                have lf_623 : (M_cloth 5).toInt = x_622.toInt := by rw [ex_622]; rfl
                refine iif_ne (a := x_622.toInt) (tgt := 75) hx hb rfl dX7_take_66 (by decide) (fun k_624 => ?_) (fun k_624 => ?_)
                · skip
                  refine lv_iload hx hb dX7_take_75 (lv_at hl 0 rfl) ?_
                  refine lv_iload_n hx hb dX7_take_77 rfl (lv_at hl 2 rfl) ?_
                  refine iicmp_leF (a := 5) (b := 1) (tgt := 116) hx hb (by decide) (by decide) dX7_take_78 (by decide) (by decide) ?_
                  refine lv_aload_n hx hb dX7_take_81 rfl (lv_at hl 3 rfl) ?_
                  refine va_get (D := D) (ci := 7) (v := .ref (q 55)) (C := RX7) (T := TX7) (N := 56) hx hb hts (fun _ h => List.mem_cons_of_mem _ (List.mem_append_right _ h)) hown hK hP 0 rfl rfl 55 (by decide) (hts (.fieldLink RX7 118 "CrownTableModel" "cloth" "[I") (mem_i 2 rfl)) (fun _ h9 => h9) rfl dX7_take_82 ?_
                  refine lv_iload hx hb dX7_take_85 (lv_at hl 0 rfl) ?_
                  refine lv_dup2_11 hx hb dX7_take_87 rfl rfl ?_
                  refine va_iald hx hb hK hP 1 1 rfl rfl (vin (a := 5) (by decide) (by decide) (by decide)) dX7_take_88 ?_
                  refine lv_topi (fun x_625 ex_625 => ?_)
                  have lf_626 : (M_cloth 5).toInt = x_625.toInt := by rw [ex_625]; rfl
                  refine lv_iconst (v := 1) hx hb dX7_take_89 (by decide) ?_
                  refine lv_isub hx hb dX7_take_90 ?_
                  refine lv_topi (fun x_627 ex_627 => ?_)
                  have tx_627 : x_627.toInt = (x_625.toInt - 1) := by rw [ex_627]; exact sub_ti (a := x_625.toInt) (b := 1) rfl (by decide) (by omega) (by omega)
                  refine va_iast hx hb hK hP hD hS 1 1 rfl rfl (vin (a := 5) (by decide) (by decide) (by decide)) dX7_take_91 (fun H locs hP hD hS => ?_)
                  obtain ⟨f_628, ef_628, hP, hD⟩ : ∃ f_628 : Nat → Int32, f_628 = upd M_cloth (5 : Int32).toNatClampNeg x_627 ∧ va_P D vwCl [(A_self, .inr (7, o7 q v w)), (q 55, .inl (c 1, 6, .inl f_628))] H ∧ va_D A [(A_self, .inr (7, o7 q v w)), (q 55, .inl (c 1, 6, .inl f_628))] := ⟨_, rfl, hP, hD⟩
                  have cl_629 : (f_628 0).toInt = (M_cloth 0).toInt := by rw [ef_628]; rfl
                  have cl_630 : (f_628 1).toInt = (M_cloth 1).toInt := by rw [ef_628]; rfl
                  have cl_631 : (f_628 2).toInt = (M_cloth 2).toInt := by rw [ef_628]; rfl
                  have cl_632 : (f_628 3).toInt = (M_cloth 3).toInt := by rw [ef_628]; rfl
                  have cl_633 : (f_628 4).toInt = (M_cloth 4).toInt := by rw [ef_628]; rfl
                  have cl_634 : (f_628 5).toInt = x_627.toInt := by rw [ef_628]; rfl
                  refine lv_iinc (v := 4) (lv' := [(5, .int 4), (4, .int r_415), (3, .int 1), (0, .ref A_self), (1, .int a1), (2, .int L2)]) hx hb dX7_take_92 hl (k := 0) rfl (by decide) (by decide) rfl (fun ls hl => ?_)
                  refine lv_aload_n hx hb dX7_take_95 rfl (lv_at hl 3 rfl) ?_
                  refine va_get (D := D) (ci := 7) (v := .ref (q 55)) (C := RX7) (T := TX7) (N := 56) hx hb hts (fun _ h => List.mem_cons_of_mem _ (List.mem_append_right _ h)) hown hK hP 0 rfl rfl 55 (by decide) (hts (.fieldLink RX7 118 "CrownTableModel" "cloth" "[I") (mem_i 2 rfl)) (fun _ h9 => h9) rfl dX7_take_96 ?_
                  refine lv_iload hx hb dX7_take_99 (lv_at hl 0 rfl) ?_
                  refine lv_dup2_11 hx hb dX7_take_101 rfl rfl ?_
                  refine va_iald hx hb hK hP 1 1 rfl rfl (vin (a := 4) (by decide) (by decide) (by decide)) dX7_take_102 ?_
                  refine lv_topi (fun x_635 ex_635 => ?_)
                  have lf_636 : (f_628 4).toInt = x_635.toInt := by rw [ex_635]; rfl
                  refine lv_iload hx hb dX7_take_103 (lv_at hl 0 rfl) ?_
                  have hPc := hP.sub (ws' := []) [] rfl
                  have hDc := hD.sub (ws' := []) [] (by decide) rfl
                  have hFc := va_free (wc := []) hD hS hA [] rfl
                  have kzz_637 : (4 : Int32).toInt = 4 := by decide
                  refine va_csi (va_runS (As := [.int 4]) (rest := [.int x_635, .int 4, .ref (q 55)]) ⟨hx, hb, hml, hown, hts⟩ (k_X7_next l D c ts H.size 4 4 (by decide) (by omega)) (cwS 1 hts gX7_take_X7_next rfl rfl rfl ⟨rfl, hdX7_next⟩ ⟨(show 1 + 1 ≤ 2 by decide), (show 8 + (1 + 11) + 20 ≤ 43 by decide)⟩) ⟨Pre0.blind, Pre0.at hPc hDc hAm hSt hS hFc⟩ rfl rfl hl.1 rfl (lv_room (Nat.le_of_ble_eq_true rfl)) dX7_take_105 ⟨(show 0 + 0 ≤ 0 by decide), (show 0 + 0 ≤ 0 by decide)⟩) (fun r_639 hw_638 => ?_)
                  rcases hw_638 with ⟨hw_638, rfl⟩ | ⟨hw_638, rfl⟩ | ⟨hw_638, rfl⟩ | ⟨hw_638, rfl⟩
                  · exfalso; omega
                  · exfalso; omega
                  · exfalso; omega
                  · skip
                    refine lv_iadd hx hb dX7_take_108 ?_
                    refine lv_topi (fun x_640 ex_640 => ?_)
                    have tx_640 : x_640.toInt = (x_635.toInt + 10) := by rw [ex_640]; exact add_ti (a := x_635.toInt) (b := 10) rfl (by decide) (by omega) (by omega)
                    refine va_iast hx hb hK hP hD hS 1 1 rfl rfl (vin (a := 4) (by decide) (by decide) (by decide)) dX7_take_109 (fun H locs hP hD hS => ?_)
                    obtain ⟨f_641, ef_641, hP, hD⟩ : ∃ f_641 : Nat → Int32, f_641 = upd f_628 (4 : Int32).toNatClampNeg x_640 ∧ va_P D vwCl [(A_self, .inr (7, o7 q v w)), (q 55, .inl (c 1, 6, .inl f_641))] H ∧ va_D A [(A_self, .inr (7, o7 q v w)), (q 55, .inl (c 1, 6, .inl f_641))] := ⟨_, rfl, hP, hD⟩
                    have cl_642 : (f_641 0).toInt = (f_628 0).toInt := by rw [ef_641]; rfl
                    have cl_643 : (f_641 1).toInt = (f_628 1).toInt := by rw [ef_641]; rfl
                    have cl_644 : (f_641 2).toInt = (f_628 2).toInt := by rw [ef_641]; rfl
                    have cl_645 : (f_641 3).toInt = (f_628 3).toInt := by rw [ef_641]; rfl
                    have cl_646 : (f_641 4).toInt = x_640.toInt := by rw [ef_641]; rfl
                    have cl_647 : (f_641 5).toInt = (f_628 5).toInt := by rw [ef_641]; rfl
                    obtain ⟨x_648, ex_648⟩ : ∃ y : Int32, y = L2 + 1 := ⟨_, rfl⟩
                    have tx_648 : x_648.toInt = L2.toInt + 1 := by rw [ex_648]; exact add_ti (a := L2.toInt) (b := 1) rfl (by decide) (by omega) (by omega)
                    refine lv_iinc (v := x_648) (lv' := [(2, .int x_648), (5, .int 4), (4, .int r_415), (3, .int 1), (0, .ref A_self), (1, .int a1)]) hx hb dX7_take_110 hl (k := 5) rfl (by rw [ex_648]; rfl) (by decide) rfl (fun ls hl => ?_)
                    refine lv_goto (tgt := 75) hx hb dX7_take_113 (by decide) ?_
                    refine lv_iload hx hb dX7_take_75 (lv_at hl 1 rfl) ?_
                    refine lv_iload_n hx hb dX7_take_77 rfl (lv_at hl 3 rfl) ?_
                    refine iicmp_leF (a := 4) (b := 1) (tgt := 116) hx hb (by decide) (by decide) dX7_take_78 (by decide) (by decide) ?_
                    refine lv_aload_n hx hb dX7_take_81 rfl (lv_at hl 4 rfl) ?_
                    refine va_get (D := D) (ci := 7) (v := .ref (q 55)) (C := RX7) (T := TX7) (N := 56) hx hb hts (fun _ h => List.mem_cons_of_mem _ (List.mem_append_right _ h)) hown hK hP 0 rfl rfl 55 (by decide) (hts (.fieldLink RX7 118 "CrownTableModel" "cloth" "[I") (mem_i 2 rfl)) (fun _ h9 => h9) rfl dX7_take_82 ?_
                    refine lv_iload hx hb dX7_take_85 (lv_at hl 1 rfl) ?_
                    refine lv_dup2_11 hx hb dX7_take_87 rfl rfl ?_
                    refine va_iald hx hb hK hP 1 1 rfl rfl (vin (a := 4) (by decide) (by decide) (by decide)) dX7_take_88 ?_
                    refine lv_topi (fun x_649 ex_649 => ?_)
                    have lf_650 : (f_641 4).toInt = x_649.toInt := by rw [ex_649]; rfl
                    refine lv_iconst (v := 1) hx hb dX7_take_89 (by decide) ?_
                    refine lv_isub hx hb dX7_take_90 ?_
                    refine lv_topi (fun x_651 ex_651 => ?_)
                    have tx_651 : x_651.toInt = (x_649.toInt - 1) := by rw [ex_651]; exact sub_ti (a := x_649.toInt) (b := 1) rfl (by decide) (by omega) (by omega)
                    refine va_iast hx hb hK hP hD hS 1 1 rfl rfl (vin (a := 4) (by decide) (by decide) (by decide)) dX7_take_91 (fun H locs hP hD hS => ?_)
                    obtain ⟨f_652, ef_652, hP, hD⟩ : ∃ f_652 : Nat → Int32, f_652 = upd f_641 (4 : Int32).toNatClampNeg x_651 ∧ va_P D vwCl [(A_self, .inr (7, o7 q v w)), (q 55, .inl (c 1, 6, .inl f_652))] H ∧ va_D A [(A_self, .inr (7, o7 q v w)), (q 55, .inl (c 1, 6, .inl f_652))] := ⟨_, rfl, hP, hD⟩
                    have cl_653 : (f_652 0).toInt = (f_641 0).toInt := by rw [ef_652]; rfl
                    have cl_654 : (f_652 1).toInt = (f_641 1).toInt := by rw [ef_652]; rfl
                    have cl_655 : (f_652 2).toInt = (f_641 2).toInt := by rw [ef_652]; rfl
                    have cl_656 : (f_652 3).toInt = (f_641 3).toInt := by rw [ef_652]; rfl
                    have cl_657 : (f_652 4).toInt = x_651.toInt := by rw [ef_652]; rfl
                    have cl_658 : (f_652 5).toInt = (f_641 5).toInt := by rw [ef_652]; rfl
                    refine lv_iinc (v := 3) (lv' := [(5, .int 3), (2, .int x_648), (4, .int r_415), (3, .int 1), (0, .ref A_self), (1, .int a1)]) hx hb dX7_take_92 hl (k := 1) rfl (by decide) (by decide) rfl (fun ls hl => ?_)
                    refine lv_aload_n hx hb dX7_take_95 rfl (lv_at hl 4 rfl) ?_
                    refine va_get (D := D) (ci := 7) (v := .ref (q 55)) (C := RX7) (T := TX7) (N := 56) hx hb hts (fun _ h => List.mem_cons_of_mem _ (List.mem_append_right _ h)) hown hK hP 0 rfl rfl 55 (by decide) (hts (.fieldLink RX7 118 "CrownTableModel" "cloth" "[I") (mem_i 2 rfl)) (fun _ h9 => h9) rfl dX7_take_96 ?_
                    refine lv_iload hx hb dX7_take_99 (lv_at hl 0 rfl) ?_
                    refine lv_dup2_11 hx hb dX7_take_101 rfl rfl ?_
                    refine va_iald hx hb hK hP 1 1 rfl rfl (vin (a := 3) (by decide) (by decide) (by decide)) dX7_take_102 ?_
                    refine lv_topi (fun x_659 ex_659 => ?_)
                    have lf_660 : (f_652 3).toInt = x_659.toInt := by rw [ex_659]; rfl
                    refine lv_iload hx hb dX7_take_103 (lv_at hl 0 rfl) ?_
                    have hPc := hP.sub (ws' := []) [] rfl
                    have hDc := hD.sub (ws' := []) [] (by decide) rfl
                    have hFc := va_free (wc := []) hD hS hA [] rfl
                    have kzz_661 : (3 : Int32).toInt = 3 := by decide
                    refine va_csi (va_runS (As := [.int 3]) (rest := [.int x_659, .int 3, .ref (q 55)]) ⟨hx, hb, hml, hown, hts⟩ (k_X7_next l D c ts H.size 3 3 (by decide) (by omega)) (cwS 1 hts gX7_take_X7_next rfl rfl rfl ⟨rfl, hdX7_next⟩ ⟨(show 1 + 1 ≤ 2 by decide), (show 8 + (1 + 11) + 20 ≤ 43 by decide)⟩) ⟨Pre0.blind, Pre0.at hPc hDc hAm hSt hS hFc⟩ rfl rfl hl.1 rfl (lv_room (Nat.le_of_ble_eq_true rfl)) dX7_take_105 ⟨(show 0 + 0 ≤ 0 by decide), (show 0 + 0 ≤ 0 by decide)⟩) (fun r_663 hw_662 => ?_)
                    rcases hw_662 with ⟨hw_662, rfl⟩ | ⟨hw_662, rfl⟩ | ⟨hw_662, rfl⟩ | ⟨hw_662, rfl⟩
                    · exfalso; omega
                    · exfalso; omega
                    · skip
                      refine lv_iadd hx hb dX7_take_108 ?_
                      refine lv_topi (fun x_664 ex_664 => ?_)
                      have tx_664 : x_664.toInt = (x_659.toInt + 5) := by rw [ex_664]; exact add_ti (a := x_659.toInt) (b := 5) rfl (by decide) (by omega) (by omega)
                      refine va_iast hx hb hK hP hD hS 1 1 rfl rfl (vin (a := 3) (by decide) (by decide) (by decide)) dX7_take_109 (fun H locs hP hD hS => ?_)
                      obtain ⟨f_665, ef_665, hP, hD⟩ : ∃ f_665 : Nat → Int32, f_665 = upd f_652 (3 : Int32).toNatClampNeg x_664 ∧ va_P D vwCl [(A_self, .inr (7, o7 q v w)), (q 55, .inl (c 1, 6, .inl f_665))] H ∧ va_D A [(A_self, .inr (7, o7 q v w)), (q 55, .inl (c 1, 6, .inl f_665))] := ⟨_, rfl, hP, hD⟩
                      have cl_666 : (f_665 0).toInt = (f_652 0).toInt := by rw [ef_665]; rfl
                      have cl_667 : (f_665 1).toInt = (f_652 1).toInt := by rw [ef_665]; rfl
                      have cl_668 : (f_665 2).toInt = (f_652 2).toInt := by rw [ef_665]; rfl
                      have cl_669 : (f_665 3).toInt = x_664.toInt := by rw [ef_665]; rfl
                      have cl_670 : (f_665 4).toInt = (f_652 4).toInt := by rw [ef_665]; rfl
                      have cl_671 : (f_665 5).toInt = (f_652 5).toInt := by rw [ef_665]; rfl
                      obtain ⟨x_672, ex_672⟩ : ∃ y : Int32, y = x_648 + 1 := ⟨_, rfl⟩
                      have tx_672 : x_672.toInt = x_648.toInt + 1 := by rw [ex_672]; exact add_ti (a := x_648.toInt) (b := 1) rfl (by decide) (by omega) (by omega)
                      refine lv_iinc (v := x_672) (lv' := [(2, .int x_672), (5, .int 3), (4, .int r_415), (3, .int 1), (0, .ref A_self), (1, .int a1)]) hx hb dX7_take_110 hl (k := 1) rfl (by rw [ex_672]; rfl) (by decide) rfl (fun ls hl => ?_)
                      refine lv_goto (tgt := 75) hx hb dX7_take_113 (by decide) ?_
                      refine lv_iload hx hb dX7_take_75 (lv_at hl 1 rfl) ?_
                      refine lv_iload_n hx hb dX7_take_77 rfl (lv_at hl 3 rfl) ?_
                      refine iicmp_leF (a := 3) (b := 1) (tgt := 116) hx hb (by decide) (by decide) dX7_take_78 (by decide) (by decide) ?_
                      refine lv_aload_n hx hb dX7_take_81 rfl (lv_at hl 4 rfl) ?_
                      refine va_get (D := D) (ci := 7) (v := .ref (q 55)) (C := RX7) (T := TX7) (N := 56) hx hb hts (fun _ h => List.mem_cons_of_mem _ (List.mem_append_right _ h)) hown hK hP 0 rfl rfl 55 (by decide) (hts (.fieldLink RX7 118 "CrownTableModel" "cloth" "[I") (mem_i 2 rfl)) (fun _ h9 => h9) rfl dX7_take_82 ?_
                      refine lv_iload hx hb dX7_take_85 (lv_at hl 1 rfl) ?_
                      refine lv_dup2_11 hx hb dX7_take_87 rfl rfl ?_
                      refine va_iald hx hb hK hP 1 1 rfl rfl (vin (a := 3) (by decide) (by decide) (by decide)) dX7_take_88 ?_
                      refine lv_topi (fun x_673 ex_673 => ?_)
                      have lf_674 : (f_665 3).toInt = x_673.toInt := by rw [ex_673]; rfl
                      refine lv_iconst (v := 1) hx hb dX7_take_89 (by decide) ?_
                      refine lv_isub hx hb dX7_take_90 ?_
                      refine lv_topi (fun x_675 ex_675 => ?_)
                      have tx_675 : x_675.toInt = (x_673.toInt - 1) := by rw [ex_675]; exact sub_ti (a := x_673.toInt) (b := 1) rfl (by decide) (by omega) (by omega)
                      refine va_iast hx hb hK hP hD hS 1 1 rfl rfl (vin (a := 3) (by decide) (by decide) (by decide)) dX7_take_91 (fun H locs hP hD hS => ?_)
                      obtain ⟨f_676, ef_676, hP, hD⟩ : ∃ f_676 : Nat → Int32, f_676 = upd f_665 (3 : Int32).toNatClampNeg x_675 ∧ va_P D vwCl [(A_self, .inr (7, o7 q v w)), (q 55, .inl (c 1, 6, .inl f_676))] H ∧ va_D A [(A_self, .inr (7, o7 q v w)), (q 55, .inl (c 1, 6, .inl f_676))] := ⟨_, rfl, hP, hD⟩
                      have cl_677 : (f_676 0).toInt = (f_665 0).toInt := by rw [ef_676]; rfl
                      have cl_678 : (f_676 1).toInt = (f_665 1).toInt := by rw [ef_676]; rfl
                      have cl_679 : (f_676 2).toInt = (f_665 2).toInt := by rw [ef_676]; rfl
                      have cl_680 : (f_676 3).toInt = x_675.toInt := by rw [ef_676]; rfl
                      have cl_681 : (f_676 4).toInt = (f_665 4).toInt := by rw [ef_676]; rfl
                      have cl_682 : (f_676 5).toInt = (f_665 5).toInt := by rw [ef_676]; rfl
                      refine lv_iinc (v := 2) (lv' := [(5, .int 2), (2, .int x_672), (4, .int r_415), (3, .int 1), (0, .ref A_self), (1, .int a1)]) hx hb dX7_take_92 hl (k := 1) rfl (by decide) (by decide) rfl (fun ls hl => ?_)
                      refine lv_aload_n hx hb dX7_take_95 rfl (lv_at hl 4 rfl) ?_
                      refine va_get (D := D) (ci := 7) (v := .ref (q 55)) (C := RX7) (T := TX7) (N := 56) hx hb hts (fun _ h => List.mem_cons_of_mem _ (List.mem_append_right _ h)) hown hK hP 0 rfl rfl 55 (by decide) (hts (.fieldLink RX7 118 "CrownTableModel" "cloth" "[I") (mem_i 2 rfl)) (fun _ h9 => h9) rfl dX7_take_96 ?_
                      refine lv_iload hx hb dX7_take_99 (lv_at hl 0 rfl) ?_
                      refine lv_dup2_11 hx hb dX7_take_101 rfl rfl ?_
                      refine va_iald hx hb hK hP 1 1 rfl rfl (vin (a := 2) (by decide) (by decide) (by decide)) dX7_take_102 ?_
                      refine lv_topi (fun x_683 ex_683 => ?_)
                      have lf_684 : (f_676 2).toInt = x_683.toInt := by rw [ex_683]; rfl
                      refine lv_iload hx hb dX7_take_103 (lv_at hl 0 rfl) ?_
                      have hPc := hP.sub (ws' := []) [] rfl
                      have hDc := hD.sub (ws' := []) [] (by decide) rfl
                      have hFc := va_free (wc := []) hD hS hA [] rfl
                      have kzz_685 : (2 : Int32).toInt = 2 := by decide
                      refine va_csi (va_runS (As := [.int 2]) (rest := [.int x_683, .int 2, .ref (q 55)]) ⟨hx, hb, hml, hown, hts⟩ (k_X7_next l D c ts H.size 2 2 (by decide) (by omega)) (cwS 1 hts gX7_take_X7_next rfl rfl rfl ⟨rfl, hdX7_next⟩ ⟨(show 1 + 1 ≤ 2 by decide), (show 8 + (1 + 11) + 20 ≤ 43 by decide)⟩) ⟨Pre0.blind, Pre0.at hPc hDc hAm hSt hS hFc⟩ rfl rfl hl.1 rfl (lv_room (Nat.le_of_ble_eq_true rfl)) dX7_take_105 ⟨(show 0 + 0 ≤ 0 by decide), (show 0 + 0 ≤ 0 by decide)⟩) (fun r_687 hw_686 => ?_)
                      rcases hw_686 with ⟨hw_686, rfl⟩ | ⟨hw_686, rfl⟩ | ⟨hw_686, rfl⟩ | ⟨hw_686, rfl⟩
                      · exfalso; omega
                      · skip
                        refine lv_iadd hx hb dX7_take_108 ?_
                        refine lv_topi (fun x_688 ex_688 => ?_)
                        have tx_688 : x_688.toInt = (x_683.toInt + 20) := by rw [ex_688]; exact add_ti (a := x_683.toInt) (b := 20) rfl (by decide) (by omega) (by omega)
                        refine va_iast hx hb hK hP hD hS 1 1 rfl rfl (vin (a := 2) (by decide) (by decide) (by decide)) dX7_take_109 (fun H locs hP hD hS => ?_)
                        obtain ⟨f_689, ef_689, hP, hD⟩ : ∃ f_689 : Nat → Int32, f_689 = upd f_676 (2 : Int32).toNatClampNeg x_688 ∧ va_P D vwCl [(A_self, .inr (7, o7 q v w)), (q 55, .inl (c 1, 6, .inl f_689))] H ∧ va_D A [(A_self, .inr (7, o7 q v w)), (q 55, .inl (c 1, 6, .inl f_689))] := ⟨_, rfl, hP, hD⟩
                        have cl_690 : (f_689 0).toInt = (f_676 0).toInt := by rw [ef_689]; rfl
                        have cl_691 : (f_689 1).toInt = (f_676 1).toInt := by rw [ef_689]; rfl
                        have cl_692 : (f_689 2).toInt = x_688.toInt := by rw [ef_689]; rfl
                        have cl_693 : (f_689 3).toInt = (f_676 3).toInt := by rw [ef_689]; rfl
                        have cl_694 : (f_689 4).toInt = (f_676 4).toInt := by rw [ef_689]; rfl
                        have cl_695 : (f_689 5).toInt = (f_676 5).toInt := by rw [ef_689]; rfl
                        obtain ⟨x_696, ex_696⟩ : ∃ y : Int32, y = x_672 + 1 := ⟨_, rfl⟩
                        have tx_696 : x_696.toInt = x_672.toInt + 1 := by rw [ex_696]; exact add_ti (a := x_672.toInt) (b := 1) rfl (by decide) (by omega) (by omega)
                        refine lv_iinc (v := x_696) (lv' := [(2, .int x_696), (5, .int 2), (4, .int r_415), (3, .int 1), (0, .ref A_self), (1, .int a1)]) hx hb dX7_take_110 hl (k := 1) rfl (by rw [ex_696]; rfl) (by decide) rfl (fun ls hl => ?_)
                        refine lv_goto (tgt := 75) hx hb dX7_take_113 (by decide) ?_
                        refine lv_iload hx hb dX7_take_75 (lv_at hl 1 rfl) ?_
                        refine lv_iload_n hx hb dX7_take_77 rfl (lv_at hl 3 rfl) ?_
                        refine iicmp_leF (a := 2) (b := 1) (tgt := 116) hx hb (by decide) (by decide) dX7_take_78 (by decide) (by decide) ?_
                        refine lv_aload_n hx hb dX7_take_81 rfl (lv_at hl 4 rfl) ?_
                        refine va_get (D := D) (ci := 7) (v := .ref (q 55)) (C := RX7) (T := TX7) (N := 56) hx hb hts (fun _ h => List.mem_cons_of_mem _ (List.mem_append_right _ h)) hown hK hP 0 rfl rfl 55 (by decide) (hts (.fieldLink RX7 118 "CrownTableModel" "cloth" "[I") (mem_i 2 rfl)) (fun _ h9 => h9) rfl dX7_take_82 ?_
                        refine lv_iload hx hb dX7_take_85 (lv_at hl 1 rfl) ?_
                        refine lv_dup2_11 hx hb dX7_take_87 rfl rfl ?_
                        refine va_iald hx hb hK hP 1 1 rfl rfl (vin (a := 2) (by decide) (by decide) (by decide)) dX7_take_88 ?_
                        refine lv_topi (fun x_697 ex_697 => ?_)
                        have lf_698 : (f_689 2).toInt = x_697.toInt := by rw [ex_697]; rfl
                        refine lv_iconst (v := 1) hx hb dX7_take_89 (by decide) ?_
                        refine lv_isub hx hb dX7_take_90 ?_
                        refine lv_topi (fun x_699 ex_699 => ?_)
                        have tx_699 : x_699.toInt = (x_697.toInt - 1) := by rw [ex_699]; exact sub_ti (a := x_697.toInt) (b := 1) rfl (by decide) (by omega) (by omega)
                        refine va_iast hx hb hK hP hD hS 1 1 rfl rfl (vin (a := 2) (by decide) (by decide) (by decide)) dX7_take_91 (fun H locs hP hD hS => ?_)
                        obtain ⟨f_700, ef_700, hP, hD⟩ : ∃ f_700 : Nat → Int32, f_700 = upd f_689 (2 : Int32).toNatClampNeg x_699 ∧ va_P D vwCl [(A_self, .inr (7, o7 q v w)), (q 55, .inl (c 1, 6, .inl f_700))] H ∧ va_D A [(A_self, .inr (7, o7 q v w)), (q 55, .inl (c 1, 6, .inl f_700))] := ⟨_, rfl, hP, hD⟩
                        have cl_701 : (f_700 0).toInt = (f_689 0).toInt := by rw [ef_700]; rfl
                        have cl_702 : (f_700 1).toInt = (f_689 1).toInt := by rw [ef_700]; rfl
                        have cl_703 : (f_700 2).toInt = x_699.toInt := by rw [ef_700]; rfl
                        have cl_704 : (f_700 3).toInt = (f_689 3).toInt := by rw [ef_700]; rfl
                        have cl_705 : (f_700 4).toInt = (f_689 4).toInt := by rw [ef_700]; rfl
                        have cl_706 : (f_700 5).toInt = (f_689 5).toInt := by rw [ef_700]; rfl
                        refine lv_iinc (v := 1) (lv' := [(5, .int 1), (2, .int x_696), (4, .int r_415), (3, .int 1), (0, .ref A_self), (1, .int a1)]) hx hb dX7_take_92 hl (k := 1) rfl (by decide) (by decide) rfl (fun ls hl => ?_)
                        refine lv_aload_n hx hb dX7_take_95 rfl (lv_at hl 4 rfl) ?_
                        refine va_get (D := D) (ci := 7) (v := .ref (q 55)) (C := RX7) (T := TX7) (N := 56) hx hb hts (fun _ h => List.mem_cons_of_mem _ (List.mem_append_right _ h)) hown hK hP 0 rfl rfl 55 (by decide) (hts (.fieldLink RX7 118 "CrownTableModel" "cloth" "[I") (mem_i 2 rfl)) (fun _ h9 => h9) rfl dX7_take_96 ?_
                        refine lv_iload hx hb dX7_take_99 (lv_at hl 0 rfl) ?_
                        refine lv_dup2_11 hx hb dX7_take_101 rfl rfl ?_
                        refine va_iald hx hb hK hP 1 1 rfl rfl (vin (a := 1) (by decide) (by decide) (by decide)) dX7_take_102 ?_
                        refine lv_topi (fun x_707 ex_707 => ?_)
                        have lf_708 : (f_700 1).toInt = x_707.toInt := by rw [ex_707]; rfl
                        refine lv_iload hx hb dX7_take_103 (lv_at hl 0 rfl) ?_
                        have hPc := hP.sub (ws' := []) [] rfl
                        have hDc := hD.sub (ws' := []) [] (by decide) rfl
                        have hFc := va_free (wc := []) hD hS hA [] rfl
                        have kzz_709 : (1 : Int32).toInt = 1 := by decide
                        refine va_csi (va_runS (As := [.int 1]) (rest := [.int x_707, .int 1, .ref (q 55)]) ⟨hx, hb, hml, hown, hts⟩ (k_X7_next l D c ts H.size 1 1 (by decide) (by omega)) (cwS 1 hts gX7_take_X7_next rfl rfl rfl ⟨rfl, hdX7_next⟩ ⟨(show 1 + 1 ≤ 2 by decide), (show 8 + (1 + 11) + 20 ≤ 43 by decide)⟩) ⟨Pre0.blind, Pre0.at hPc hDc hAm hSt hS hFc⟩ rfl rfl hl.1 rfl (lv_room (Nat.le_of_ble_eq_true rfl)) dX7_take_105 ⟨(show 0 + 0 ≤ 0 by decide), (show 0 + 0 ≤ 0 by decide)⟩) (fun r_711 hw_710 => ?_)
                        rcases hw_710 with ⟨hw_710, rfl⟩ | ⟨hw_710, rfl⟩ | ⟨hw_710, rfl⟩ | ⟨hw_710, rfl⟩
                        · exfalso; omega
                        · skip
                          refine lv_iadd hx hb dX7_take_108 ?_
                          refine lv_topi (fun x_712 ex_712 => ?_)
                          have tx_712 : x_712.toInt = (x_707.toInt + 20) := by rw [ex_712]; exact add_ti (a := x_707.toInt) (b := 20) rfl (by decide) (by omega) (by omega)
                          refine va_iast hx hb hK hP hD hS 1 1 rfl rfl (vin (a := 1) (by decide) (by decide) (by decide)) dX7_take_109 (fun H locs hP hD hS => ?_)
                          obtain ⟨f_713, ef_713, hP, hD⟩ : ∃ f_713 : Nat → Int32, f_713 = upd f_700 (1 : Int32).toNatClampNeg x_712 ∧ va_P D vwCl [(A_self, .inr (7, o7 q v w)), (q 55, .inl (c 1, 6, .inl f_713))] H ∧ va_D A [(A_self, .inr (7, o7 q v w)), (q 55, .inl (c 1, 6, .inl f_713))] := ⟨_, rfl, hP, hD⟩
                          have cl_714 : (f_713 0).toInt = (f_700 0).toInt := by rw [ef_713]; rfl
                          have cl_715 : (f_713 1).toInt = x_712.toInt := by rw [ef_713]; rfl
                          have cl_716 : (f_713 2).toInt = (f_700 2).toInt := by rw [ef_713]; rfl
                          have cl_717 : (f_713 3).toInt = (f_700 3).toInt := by rw [ef_713]; rfl
                          have cl_718 : (f_713 4).toInt = (f_700 4).toInt := by rw [ef_713]; rfl
                          have cl_719 : (f_713 5).toInt = (f_700 5).toInt := by rw [ef_713]; rfl
                          obtain ⟨x_720, ex_720⟩ : ∃ y : Int32, y = x_696 + 1 := ⟨_, rfl⟩
                          have tx_720 : x_720.toInt = x_696.toInt + 1 := by rw [ex_720]; exact add_ti (a := x_696.toInt) (b := 1) rfl (by decide) (by omega) (by omega)
                          refine lv_iinc (v := x_720) (lv' := [(2, .int x_720), (5, .int 1), (4, .int r_415), (3, .int 1), (0, .ref A_self), (1, .int a1)]) hx hb dX7_take_110 hl (k := 1) rfl (by rw [ex_720]; rfl) (by decide) rfl (fun ls hl => ?_)
                          refine lv_goto (tgt := 75) hx hb dX7_take_113 (by decide) ?_
                          refine lv_iload hx hb dX7_take_75 (lv_at hl 1 rfl) ?_
                          refine lv_iload_n hx hb dX7_take_77 rfl (lv_at hl 3 rfl) ?_
                          refine iicmp_leT (a := 1) (b := 1) (tgt := 116) hx hb (by decide) (by decide) dX7_take_78 (by decide) (by decide) ?_
                          refine lv_goto (tgt := 43) hx hb dX7_take_116 (by decide) ?_
                          refine lv_aload_n hx hb dX7_take_43 rfl (lv_at hl 4 rfl) ?_
                          refine va_get (D := D) (ci := 7) (v := .ref (q 55)) (C := RX7) (T := TX7) (N := 56) hx hb hts (fun _ h => List.mem_cons_of_mem _ (List.mem_append_right _ h)) hown hK hP 0 rfl rfl 55 (by decide) (hts (.fieldLink RX7 118 "CrownTableModel" "cloth" "[I") (mem_i 2 rfl)) (fun _ h9 => h9) rfl dX7_take_44 ?_
                          refine lv_iload_n hx hb dX7_take_47 rfl (lv_at hl 3 rfl) ?_
                          refine va_iald hx hb hK hP 1 1 rfl rfl (vin (a := 1) (by decide) (by decide) (by decide)) dX7_take_48 ?_
                          refine lv_topi (fun x_721 ex_721 => ?_)
                          have lf_722 : (f_713 1).toInt = x_721.toInt := by rw [ex_721]; rfl
                          refine lv_iload hx hb dX7_take_49 (lv_at hl 2 rfl) ?_
                          refine iicmp_ge (a := x_721.toInt) (b := r_415.toInt) (tgt := 119) hx hb rfl rfl dX7_take_51 (by decide) (fun k_723 => ?_) (fun k_723 => ?_)
                          · skip
                            refine lv_aload_n hx hb dX7_take_119 rfl (lv_at hl 4 rfl) ?_
                            refine va_get (D := D) (ci := 7) (v := .ref (q 55)) (C := RX7) (T := TX7) (N := 56) hx hb hts (fun _ h => List.mem_cons_of_mem _ (List.mem_append_right _ h)) hown hK hP 0 rfl rfl 55 (by decide) (hts (.fieldLink RX7 118 "CrownTableModel" "cloth" "[I") (mem_i 2 rfl)) (fun _ h9 => h9) rfl dX7_take_120 ?_
                            refine lv_iload_n hx hb dX7_take_123 rfl (lv_at hl 3 rfl) ?_
                            refine lv_dup2_11 hx hb dX7_take_124 rfl rfl ?_
                            refine va_iald hx hb hK hP 1 1 rfl rfl (vin (a := 1) (by decide) (by decide) (by decide)) dX7_take_125 ?_
                            refine lv_topi (fun x_724 ex_724 => ?_)
                            have lf_725 : (f_713 1).toInt = x_724.toInt := by rw [ex_724]; rfl
                            refine lv_iload hx hb dX7_take_126 (lv_at hl 2 rfl) ?_
                            refine lv_isub hx hb dX7_take_128 ?_
                            refine lv_topi (fun x_726 ex_726 => ?_)
                            have tx_726 : x_726.toInt = (x_724.toInt - r_415.toInt) := by rw [ex_726]; exact sub_ti (a := x_724.toInt) (b := r_415.toInt) rfl rfl (by omega) (by omega)
                            refine va_iast hx hb hK hP hD hS 1 1 rfl rfl (vin (a := 1) (by decide) (by decide) (by decide)) dX7_take_129 (fun H locs hP hD hS => ?_)
                            obtain ⟨f_727, ef_727, hP, hD⟩ : ∃ f_727 : Nat → Int32, f_727 = upd f_713 (1 : Int32).toNatClampNeg x_726 ∧ va_P D vwCl [(A_self, .inr (7, o7 q v w)), (q 55, .inl (c 1, 6, .inl f_727))] H ∧ va_D A [(A_self, .inr (7, o7 q v w)), (q 55, .inl (c 1, 6, .inl f_727))] := ⟨_, rfl, hP, hD⟩
                            have cl_728 : (f_727 0).toInt = (f_713 0).toInt := by rw [ef_727]; rfl
                            have cl_729 : (f_727 1).toInt = x_726.toInt := by rw [ef_727]; rfl
                            have cl_730 : (f_727 2).toInt = (f_713 2).toInt := by rw [ef_727]; rfl
                            have cl_731 : (f_727 3).toInt = (f_713 3).toInt := by rw [ef_727]; rfl
                            have cl_732 : (f_727 4).toInt = (f_713 4).toInt := by rw [ef_727]; rfl
                            have cl_733 : (f_727 5).toInt = (f_713 5).toInt := by rw [ef_727]; rfl
                            refine lv_iinc (v := 2) (lv' := [(3, .int 2), (2, .int x_720), (5, .int 1), (4, .int r_415), (0, .ref A_self), (1, .int a1)]) hx hb dX7_take_130 hl (k := 3) rfl (by decide) (by decide) rfl (fun ls hl => ?_)
                            refine lv_goto (tgt := 30) hx hb dX7_take_133 (by decide) ?_
                            obtain ⟨ts, td0, td1, td2, td3, td4, td5, tl⟩ := TkS.b1_5 (d0 := (f_727 0).toInt) (d1 := (f_727 1).toInt) (d2 := (f_727 2).toInt) (d3 := (f_727 3).toInt) (d4 := (f_727 4).toInt) (d5 := (f_727 5).toInt) (L1 := x_720.toInt) hf30_1_2 (by omega) (by omega) (by omega) (by omega) (by omega) (by omega) (by omega) (by omega) (by omega) (by omega) (by omega) (by omega)
                            have hl := lv_sub hl [0, 4, 5, 1] rfl
                            exact lp_30_2 x_720 f_727 (by omega) (by omega) ts td0 td1 td2 td3 td4 td5 _ _ _ hP hD hS hl
                          · skip
                            exfalso; omega
                        · exfalso; omega
                        · exfalso; omega
                      · exfalso; omega
                      · exfalso; omega
                    · exfalso; omega
                · skip
                  exact (TkS.n1 hf30_1_2 (by omega) (by omega) (by omega) (by omega) (by omega)).elim
      have lp_30_0 : ∀ (L2 : Int32) (M_cloth : Nat → Int32) (hf30_0_0 : 0 ≤ L2.toInt) (hf30_0_1 : L2.toInt ≤ 5) (hf30_0_2 : TkS0 (f_cloth 0).toInt (f_cloth 1).toInt (f_cloth 2).toInt (f_cloth 3).toInt (f_cloth 4).toInt (f_cloth 5).toInt (M_cloth 0).toInt (M_cloth 1).toInt (M_cloth 2).toInt (M_cloth 3).toInt (M_cloth 4).toInt (M_cloth 5).toInt n0 n1 n2 n3 n4 n5 L2.toInt) (hf30_0_3 : 0 ≤ (M_cloth 0).toInt ∧ (M_cloth 0).toInt ≤ 11) (hf30_0_4 : 0 ≤ (M_cloth 1).toInt ∧ (M_cloth 1).toInt ≤ 19) (hf30_0_5 : 0 ≤ (M_cloth 2).toInt ∧ (M_cloth 2).toInt ≤ 19) (hf30_0_6 : 0 ≤ (M_cloth 3).toInt ∧ (M_cloth 3).toInt ≤ 4) (hf30_0_7 : 0 ≤ (M_cloth 4).toInt ∧ (M_cloth 4).toInt ≤ 9) (hf30_0_8 : 0 ≤ (M_cloth 5).toInt ∧ (M_cloth 5).toInt ≤ 900000) (H : Heap) (locs : List Loc) (ls : Array Slot), va_P D vwCl [(A_self, .inr (7, o7 q v w)), (q 55, .inl (c 1, 6, .inl M_cloth))] H → va_D A [(A_self, .inr (7, o7 q v w)), (q 55, .inl (c 1, 6, .inl M_cloth))] → va_S A s.heap H locs → lv_has ls 6 [(3, .int 0), (0, .ref A_self), (1, .int a1), (2, .int L2)] → W p l e (headSpec wsX7_take ({ frames := 2, cells := 0, slots := 0, locals := 43 })).room s m (([.ref A_self, .int a1] : List Value).toArray) below meth cd H locs 0 0 (MQ below (va_Qi (fun (r : Int32) (u : (Nat → Int32) × Unit) => (0 ≤ (u.1 0).toInt ∧ (u.1 0).toInt ≤ 11) ∧ (0 ≤ (u.1 1).toInt ∧ (u.1 1).toInt ≤ 19) ∧ (0 ≤ (u.1 2).toInt ∧ (u.1 2).toInt ≤ 19) ∧ (0 ≤ (u.1 3).toInt ∧ (u.1 3).toInt ≤ 4) ∧ (0 ≤ (u.1 4).toInt ∧ (u.1 4).toInt ≤ 9) ∧ (0 ≤ (u.1 5).toInt ∧ (u.1 5).toInt ≤ cb) ∧ ((r.toInt = -1 ∧ ¬ (1 ≤ i_a1 ∧ i_a1 ≤ 1000000) ∧ (u.1 0).toInt = (f_cloth 0).toInt ∧ (u.1 1).toInt = (f_cloth 1).toInt ∧ (u.1 2).toInt = (f_cloth 2).toInt ∧ (u.1 3).toInt = (f_cloth 3).toInt ∧ (u.1 4).toInt = (f_cloth 4).toInt ∧ (u.1 5).toInt = (f_cloth 5).toInt) ∨ ((1 ≤ i_a1 ∧ i_a1 ≤ 1000000) ∧ r.toInt = -2 ∧ (f_cloth 0).toInt + 12 * (f_cloth 1).toInt + 240 * (f_cloth 2).toInt + 4800 * (f_cloth 3).toInt + 24000 * (f_cloth 4).toInt + 240000 * (f_cloth 5).toInt < i_a1 ∧ (u.1 0).toInt = (f_cloth 0).toInt ∧ (u.1 1).toInt = (f_cloth 1).toInt ∧ (u.1 2).toInt = (f_cloth 2).toInt ∧ (u.1 3).toInt = (f_cloth 3).toInt ∧ (u.1 4).toInt = (f_cloth 4).toInt ∧ (u.1 5).toInt = (f_cloth 5).toInt) ∨ ((1 ≤ i_a1 ∧ i_a1 ≤ 1000000) ∧ i_a1 ≤ (f_cloth 0).toInt + 12 * (f_cloth 1).toInt + 240 * (f_cloth 2).toInt + 4800 * (f_cloth 3).toInt + 24000 * (f_cloth 4).toInt + 240000 * (f_cloth 5).toInt ∧ TakI (f_cloth 0).toInt (f_cloth 1).toInt (f_cloth 2).toInt (f_cloth 3).toInt (f_cloth 4).toInt (f_cloth 5).toInt (u.1 0).toInt (u.1 1).toInt (u.1 2).toInt (u.1 3).toInt (u.1 4).toInt (u.1 5).toInt i_a1 r.toInt ∧ (0 ≤ (u.1 0).toInt ∧ (u.1 0).toInt ≤ 11) ∧ (0 ≤ (u.1 1).toInt ∧ (u.1 1).toInt ≤ 19) ∧ (0 ≤ (u.1 2).toInt ∧ (u.1 2).toInt ≤ 19) ∧ (0 ≤ (u.1 3).toInt ∧ (u.1 3).toInt ≤ 4) ∧ (0 ≤ (u.1 4).toInt ∧ (u.1 4).toInt ≤ 9)))) (fun u t => va_P D vwCl [(A_self, .inr (7, o7 q v w)), (q 55, .inl (c 1, 6, .inl u.1))] t.heap ∧ va_D A [(A_self, .inr (7, o7 q v w)), (q 55, .inl (c 1, 6, .inl u.1))]) A) ([.ref A_self, .int a1] : List Value).toArray s 0 0 A) (F0 m 30 ls []) := by
        intro L2 M_cloth hf30_0_0 hf30_0_1 hf30_0_2 hf30_0_3 hf30_0_4 hf30_0_5 hf30_0_6 hf30_0_7 hf30_0_8 H locs ls hP hD hS hl
        clear tv tw
        refine lv_iload_n hx hb dX7_take_30 rfl (lv_at hl 0 rfl) ?_
        refine lv_bipush (v := 6) hx hb dX7_take_31 (by decide) ?_
        refine iicmp_geF (a := 0) (b := 6) (tgt := 136) hx hb (by decide) (by decide) dX7_take_33 (by decide) (by decide) ?_
        refine lv_iload_n hx hb dX7_take_36 rfl (lv_at hl 2 rfl) ?_
        refine lv_iload_n hx hb dX7_take_37 rfl (lv_at hl 0 rfl) ?_
        have hPc := hP.sub (ws' := []) [] rfl
        have hDc := hD.sub (ws' := []) [] (by decide) rfl
        have hFc := va_free (wc := []) hD hS hA [] rfl
        have kzz_734 : (0 : Int32).toInt = 0 := by decide
        refine va_csi (va_runS (As := [.int a1, .int 0]) (rest := []) ⟨hx, hb, hml, hown, hts⟩ (k_X7_notch_P l D c ts H.size a1 i_a1 hi_a1 0 0 (by decide) (by omega) (by omega)) (cwS 2 hts gX7_take_X7_notch rfl rfl rfl ⟨rfl, hdX7_notch⟩ ⟨(show 1 + 1 ≤ 2 by decide), (show 8 + (2 + 11) + 20 ≤ 43 by decide)⟩) ⟨Pre0.blind, Pre0.at hPc hDc hAm hSt hS hFc⟩ rfl rfl hl.1 rfl (lv_room (Nat.le_of_ble_eq_true rfl)) dX7_take_38 ⟨(show 0 + 0 ≤ 0 by decide), (show 0 + 0 ≤ 0 by decide)⟩) (fun r_736 hw_735 => ?_)
        have nf_737 : r_736.toInt = n0 := (hw_735.2.1 rfl).trans hDg.1
        clear hw_735
        have rg_r_736 := i32r r_736
        refine lv_istore (lv' := [(4, .int r_736), (3, .int 0), (0, .ref A_self), (1, .int a1), (2, .int L2)]) hx hb dX7_take_41 hl (by decide) rfl (fun ls hl => ?_)
        refine lv_aload_n hx hb dX7_take_43 rfl (lv_at hl 2 rfl) ?_
        refine va_get (D := D) (ci := 7) (v := .ref (q 55)) (C := RX7) (T := TX7) (N := 56) hx hb hts (fun _ h => List.mem_cons_of_mem _ (List.mem_append_right _ h)) hown hK hP 0 rfl rfl 55 (by decide) (hts (.fieldLink RX7 118 "CrownTableModel" "cloth" "[I") (mem_i 2 rfl)) (fun _ h9 => h9) rfl dX7_take_44 ?_
        refine lv_iload_n hx hb dX7_take_47 rfl (lv_at hl 1 rfl) ?_
        refine va_iald hx hb hK hP 1 1 rfl rfl (vin (a := 0) (by decide) (by decide) (by decide)) dX7_take_48 ?_
        refine lv_topi (fun x_738 ex_738 => ?_)
        have lf_739 : (M_cloth 0).toInt = x_738.toInt := by rw [ex_738]; rfl
        refine lv_iload hx hb dX7_take_49 (lv_at hl 0 rfl) ?_
        refine iicmp_ge (a := x_738.toInt) (b := r_736.toInt) (tgt := 119) hx hb rfl rfl dX7_take_51 (by decide) (fun k_740 => ?_) (fun k_740 => ?_)
        · skip
          refine lv_aload_n hx hb dX7_take_119 rfl (lv_at hl 2 rfl) ?_
          refine va_get (D := D) (ci := 7) (v := .ref (q 55)) (C := RX7) (T := TX7) (N := 56) hx hb hts (fun _ h => List.mem_cons_of_mem _ (List.mem_append_right _ h)) hown hK hP 0 rfl rfl 55 (by decide) (hts (.fieldLink RX7 118 "CrownTableModel" "cloth" "[I") (mem_i 2 rfl)) (fun _ h9 => h9) rfl dX7_take_120 ?_
          refine lv_iload_n hx hb dX7_take_123 rfl (lv_at hl 1 rfl) ?_
          refine lv_dup2_11 hx hb dX7_take_124 rfl rfl ?_
          refine va_iald hx hb hK hP 1 1 rfl rfl (vin (a := 0) (by decide) (by decide) (by decide)) dX7_take_125 ?_
          refine lv_topi (fun x_741 ex_741 => ?_)
          have lf_742 : (M_cloth 0).toInt = x_741.toInt := by rw [ex_741]; rfl
          refine lv_iload hx hb dX7_take_126 (lv_at hl 0 rfl) ?_
          refine lv_isub hx hb dX7_take_128 ?_
          refine lv_topi (fun x_743 ex_743 => ?_)
          have tx_743 : x_743.toInt = (x_741.toInt - r_736.toInt) := by rw [ex_743]; exact sub_ti (a := x_741.toInt) (b := r_736.toInt) rfl rfl (by omega) (by omega)
          refine va_iast hx hb hK hP hD hS 1 1 rfl rfl (vin (a := 0) (by decide) (by decide) (by decide)) dX7_take_129 (fun H locs hP hD hS => ?_)
          obtain ⟨f_744, ef_744, hP, hD⟩ : ∃ f_744 : Nat → Int32, f_744 = upd M_cloth (0 : Int32).toNatClampNeg x_743 ∧ va_P D vwCl [(A_self, .inr (7, o7 q v w)), (q 55, .inl (c 1, 6, .inl f_744))] H ∧ va_D A [(A_self, .inr (7, o7 q v w)), (q 55, .inl (c 1, 6, .inl f_744))] := ⟨_, rfl, hP, hD⟩
          have cl_745 : (f_744 0).toInt = x_743.toInt := by rw [ef_744]; rfl
          have cl_746 : (f_744 1).toInt = (M_cloth 1).toInt := by rw [ef_744]; rfl
          have cl_747 : (f_744 2).toInt = (M_cloth 2).toInt := by rw [ef_744]; rfl
          have cl_748 : (f_744 3).toInt = (M_cloth 3).toInt := by rw [ef_744]; rfl
          have cl_749 : (f_744 4).toInt = (M_cloth 4).toInt := by rw [ef_744]; rfl
          have cl_750 : (f_744 5).toInt = (M_cloth 5).toInt := by rw [ef_744]; rfl
          refine lv_iinc (v := 1) (lv' := [(3, .int 1), (4, .int r_736), (0, .ref A_self), (1, .int a1), (2, .int L2)]) hx hb dX7_take_130 hl (k := 1) rfl (by decide) (by decide) rfl (fun ls hl => ?_)
          refine lv_goto (tgt := 30) hx hb dX7_take_133 (by decide) ?_
          obtain ⟨ts, td0, td1, td2, td3, td4, td5, tl⟩ := TkS.s0 (d0 := (f_744 0).toInt) (d1 := (f_744 1).toInt) (d2 := (f_744 2).toInt) (d3 := (f_744 3).toInt) (d4 := (f_744 4).toInt) (d5 := (f_744 5).toInt) hf30_0_2 (by omega) (by omega) (by omega) (by omega) (by omega) (by omega) (by omega)
          have hl := lv_sub hl [0, 2, 3, 4] rfl
          exact lp_30_1 L2 f_744 (by omega) (by omega) ts td0 td1 td2 td3 td4 td5 _ _ _ hP hD hS hl
        · skip
          refine lv_iload_n hx hb dX7_take_54 rfl (lv_at hl 1 rfl) ?_
          refine lv_iconst (v := 1) hx hb dX7_take_55 (by decide) ?_
          refine lv_iadd hx hb dX7_take_56 ?_
          refine lk_i (y := 1) (by decide) ?_
          refine lv_istore (lv' := [(5, .int 1), (4, .int r_736), (3, .int 0), (0, .ref A_self), (1, .int a1), (2, .int L2)]) hx hb dX7_take_57 hl (by decide) rfl (fun ls hl => ?_)
          refine lv_aload_n hx hb dX7_take_59 rfl (lv_at hl 3 rfl) ?_
          refine va_get (D := D) (ci := 7) (v := .ref (q 55)) (C := RX7) (T := TX7) (N := 56) hx hb hts (fun _ h => List.mem_cons_of_mem _ (List.mem_append_right _ h)) hown hK hP 0 rfl rfl 55 (by decide) (hts (.fieldLink RX7 118 "CrownTableModel" "cloth" "[I") (mem_i 2 rfl)) (fun _ h9 => h9) rfl dX7_take_60 ?_
          refine lv_iload hx hb dX7_take_63 (lv_at hl 0 rfl) ?_
          refine va_iald hx hb hK hP 1 1 rfl rfl (vin (a := 1) (by decide) (by decide) (by decide)) dX7_take_65 ?_
          refine lv_topi (fun x_751 ex_751 => ?_)
          have lf_752 : (M_cloth 1).toInt = x_751.toInt := by rw [ex_751]; rfl
          refine iif_ne (a := x_751.toInt) (tgt := 75) hx hb rfl dX7_take_66 (by decide) (fun k_753 => ?_) (fun k_753 => ?_)
          · skip
            refine lv_iload hx hb dX7_take_75 (lv_at hl 0 rfl) ?_
            refine lv_iload_n hx hb dX7_take_77 rfl (lv_at hl 2 rfl) ?_
            refine iicmp_leF (a := 1) (b := 0) (tgt := 116) hx hb (by decide) (by decide) dX7_take_78 (by decide) (by decide) ?_
            refine lv_aload_n hx hb dX7_take_81 rfl (lv_at hl 3 rfl) ?_
            refine va_get (D := D) (ci := 7) (v := .ref (q 55)) (C := RX7) (T := TX7) (N := 56) hx hb hts (fun _ h => List.mem_cons_of_mem _ (List.mem_append_right _ h)) hown hK hP 0 rfl rfl 55 (by decide) (hts (.fieldLink RX7 118 "CrownTableModel" "cloth" "[I") (mem_i 2 rfl)) (fun _ h9 => h9) rfl dX7_take_82 ?_
            refine lv_iload hx hb dX7_take_85 (lv_at hl 0 rfl) ?_
            refine lv_dup2_11 hx hb dX7_take_87 rfl rfl ?_
            refine va_iald hx hb hK hP 1 1 rfl rfl (vin (a := 1) (by decide) (by decide) (by decide)) dX7_take_88 ?_
            refine lv_topi (fun x_754 ex_754 => ?_)
            have lf_755 : (M_cloth 1).toInt = x_754.toInt := by rw [ex_754]; rfl
            refine lv_iconst (v := 1) hx hb dX7_take_89 (by decide) ?_
            refine lv_isub hx hb dX7_take_90 ?_
            refine lv_topi (fun x_756 ex_756 => ?_)
            have tx_756 : x_756.toInt = (x_754.toInt - 1) := by rw [ex_756]; exact sub_ti (a := x_754.toInt) (b := 1) rfl (by decide) (by omega) (by omega)
            refine va_iast hx hb hK hP hD hS 1 1 rfl rfl (vin (a := 1) (by decide) (by decide) (by decide)) dX7_take_91 (fun H locs hP hD hS => ?_)
            obtain ⟨f_757, ef_757, hP, hD⟩ : ∃ f_757 : Nat → Int32, f_757 = upd M_cloth (1 : Int32).toNatClampNeg x_756 ∧ va_P D vwCl [(A_self, .inr (7, o7 q v w)), (q 55, .inl (c 1, 6, .inl f_757))] H ∧ va_D A [(A_self, .inr (7, o7 q v w)), (q 55, .inl (c 1, 6, .inl f_757))] := ⟨_, rfl, hP, hD⟩
            have cl_758 : (f_757 0).toInt = (M_cloth 0).toInt := by rw [ef_757]; rfl
            have cl_759 : (f_757 1).toInt = x_756.toInt := by rw [ef_757]; rfl
            have cl_760 : (f_757 2).toInt = (M_cloth 2).toInt := by rw [ef_757]; rfl
            have cl_761 : (f_757 3).toInt = (M_cloth 3).toInt := by rw [ef_757]; rfl
            have cl_762 : (f_757 4).toInt = (M_cloth 4).toInt := by rw [ef_757]; rfl
            have cl_763 : (f_757 5).toInt = (M_cloth 5).toInt := by rw [ef_757]; rfl
            refine lv_iinc (v := 0) (lv' := [(5, .int 0), (4, .int r_736), (3, .int 0), (0, .ref A_self), (1, .int a1), (2, .int L2)]) hx hb dX7_take_92 hl (k := 0) rfl (by decide) (by decide) rfl (fun ls hl => ?_)
            refine lv_aload_n hx hb dX7_take_95 rfl (lv_at hl 3 rfl) ?_
            refine va_get (D := D) (ci := 7) (v := .ref (q 55)) (C := RX7) (T := TX7) (N := 56) hx hb hts (fun _ h => List.mem_cons_of_mem _ (List.mem_append_right _ h)) hown hK hP 0 rfl rfl 55 (by decide) (hts (.fieldLink RX7 118 "CrownTableModel" "cloth" "[I") (mem_i 2 rfl)) (fun _ h9 => h9) rfl dX7_take_96 ?_
            refine lv_iload hx hb dX7_take_99 (lv_at hl 0 rfl) ?_
            refine lv_dup2_11 hx hb dX7_take_101 rfl rfl ?_
            refine va_iald hx hb hK hP 1 1 rfl rfl (vin (a := 0) (by decide) (by decide) (by decide)) dX7_take_102 ?_
            refine lv_topi (fun x_764 ex_764 => ?_)
            have lf_765 : (f_757 0).toInt = x_764.toInt := by rw [ex_764]; rfl
            refine lv_iload hx hb dX7_take_103 (lv_at hl 0 rfl) ?_
            have hPc := hP.sub (ws' := []) [] rfl
            have hDc := hD.sub (ws' := []) [] (by decide) rfl
            have hFc := va_free (wc := []) hD hS hA [] rfl
            have kzz_766 : (0 : Int32).toInt = 0 := by decide
            refine va_csi (va_runS (As := [.int 0]) (rest := [.int x_764, .int 0, .ref (q 55)]) ⟨hx, hb, hml, hown, hts⟩ (k_X7_next l D c ts H.size 0 0 (by decide) (by omega)) (cwS 1 hts gX7_take_X7_next rfl rfl rfl ⟨rfl, hdX7_next⟩ ⟨(show 1 + 1 ≤ 2 by decide), (show 8 + (1 + 11) + 20 ≤ 43 by decide)⟩) ⟨Pre0.blind, Pre0.at hPc hDc hAm hSt hS hFc⟩ rfl rfl hl.1 rfl (lv_room (Nat.le_of_ble_eq_true rfl)) dX7_take_105 ⟨(show 0 + 0 ≤ 0 by decide), (show 0 + 0 ≤ 0 by decide)⟩) (fun r_768 hw_767 => ?_)
            rcases hw_767 with ⟨hw_767, rfl⟩ | ⟨hw_767, rfl⟩ | ⟨hw_767, rfl⟩ | ⟨hw_767, rfl⟩
            · skip
              refine lv_iadd hx hb dX7_take_108 ?_
              refine lv_topi (fun x_769 ex_769 => ?_)
              have tx_769 : x_769.toInt = (x_764.toInt + 12) := by rw [ex_769]; exact add_ti (a := x_764.toInt) (b := 12) rfl (by decide) (by omega) (by omega)
              refine va_iast hx hb hK hP hD hS 1 1 rfl rfl (vin (a := 0) (by decide) (by decide) (by decide)) dX7_take_109 (fun H locs hP hD hS => ?_)
              obtain ⟨f_770, ef_770, hP, hD⟩ : ∃ f_770 : Nat → Int32, f_770 = upd f_757 (0 : Int32).toNatClampNeg x_769 ∧ va_P D vwCl [(A_self, .inr (7, o7 q v w)), (q 55, .inl (c 1, 6, .inl f_770))] H ∧ va_D A [(A_self, .inr (7, o7 q v w)), (q 55, .inl (c 1, 6, .inl f_770))] := ⟨_, rfl, hP, hD⟩
              have cl_771 : (f_770 0).toInt = x_769.toInt := by rw [ef_770]; rfl
              have cl_772 : (f_770 1).toInt = (f_757 1).toInt := by rw [ef_770]; rfl
              have cl_773 : (f_770 2).toInt = (f_757 2).toInt := by rw [ef_770]; rfl
              have cl_774 : (f_770 3).toInt = (f_757 3).toInt := by rw [ef_770]; rfl
              have cl_775 : (f_770 4).toInt = (f_757 4).toInt := by rw [ef_770]; rfl
              have cl_776 : (f_770 5).toInt = (f_757 5).toInt := by rw [ef_770]; rfl
              obtain ⟨x_777, ex_777⟩ : ∃ y : Int32, y = L2 + 1 := ⟨_, rfl⟩
              have tx_777 : x_777.toInt = L2.toInt + 1 := by rw [ex_777]; exact add_ti (a := L2.toInt) (b := 1) rfl (by decide) (by omega) (by omega)
              refine lv_iinc (v := x_777) (lv' := [(2, .int x_777), (5, .int 0), (4, .int r_736), (3, .int 0), (0, .ref A_self), (1, .int a1)]) hx hb dX7_take_110 hl (k := 5) rfl (by rw [ex_777]; rfl) (by decide) rfl (fun ls hl => ?_)
              refine lv_goto (tgt := 75) hx hb dX7_take_113 (by decide) ?_
              refine lv_iload hx hb dX7_take_75 (lv_at hl 1 rfl) ?_
              refine lv_iload_n hx hb dX7_take_77 rfl (lv_at hl 3 rfl) ?_
              refine iicmp_leT (a := 0) (b := 0) (tgt := 116) hx hb (by decide) (by decide) dX7_take_78 (by decide) (by decide) ?_
              refine lv_goto (tgt := 43) hx hb dX7_take_116 (by decide) ?_
              refine lv_aload_n hx hb dX7_take_43 rfl (lv_at hl 4 rfl) ?_
              refine va_get (D := D) (ci := 7) (v := .ref (q 55)) (C := RX7) (T := TX7) (N := 56) hx hb hts (fun _ h => List.mem_cons_of_mem _ (List.mem_append_right _ h)) hown hK hP 0 rfl rfl 55 (by decide) (hts (.fieldLink RX7 118 "CrownTableModel" "cloth" "[I") (mem_i 2 rfl)) (fun _ h9 => h9) rfl dX7_take_44 ?_
              refine lv_iload_n hx hb dX7_take_47 rfl (lv_at hl 3 rfl) ?_
              refine va_iald hx hb hK hP 1 1 rfl rfl (vin (a := 0) (by decide) (by decide) (by decide)) dX7_take_48 ?_
              refine lv_topi (fun x_778 ex_778 => ?_)
              have lf_779 : (f_770 0).toInt = x_778.toInt := by rw [ex_778]; rfl
              refine lv_iload hx hb dX7_take_49 (lv_at hl 2 rfl) ?_
              refine iicmp_ge (a := x_778.toInt) (b := r_736.toInt) (tgt := 119) hx hb rfl rfl dX7_take_51 (by decide) (fun k_780 => ?_) (fun k_780 => ?_)
              · skip
                refine lv_aload_n hx hb dX7_take_119 rfl (lv_at hl 4 rfl) ?_
                refine va_get (D := D) (ci := 7) (v := .ref (q 55)) (C := RX7) (T := TX7) (N := 56) hx hb hts (fun _ h => List.mem_cons_of_mem _ (List.mem_append_right _ h)) hown hK hP 0 rfl rfl 55 (by decide) (hts (.fieldLink RX7 118 "CrownTableModel" "cloth" "[I") (mem_i 2 rfl)) (fun _ h9 => h9) rfl dX7_take_120 ?_
                refine lv_iload_n hx hb dX7_take_123 rfl (lv_at hl 3 rfl) ?_
                refine lv_dup2_11 hx hb dX7_take_124 rfl rfl ?_
                refine va_iald hx hb hK hP 1 1 rfl rfl (vin (a := 0) (by decide) (by decide) (by decide)) dX7_take_125 ?_
                refine lv_topi (fun x_781 ex_781 => ?_)
                have lf_782 : (f_770 0).toInt = x_781.toInt := by rw [ex_781]; rfl
                refine lv_iload hx hb dX7_take_126 (lv_at hl 2 rfl) ?_
                refine lv_isub hx hb dX7_take_128 ?_
                refine lv_topi (fun x_783 ex_783 => ?_)
                have tx_783 : x_783.toInt = (x_781.toInt - r_736.toInt) := by rw [ex_783]; exact sub_ti (a := x_781.toInt) (b := r_736.toInt) rfl rfl (by omega) (by omega)
                refine va_iast hx hb hK hP hD hS 1 1 rfl rfl (vin (a := 0) (by decide) (by decide) (by decide)) dX7_take_129 (fun H locs hP hD hS => ?_)
                obtain ⟨f_784, ef_784, hP, hD⟩ : ∃ f_784 : Nat → Int32, f_784 = upd f_770 (0 : Int32).toNatClampNeg x_783 ∧ va_P D vwCl [(A_self, .inr (7, o7 q v w)), (q 55, .inl (c 1, 6, .inl f_784))] H ∧ va_D A [(A_self, .inr (7, o7 q v w)), (q 55, .inl (c 1, 6, .inl f_784))] := ⟨_, rfl, hP, hD⟩
                have cl_785 : (f_784 0).toInt = x_783.toInt := by rw [ef_784]; rfl
                have cl_786 : (f_784 1).toInt = (f_770 1).toInt := by rw [ef_784]; rfl
                have cl_787 : (f_784 2).toInt = (f_770 2).toInt := by rw [ef_784]; rfl
                have cl_788 : (f_784 3).toInt = (f_770 3).toInt := by rw [ef_784]; rfl
                have cl_789 : (f_784 4).toInt = (f_770 4).toInt := by rw [ef_784]; rfl
                have cl_790 : (f_784 5).toInt = (f_770 5).toInt := by rw [ef_784]; rfl
                refine lv_iinc (v := 1) (lv' := [(3, .int 1), (2, .int x_777), (5, .int 0), (4, .int r_736), (0, .ref A_self), (1, .int a1)]) hx hb dX7_take_130 hl (k := 3) rfl (by decide) (by decide) rfl (fun ls hl => ?_)
                refine lv_goto (tgt := 30) hx hb dX7_take_133 (by decide) ?_
                obtain ⟨ts, td0, td1, td2, td3, td4, td5, tl⟩ := TkS.b0_1 (d0 := (f_784 0).toInt) (d1 := (f_784 1).toInt) (d2 := (f_784 2).toInt) (d3 := (f_784 3).toInt) (d4 := (f_784 4).toInt) (d5 := (f_784 5).toInt) (L1 := x_777.toInt) hf30_0_2 (by omega) (by omega) (by omega) (by omega) (by omega) (by omega) (by omega) (by omega) (by omega)
                have hl := lv_sub hl [0, 4, 5, 1] rfl
                exact lp_30_1 x_777 f_784 (by omega) (by omega) ts td0 td1 td2 td3 td4 td5 _ _ _ hP hD hS hl
              · skip
                exfalso; omega
            · exfalso; omega
            · exfalso; omega
            · exfalso; omega
          · skip
            refine lv_iinc (v := 2) (lv' := [(5, .int 2), (4, .int r_736), (3, .int 0), (0, .ref A_self), (1, .int a1), (2, .int L2)]) hx hb dX7_take_69 hl (k := 0) rfl (by decide) (by decide) rfl (fun ls hl => ?_)
            refine lv_goto (tgt := 59) hx hb dX7_take_72 (by decide) ?_
            refine lv_aload_n hx hb dX7_take_59 rfl (lv_at hl 3 rfl) ?_
            refine va_get (D := D) (ci := 7) (v := .ref (q 55)) (C := RX7) (T := TX7) (N := 56) hx hb hts (fun _ h => List.mem_cons_of_mem _ (List.mem_append_right _ h)) hown hK hP 0 rfl rfl 55 (by decide) (hts (.fieldLink RX7 118 "CrownTableModel" "cloth" "[I") (mem_i 2 rfl)) (fun _ h9 => h9) rfl dX7_take_60 ?_
            refine lv_iload hx hb dX7_take_63 (lv_at hl 0 rfl) ?_
            refine va_iald hx hb hK hP 1 1 rfl rfl (vin (a := 2) (by decide) (by decide) (by decide)) dX7_take_65 ?_
            refine lv_topi (fun x_791 ex_791 => ?_)
            have lf_792 : (M_cloth 2).toInt = x_791.toInt := by rw [ex_791]; rfl
            refine iif_ne (a := x_791.toInt) (tgt := 75) hx hb rfl dX7_take_66 (by decide) (fun k_793 => ?_) (fun k_793 => ?_)
            · skip
              refine lv_iload hx hb dX7_take_75 (lv_at hl 0 rfl) ?_
              refine lv_iload_n hx hb dX7_take_77 rfl (lv_at hl 2 rfl) ?_
              refine iicmp_leF (a := 2) (b := 0) (tgt := 116) hx hb (by decide) (by decide) dX7_take_78 (by decide) (by decide) ?_
              refine lv_aload_n hx hb dX7_take_81 rfl (lv_at hl 3 rfl) ?_
              refine va_get (D := D) (ci := 7) (v := .ref (q 55)) (C := RX7) (T := TX7) (N := 56) hx hb hts (fun _ h => List.mem_cons_of_mem _ (List.mem_append_right _ h)) hown hK hP 0 rfl rfl 55 (by decide) (hts (.fieldLink RX7 118 "CrownTableModel" "cloth" "[I") (mem_i 2 rfl)) (fun _ h9 => h9) rfl dX7_take_82 ?_
              refine lv_iload hx hb dX7_take_85 (lv_at hl 0 rfl) ?_
              refine lv_dup2_11 hx hb dX7_take_87 rfl rfl ?_
              refine va_iald hx hb hK hP 1 1 rfl rfl (vin (a := 2) (by decide) (by decide) (by decide)) dX7_take_88 ?_
              refine lv_topi (fun x_794 ex_794 => ?_)
              have lf_795 : (M_cloth 2).toInt = x_794.toInt := by rw [ex_794]; rfl
              refine lv_iconst (v := 1) hx hb dX7_take_89 (by decide) ?_
              refine lv_isub hx hb dX7_take_90 ?_
              refine lv_topi (fun x_796 ex_796 => ?_)
              have tx_796 : x_796.toInt = (x_794.toInt - 1) := by rw [ex_796]; exact sub_ti (a := x_794.toInt) (b := 1) rfl (by decide) (by omega) (by omega)
              refine va_iast hx hb hK hP hD hS 1 1 rfl rfl (vin (a := 2) (by decide) (by decide) (by decide)) dX7_take_91 (fun H locs hP hD hS => ?_)
              obtain ⟨f_797, ef_797, hP, hD⟩ : ∃ f_797 : Nat → Int32, f_797 = upd M_cloth (2 : Int32).toNatClampNeg x_796 ∧ va_P D vwCl [(A_self, .inr (7, o7 q v w)), (q 55, .inl (c 1, 6, .inl f_797))] H ∧ va_D A [(A_self, .inr (7, o7 q v w)), (q 55, .inl (c 1, 6, .inl f_797))] := ⟨_, rfl, hP, hD⟩
              have cl_798 : (f_797 0).toInt = (M_cloth 0).toInt := by rw [ef_797]; rfl
              have cl_799 : (f_797 1).toInt = (M_cloth 1).toInt := by rw [ef_797]; rfl
              have cl_800 : (f_797 2).toInt = x_796.toInt := by rw [ef_797]; rfl
              have cl_801 : (f_797 3).toInt = (M_cloth 3).toInt := by rw [ef_797]; rfl
              have cl_802 : (f_797 4).toInt = (M_cloth 4).toInt := by rw [ef_797]; rfl
              have cl_803 : (f_797 5).toInt = (M_cloth 5).toInt := by rw [ef_797]; rfl
              refine lv_iinc (v := 1) (lv' := [(5, .int 1), (4, .int r_736), (3, .int 0), (0, .ref A_self), (1, .int a1), (2, .int L2)]) hx hb dX7_take_92 hl (k := 0) rfl (by decide) (by decide) rfl (fun ls hl => ?_)
              refine lv_aload_n hx hb dX7_take_95 rfl (lv_at hl 3 rfl) ?_
              refine va_get (D := D) (ci := 7) (v := .ref (q 55)) (C := RX7) (T := TX7) (N := 56) hx hb hts (fun _ h => List.mem_cons_of_mem _ (List.mem_append_right _ h)) hown hK hP 0 rfl rfl 55 (by decide) (hts (.fieldLink RX7 118 "CrownTableModel" "cloth" "[I") (mem_i 2 rfl)) (fun _ h9 => h9) rfl dX7_take_96 ?_
              refine lv_iload hx hb dX7_take_99 (lv_at hl 0 rfl) ?_
              refine lv_dup2_11 hx hb dX7_take_101 rfl rfl ?_
              refine va_iald hx hb hK hP 1 1 rfl rfl (vin (a := 1) (by decide) (by decide) (by decide)) dX7_take_102 ?_
              refine lv_topi (fun x_804 ex_804 => ?_)
              have lf_805 : (f_797 1).toInt = x_804.toInt := by rw [ex_804]; rfl
              refine lv_iload hx hb dX7_take_103 (lv_at hl 0 rfl) ?_
              have hPc := hP.sub (ws' := []) [] rfl
              have hDc := hD.sub (ws' := []) [] (by decide) rfl
              have hFc := va_free (wc := []) hD hS hA [] rfl
              have kzz_806 : (1 : Int32).toInt = 1 := by decide
              refine va_csi (va_runS (As := [.int 1]) (rest := [.int x_804, .int 1, .ref (q 55)]) ⟨hx, hb, hml, hown, hts⟩ (k_X7_next l D c ts H.size 1 1 (by decide) (by omega)) (cwS 1 hts gX7_take_X7_next rfl rfl rfl ⟨rfl, hdX7_next⟩ ⟨(show 1 + 1 ≤ 2 by decide), (show 8 + (1 + 11) + 20 ≤ 43 by decide)⟩) ⟨Pre0.blind, Pre0.at hPc hDc hAm hSt hS hFc⟩ rfl rfl hl.1 rfl (lv_room (Nat.le_of_ble_eq_true rfl)) dX7_take_105 ⟨(show 0 + 0 ≤ 0 by decide), (show 0 + 0 ≤ 0 by decide)⟩) (fun r_808 hw_807 => ?_)
              rcases hw_807 with ⟨hw_807, rfl⟩ | ⟨hw_807, rfl⟩ | ⟨hw_807, rfl⟩ | ⟨hw_807, rfl⟩
              · exfalso; omega
              · skip
                refine lv_iadd hx hb dX7_take_108 ?_
                refine lv_topi (fun x_809 ex_809 => ?_)
                have tx_809 : x_809.toInt = (x_804.toInt + 20) := by rw [ex_809]; exact add_ti (a := x_804.toInt) (b := 20) rfl (by decide) (by omega) (by omega)
                refine va_iast hx hb hK hP hD hS 1 1 rfl rfl (vin (a := 1) (by decide) (by decide) (by decide)) dX7_take_109 (fun H locs hP hD hS => ?_)
                obtain ⟨f_810, ef_810, hP, hD⟩ : ∃ f_810 : Nat → Int32, f_810 = upd f_797 (1 : Int32).toNatClampNeg x_809 ∧ va_P D vwCl [(A_self, .inr (7, o7 q v w)), (q 55, .inl (c 1, 6, .inl f_810))] H ∧ va_D A [(A_self, .inr (7, o7 q v w)), (q 55, .inl (c 1, 6, .inl f_810))] := ⟨_, rfl, hP, hD⟩
                have cl_811 : (f_810 0).toInt = (f_797 0).toInt := by rw [ef_810]; rfl
                have cl_812 : (f_810 1).toInt = x_809.toInt := by rw [ef_810]; rfl
                have cl_813 : (f_810 2).toInt = (f_797 2).toInt := by rw [ef_810]; rfl
                have cl_814 : (f_810 3).toInt = (f_797 3).toInt := by rw [ef_810]; rfl
                have cl_815 : (f_810 4).toInt = (f_797 4).toInt := by rw [ef_810]; rfl
                have cl_816 : (f_810 5).toInt = (f_797 5).toInt := by rw [ef_810]; rfl
                obtain ⟨x_817, ex_817⟩ : ∃ y : Int32, y = L2 + 1 := ⟨_, rfl⟩
                have tx_817 : x_817.toInt = L2.toInt + 1 := by rw [ex_817]; exact add_ti (a := L2.toInt) (b := 1) rfl (by decide) (by omega) (by omega)
                refine lv_iinc (v := x_817) (lv' := [(2, .int x_817), (5, .int 1), (4, .int r_736), (3, .int 0), (0, .ref A_self), (1, .int a1)]) hx hb dX7_take_110 hl (k := 5) rfl (by rw [ex_817]; rfl) (by decide) rfl (fun ls hl => ?_)
                refine lv_goto (tgt := 75) hx hb dX7_take_113 (by decide) ?_
                refine lv_iload hx hb dX7_take_75 (lv_at hl 1 rfl) ?_
                refine lv_iload_n hx hb dX7_take_77 rfl (lv_at hl 3 rfl) ?_
                refine iicmp_leF (a := 1) (b := 0) (tgt := 116) hx hb (by decide) (by decide) dX7_take_78 (by decide) (by decide) ?_
                refine lv_aload_n hx hb dX7_take_81 rfl (lv_at hl 4 rfl) ?_
                refine va_get (D := D) (ci := 7) (v := .ref (q 55)) (C := RX7) (T := TX7) (N := 56) hx hb hts (fun _ h => List.mem_cons_of_mem _ (List.mem_append_right _ h)) hown hK hP 0 rfl rfl 55 (by decide) (hts (.fieldLink RX7 118 "CrownTableModel" "cloth" "[I") (mem_i 2 rfl)) (fun _ h9 => h9) rfl dX7_take_82 ?_
                refine lv_iload hx hb dX7_take_85 (lv_at hl 1 rfl) ?_
                refine lv_dup2_11 hx hb dX7_take_87 rfl rfl ?_
                refine va_iald hx hb hK hP 1 1 rfl rfl (vin (a := 1) (by decide) (by decide) (by decide)) dX7_take_88 ?_
                refine lv_topi (fun x_818 ex_818 => ?_)
                have lf_819 : (f_810 1).toInt = x_818.toInt := by rw [ex_818]; rfl
                refine lv_iconst (v := 1) hx hb dX7_take_89 (by decide) ?_
                refine lv_isub hx hb dX7_take_90 ?_
                refine lv_topi (fun x_820 ex_820 => ?_)
                have tx_820 : x_820.toInt = (x_818.toInt - 1) := by rw [ex_820]; exact sub_ti (a := x_818.toInt) (b := 1) rfl (by decide) (by omega) (by omega)
                refine va_iast hx hb hK hP hD hS 1 1 rfl rfl (vin (a := 1) (by decide) (by decide) (by decide)) dX7_take_91 (fun H locs hP hD hS => ?_)
                obtain ⟨f_821, ef_821, hP, hD⟩ : ∃ f_821 : Nat → Int32, f_821 = upd f_810 (1 : Int32).toNatClampNeg x_820 ∧ va_P D vwCl [(A_self, .inr (7, o7 q v w)), (q 55, .inl (c 1, 6, .inl f_821))] H ∧ va_D A [(A_self, .inr (7, o7 q v w)), (q 55, .inl (c 1, 6, .inl f_821))] := ⟨_, rfl, hP, hD⟩
                have cl_822 : (f_821 0).toInt = (f_810 0).toInt := by rw [ef_821]; rfl
                have cl_823 : (f_821 1).toInt = x_820.toInt := by rw [ef_821]; rfl
                have cl_824 : (f_821 2).toInt = (f_810 2).toInt := by rw [ef_821]; rfl
                have cl_825 : (f_821 3).toInt = (f_810 3).toInt := by rw [ef_821]; rfl
                have cl_826 : (f_821 4).toInt = (f_810 4).toInt := by rw [ef_821]; rfl
                have cl_827 : (f_821 5).toInt = (f_810 5).toInt := by rw [ef_821]; rfl
                refine lv_iinc (v := 0) (lv' := [(5, .int 0), (2, .int x_817), (4, .int r_736), (3, .int 0), (0, .ref A_self), (1, .int a1)]) hx hb dX7_take_92 hl (k := 1) rfl (by decide) (by decide) rfl (fun ls hl => ?_)
                refine lv_aload_n hx hb dX7_take_95 rfl (lv_at hl 4 rfl) ?_
                refine va_get (D := D) (ci := 7) (v := .ref (q 55)) (C := RX7) (T := TX7) (N := 56) hx hb hts (fun _ h => List.mem_cons_of_mem _ (List.mem_append_right _ h)) hown hK hP 0 rfl rfl 55 (by decide) (hts (.fieldLink RX7 118 "CrownTableModel" "cloth" "[I") (mem_i 2 rfl)) (fun _ h9 => h9) rfl dX7_take_96 ?_
                refine lv_iload hx hb dX7_take_99 (lv_at hl 0 rfl) ?_
                refine lv_dup2_11 hx hb dX7_take_101 rfl rfl ?_
                refine va_iald hx hb hK hP 1 1 rfl rfl (vin (a := 0) (by decide) (by decide) (by decide)) dX7_take_102 ?_
                refine lv_topi (fun x_828 ex_828 => ?_)
                have lf_829 : (f_821 0).toInt = x_828.toInt := by rw [ex_828]; rfl
                refine lv_iload hx hb dX7_take_103 (lv_at hl 0 rfl) ?_
                have hPc := hP.sub (ws' := []) [] rfl
                have hDc := hD.sub (ws' := []) [] (by decide) rfl
                have hFc := va_free (wc := []) hD hS hA [] rfl
                have kzz_830 : (0 : Int32).toInt = 0 := by decide
                refine va_csi (va_runS (As := [.int 0]) (rest := [.int x_828, .int 0, .ref (q 55)]) ⟨hx, hb, hml, hown, hts⟩ (k_X7_next l D c ts H.size 0 0 (by decide) (by omega)) (cwS 1 hts gX7_take_X7_next rfl rfl rfl ⟨rfl, hdX7_next⟩ ⟨(show 1 + 1 ≤ 2 by decide), (show 8 + (1 + 11) + 20 ≤ 43 by decide)⟩) ⟨Pre0.blind, Pre0.at hPc hDc hAm hSt hS hFc⟩ rfl rfl hl.1 rfl (lv_room (Nat.le_of_ble_eq_true rfl)) dX7_take_105 ⟨(show 0 + 0 ≤ 0 by decide), (show 0 + 0 ≤ 0 by decide)⟩) (fun r_832 hw_831 => ?_)
                rcases hw_831 with ⟨hw_831, rfl⟩ | ⟨hw_831, rfl⟩ | ⟨hw_831, rfl⟩ | ⟨hw_831, rfl⟩
                · skip
                  refine lv_iadd hx hb dX7_take_108 ?_
                  refine lv_topi (fun x_833 ex_833 => ?_)
                  have tx_833 : x_833.toInt = (x_828.toInt + 12) := by rw [ex_833]; exact add_ti (a := x_828.toInt) (b := 12) rfl (by decide) (by omega) (by omega)
                  refine va_iast hx hb hK hP hD hS 1 1 rfl rfl (vin (a := 0) (by decide) (by decide) (by decide)) dX7_take_109 (fun H locs hP hD hS => ?_)
                  obtain ⟨f_834, ef_834, hP, hD⟩ : ∃ f_834 : Nat → Int32, f_834 = upd f_821 (0 : Int32).toNatClampNeg x_833 ∧ va_P D vwCl [(A_self, .inr (7, o7 q v w)), (q 55, .inl (c 1, 6, .inl f_834))] H ∧ va_D A [(A_self, .inr (7, o7 q v w)), (q 55, .inl (c 1, 6, .inl f_834))] := ⟨_, rfl, hP, hD⟩
                  have cl_835 : (f_834 0).toInt = x_833.toInt := by rw [ef_834]; rfl
                  have cl_836 : (f_834 1).toInt = (f_821 1).toInt := by rw [ef_834]; rfl
                  have cl_837 : (f_834 2).toInt = (f_821 2).toInt := by rw [ef_834]; rfl
                  have cl_838 : (f_834 3).toInt = (f_821 3).toInt := by rw [ef_834]; rfl
                  have cl_839 : (f_834 4).toInt = (f_821 4).toInt := by rw [ef_834]; rfl
                  have cl_840 : (f_834 5).toInt = (f_821 5).toInt := by rw [ef_834]; rfl
                  obtain ⟨x_841, ex_841⟩ : ∃ y : Int32, y = x_817 + 1 := ⟨_, rfl⟩
                  have tx_841 : x_841.toInt = x_817.toInt + 1 := by rw [ex_841]; exact add_ti (a := x_817.toInt) (b := 1) rfl (by decide) (by omega) (by omega)
                  refine lv_iinc (v := x_841) (lv' := [(2, .int x_841), (5, .int 0), (4, .int r_736), (3, .int 0), (0, .ref A_self), (1, .int a1)]) hx hb dX7_take_110 hl (k := 1) rfl (by rw [ex_841]; rfl) (by decide) rfl (fun ls hl => ?_)
                  refine lv_goto (tgt := 75) hx hb dX7_take_113 (by decide) ?_
                  refine lv_iload hx hb dX7_take_75 (lv_at hl 1 rfl) ?_
                  refine lv_iload_n hx hb dX7_take_77 rfl (lv_at hl 3 rfl) ?_
                  refine iicmp_leT (a := 0) (b := 0) (tgt := 116) hx hb (by decide) (by decide) dX7_take_78 (by decide) (by decide) ?_
                  refine lv_goto (tgt := 43) hx hb dX7_take_116 (by decide) ?_
                  refine lv_aload_n hx hb dX7_take_43 rfl (lv_at hl 4 rfl) ?_
                  refine va_get (D := D) (ci := 7) (v := .ref (q 55)) (C := RX7) (T := TX7) (N := 56) hx hb hts (fun _ h => List.mem_cons_of_mem _ (List.mem_append_right _ h)) hown hK hP 0 rfl rfl 55 (by decide) (hts (.fieldLink RX7 118 "CrownTableModel" "cloth" "[I") (mem_i 2 rfl)) (fun _ h9 => h9) rfl dX7_take_44 ?_
                  refine lv_iload_n hx hb dX7_take_47 rfl (lv_at hl 3 rfl) ?_
                  refine va_iald hx hb hK hP 1 1 rfl rfl (vin (a := 0) (by decide) (by decide) (by decide)) dX7_take_48 ?_
                  refine lv_topi (fun x_842 ex_842 => ?_)
                  have lf_843 : (f_834 0).toInt = x_842.toInt := by rw [ex_842]; rfl
                  refine lv_iload hx hb dX7_take_49 (lv_at hl 2 rfl) ?_
                  refine iicmp_ge (a := x_842.toInt) (b := r_736.toInt) (tgt := 119) hx hb rfl rfl dX7_take_51 (by decide) (fun k_844 => ?_) (fun k_844 => ?_)
                  · skip
                    refine lv_aload_n hx hb dX7_take_119 rfl (lv_at hl 4 rfl) ?_
                    refine va_get (D := D) (ci := 7) (v := .ref (q 55)) (C := RX7) (T := TX7) (N := 56) hx hb hts (fun _ h => List.mem_cons_of_mem _ (List.mem_append_right _ h)) hown hK hP 0 rfl rfl 55 (by decide) (hts (.fieldLink RX7 118 "CrownTableModel" "cloth" "[I") (mem_i 2 rfl)) (fun _ h9 => h9) rfl dX7_take_120 ?_
                    refine lv_iload_n hx hb dX7_take_123 rfl (lv_at hl 3 rfl) ?_
                    refine lv_dup2_11 hx hb dX7_take_124 rfl rfl ?_
                    refine va_iald hx hb hK hP 1 1 rfl rfl (vin (a := 0) (by decide) (by decide) (by decide)) dX7_take_125 ?_
                    refine lv_topi (fun x_845 ex_845 => ?_)
                    have lf_846 : (f_834 0).toInt = x_845.toInt := by rw [ex_845]; rfl
                    refine lv_iload hx hb dX7_take_126 (lv_at hl 2 rfl) ?_
                    refine lv_isub hx hb dX7_take_128 ?_
                    refine lv_topi (fun x_847 ex_847 => ?_)
                    have tx_847 : x_847.toInt = (x_845.toInt - r_736.toInt) := by rw [ex_847]; exact sub_ti (a := x_845.toInt) (b := r_736.toInt) rfl rfl (by omega) (by omega)
                    refine va_iast hx hb hK hP hD hS 1 1 rfl rfl (vin (a := 0) (by decide) (by decide) (by decide)) dX7_take_129 (fun H locs hP hD hS => ?_)
                    obtain ⟨f_848, ef_848, hP, hD⟩ : ∃ f_848 : Nat → Int32, f_848 = upd f_834 (0 : Int32).toNatClampNeg x_847 ∧ va_P D vwCl [(A_self, .inr (7, o7 q v w)), (q 55, .inl (c 1, 6, .inl f_848))] H ∧ va_D A [(A_self, .inr (7, o7 q v w)), (q 55, .inl (c 1, 6, .inl f_848))] := ⟨_, rfl, hP, hD⟩
                    have cl_849 : (f_848 0).toInt = x_847.toInt := by rw [ef_848]; rfl
                    have cl_850 : (f_848 1).toInt = (f_834 1).toInt := by rw [ef_848]; rfl
                    have cl_851 : (f_848 2).toInt = (f_834 2).toInt := by rw [ef_848]; rfl
                    have cl_852 : (f_848 3).toInt = (f_834 3).toInt := by rw [ef_848]; rfl
                    have cl_853 : (f_848 4).toInt = (f_834 4).toInt := by rw [ef_848]; rfl
                    have cl_854 : (f_848 5).toInt = (f_834 5).toInt := by rw [ef_848]; rfl
                    refine lv_iinc (v := 1) (lv' := [(3, .int 1), (2, .int x_841), (5, .int 0), (4, .int r_736), (0, .ref A_self), (1, .int a1)]) hx hb dX7_take_130 hl (k := 3) rfl (by decide) (by decide) rfl (fun ls hl => ?_)
                    refine lv_goto (tgt := 30) hx hb dX7_take_133 (by decide) ?_
                    obtain ⟨ts, td0, td1, td2, td3, td4, td5, tl⟩ := TkS.b0_2 (d0 := (f_848 0).toInt) (d1 := (f_848 1).toInt) (d2 := (f_848 2).toInt) (d3 := (f_848 3).toInt) (d4 := (f_848 4).toInt) (d5 := (f_848 5).toInt) (L1 := x_841.toInt) hf30_0_2 (by omega) (by omega) (by omega) (by omega) (by omega) (by omega) (by omega) (by omega) (by omega) (by omega)
                    have hl := lv_sub hl [0, 4, 5, 1] rfl
                    exact lp_30_1 x_841 f_848 (by omega) (by omega) ts td0 td1 td2 td3 td4 td5 _ _ _ hP hD hS hl
                  · skip
                    exfalso; omega
                · exfalso; omega
                · exfalso; omega
                · exfalso; omega
              · exfalso; omega
              · exfalso; omega
            · skip
              refine lv_iinc (v := 3) (lv' := [(5, .int 3), (4, .int r_736), (3, .int 0), (0, .ref A_self), (1, .int a1), (2, .int L2)]) hx hb dX7_take_69 hl (k := 0) rfl (by decide) (by decide) rfl (fun ls hl => ?_)
              refine lv_goto (tgt := 59) hx hb dX7_take_72 (by decide) ?_
              refine lv_aload_n hx hb dX7_take_59 rfl (lv_at hl 3 rfl) ?_
              refine va_get (D := D) (ci := 7) (v := .ref (q 55)) (C := RX7) (T := TX7) (N := 56) hx hb hts (fun _ h => List.mem_cons_of_mem _ (List.mem_append_right _ h)) hown hK hP 0 rfl rfl 55 (by decide) (hts (.fieldLink RX7 118 "CrownTableModel" "cloth" "[I") (mem_i 2 rfl)) (fun _ h9 => h9) rfl dX7_take_60 ?_
              refine lv_iload hx hb dX7_take_63 (lv_at hl 0 rfl) ?_
              refine va_iald hx hb hK hP 1 1 rfl rfl (vin (a := 3) (by decide) (by decide) (by decide)) dX7_take_65 ?_
              refine lv_topi (fun x_855 ex_855 => ?_)
              have lf_856 : (M_cloth 3).toInt = x_855.toInt := by rw [ex_855]; rfl
              refine iif_ne (a := x_855.toInt) (tgt := 75) hx hb rfl dX7_take_66 (by decide) (fun k_857 => ?_) (fun k_857 => ?_)
              · skip
                refine lv_iload hx hb dX7_take_75 (lv_at hl 0 rfl) ?_
                refine lv_iload_n hx hb dX7_take_77 rfl (lv_at hl 2 rfl) ?_
                refine iicmp_leF (a := 3) (b := 0) (tgt := 116) hx hb (by decide) (by decide) dX7_take_78 (by decide) (by decide) ?_
                refine lv_aload_n hx hb dX7_take_81 rfl (lv_at hl 3 rfl) ?_
                refine va_get (D := D) (ci := 7) (v := .ref (q 55)) (C := RX7) (T := TX7) (N := 56) hx hb hts (fun _ h => List.mem_cons_of_mem _ (List.mem_append_right _ h)) hown hK hP 0 rfl rfl 55 (by decide) (hts (.fieldLink RX7 118 "CrownTableModel" "cloth" "[I") (mem_i 2 rfl)) (fun _ h9 => h9) rfl dX7_take_82 ?_
                refine lv_iload hx hb dX7_take_85 (lv_at hl 0 rfl) ?_
                refine lv_dup2_11 hx hb dX7_take_87 rfl rfl ?_
                refine va_iald hx hb hK hP 1 1 rfl rfl (vin (a := 3) (by decide) (by decide) (by decide)) dX7_take_88 ?_
                refine lv_topi (fun x_858 ex_858 => ?_)
                have lf_859 : (M_cloth 3).toInt = x_858.toInt := by rw [ex_858]; rfl
                refine lv_iconst (v := 1) hx hb dX7_take_89 (by decide) ?_
                refine lv_isub hx hb dX7_take_90 ?_
                refine lv_topi (fun x_860 ex_860 => ?_)
                have tx_860 : x_860.toInt = (x_858.toInt - 1) := by rw [ex_860]; exact sub_ti (a := x_858.toInt) (b := 1) rfl (by decide) (by omega) (by omega)
                refine va_iast hx hb hK hP hD hS 1 1 rfl rfl (vin (a := 3) (by decide) (by decide) (by decide)) dX7_take_91 (fun H locs hP hD hS => ?_)
                obtain ⟨f_861, ef_861, hP, hD⟩ : ∃ f_861 : Nat → Int32, f_861 = upd M_cloth (3 : Int32).toNatClampNeg x_860 ∧ va_P D vwCl [(A_self, .inr (7, o7 q v w)), (q 55, .inl (c 1, 6, .inl f_861))] H ∧ va_D A [(A_self, .inr (7, o7 q v w)), (q 55, .inl (c 1, 6, .inl f_861))] := ⟨_, rfl, hP, hD⟩
                have cl_862 : (f_861 0).toInt = (M_cloth 0).toInt := by rw [ef_861]; rfl
                have cl_863 : (f_861 1).toInt = (M_cloth 1).toInt := by rw [ef_861]; rfl
                have cl_864 : (f_861 2).toInt = (M_cloth 2).toInt := by rw [ef_861]; rfl
                have cl_865 : (f_861 3).toInt = x_860.toInt := by rw [ef_861]; rfl
                have cl_866 : (f_861 4).toInt = (M_cloth 4).toInt := by rw [ef_861]; rfl
                have cl_867 : (f_861 5).toInt = (M_cloth 5).toInt := by rw [ef_861]; rfl
                refine lv_iinc (v := 2) (lv' := [(5, .int 2), (4, .int r_736), (3, .int 0), (0, .ref A_self), (1, .int a1), (2, .int L2)]) hx hb dX7_take_92 hl (k := 0) rfl (by decide) (by decide) rfl (fun ls hl => ?_)
                refine lv_aload_n hx hb dX7_take_95 rfl (lv_at hl 3 rfl) ?_
                refine va_get (D := D) (ci := 7) (v := .ref (q 55)) (C := RX7) (T := TX7) (N := 56) hx hb hts (fun _ h => List.mem_cons_of_mem _ (List.mem_append_right _ h)) hown hK hP 0 rfl rfl 55 (by decide) (hts (.fieldLink RX7 118 "CrownTableModel" "cloth" "[I") (mem_i 2 rfl)) (fun _ h9 => h9) rfl dX7_take_96 ?_
                refine lv_iload hx hb dX7_take_99 (lv_at hl 0 rfl) ?_
                refine lv_dup2_11 hx hb dX7_take_101 rfl rfl ?_
                refine va_iald hx hb hK hP 1 1 rfl rfl (vin (a := 2) (by decide) (by decide) (by decide)) dX7_take_102 ?_
                refine lv_topi (fun x_868 ex_868 => ?_)
                have lf_869 : (f_861 2).toInt = x_868.toInt := by rw [ex_868]; rfl
                refine lv_iload hx hb dX7_take_103 (lv_at hl 0 rfl) ?_
                have hPc := hP.sub (ws' := []) [] rfl
                have hDc := hD.sub (ws' := []) [] (by decide) rfl
                have hFc := va_free (wc := []) hD hS hA [] rfl
                have kzz_870 : (2 : Int32).toInt = 2 := by decide
                refine va_csi (va_runS (As := [.int 2]) (rest := [.int x_868, .int 2, .ref (q 55)]) ⟨hx, hb, hml, hown, hts⟩ (k_X7_next l D c ts H.size 2 2 (by decide) (by omega)) (cwS 1 hts gX7_take_X7_next rfl rfl rfl ⟨rfl, hdX7_next⟩ ⟨(show 1 + 1 ≤ 2 by decide), (show 8 + (1 + 11) + 20 ≤ 43 by decide)⟩) ⟨Pre0.blind, Pre0.at hPc hDc hAm hSt hS hFc⟩ rfl rfl hl.1 rfl (lv_room (Nat.le_of_ble_eq_true rfl)) dX7_take_105 ⟨(show 0 + 0 ≤ 0 by decide), (show 0 + 0 ≤ 0 by decide)⟩) (fun r_872 hw_871 => ?_)
                rcases hw_871 with ⟨hw_871, rfl⟩ | ⟨hw_871, rfl⟩ | ⟨hw_871, rfl⟩ | ⟨hw_871, rfl⟩
                · exfalso; omega
                · skip
                  refine lv_iadd hx hb dX7_take_108 ?_
                  refine lv_topi (fun x_873 ex_873 => ?_)
                  have tx_873 : x_873.toInt = (x_868.toInt + 20) := by rw [ex_873]; exact add_ti (a := x_868.toInt) (b := 20) rfl (by decide) (by omega) (by omega)
                  refine va_iast hx hb hK hP hD hS 1 1 rfl rfl (vin (a := 2) (by decide) (by decide) (by decide)) dX7_take_109 (fun H locs hP hD hS => ?_)
                  obtain ⟨f_874, ef_874, hP, hD⟩ : ∃ f_874 : Nat → Int32, f_874 = upd f_861 (2 : Int32).toNatClampNeg x_873 ∧ va_P D vwCl [(A_self, .inr (7, o7 q v w)), (q 55, .inl (c 1, 6, .inl f_874))] H ∧ va_D A [(A_self, .inr (7, o7 q v w)), (q 55, .inl (c 1, 6, .inl f_874))] := ⟨_, rfl, hP, hD⟩
                  have cl_875 : (f_874 0).toInt = (f_861 0).toInt := by rw [ef_874]; rfl
                  have cl_876 : (f_874 1).toInt = (f_861 1).toInt := by rw [ef_874]; rfl
                  have cl_877 : (f_874 2).toInt = x_873.toInt := by rw [ef_874]; rfl
                  have cl_878 : (f_874 3).toInt = (f_861 3).toInt := by rw [ef_874]; rfl
                  have cl_879 : (f_874 4).toInt = (f_861 4).toInt := by rw [ef_874]; rfl
                  have cl_880 : (f_874 5).toInt = (f_861 5).toInt := by rw [ef_874]; rfl
                  obtain ⟨x_881, ex_881⟩ : ∃ y : Int32, y = L2 + 1 := ⟨_, rfl⟩
                  have tx_881 : x_881.toInt = L2.toInt + 1 := by rw [ex_881]; exact add_ti (a := L2.toInt) (b := 1) rfl (by decide) (by omega) (by omega)
                  refine lv_iinc (v := x_881) (lv' := [(2, .int x_881), (5, .int 2), (4, .int r_736), (3, .int 0), (0, .ref A_self), (1, .int a1)]) hx hb dX7_take_110 hl (k := 5) rfl (by rw [ex_881]; rfl) (by decide) rfl (fun ls hl => ?_)
                  refine lv_goto (tgt := 75) hx hb dX7_take_113 (by decide) ?_
                  refine lv_iload hx hb dX7_take_75 (lv_at hl 1 rfl) ?_
                  refine lv_iload_n hx hb dX7_take_77 rfl (lv_at hl 3 rfl) ?_
                  refine iicmp_leF (a := 2) (b := 0) (tgt := 116) hx hb (by decide) (by decide) dX7_take_78 (by decide) (by decide) ?_
                  refine lv_aload_n hx hb dX7_take_81 rfl (lv_at hl 4 rfl) ?_
                  refine va_get (D := D) (ci := 7) (v := .ref (q 55)) (C := RX7) (T := TX7) (N := 56) hx hb hts (fun _ h => List.mem_cons_of_mem _ (List.mem_append_right _ h)) hown hK hP 0 rfl rfl 55 (by decide) (hts (.fieldLink RX7 118 "CrownTableModel" "cloth" "[I") (mem_i 2 rfl)) (fun _ h9 => h9) rfl dX7_take_82 ?_
                  refine lv_iload hx hb dX7_take_85 (lv_at hl 1 rfl) ?_
                  refine lv_dup2_11 hx hb dX7_take_87 rfl rfl ?_
                  refine va_iald hx hb hK hP 1 1 rfl rfl (vin (a := 2) (by decide) (by decide) (by decide)) dX7_take_88 ?_
                  refine lv_topi (fun x_882 ex_882 => ?_)
                  have lf_883 : (f_874 2).toInt = x_882.toInt := by rw [ex_882]; rfl
                  refine lv_iconst (v := 1) hx hb dX7_take_89 (by decide) ?_
                  refine lv_isub hx hb dX7_take_90 ?_
                  refine lv_topi (fun x_884 ex_884 => ?_)
                  have tx_884 : x_884.toInt = (x_882.toInt - 1) := by rw [ex_884]; exact sub_ti (a := x_882.toInt) (b := 1) rfl (by decide) (by omega) (by omega)
                  refine va_iast hx hb hK hP hD hS 1 1 rfl rfl (vin (a := 2) (by decide) (by decide) (by decide)) dX7_take_91 (fun H locs hP hD hS => ?_)
                  obtain ⟨f_885, ef_885, hP, hD⟩ : ∃ f_885 : Nat → Int32, f_885 = upd f_874 (2 : Int32).toNatClampNeg x_884 ∧ va_P D vwCl [(A_self, .inr (7, o7 q v w)), (q 55, .inl (c 1, 6, .inl f_885))] H ∧ va_D A [(A_self, .inr (7, o7 q v w)), (q 55, .inl (c 1, 6, .inl f_885))] := ⟨_, rfl, hP, hD⟩
                  have cl_886 : (f_885 0).toInt = (f_874 0).toInt := by rw [ef_885]; rfl
                  have cl_887 : (f_885 1).toInt = (f_874 1).toInt := by rw [ef_885]; rfl
                  have cl_888 : (f_885 2).toInt = x_884.toInt := by rw [ef_885]; rfl
                  have cl_889 : (f_885 3).toInt = (f_874 3).toInt := by rw [ef_885]; rfl
                  have cl_890 : (f_885 4).toInt = (f_874 4).toInt := by rw [ef_885]; rfl
                  have cl_891 : (f_885 5).toInt = (f_874 5).toInt := by rw [ef_885]; rfl
                  refine lv_iinc (v := 1) (lv' := [(5, .int 1), (2, .int x_881), (4, .int r_736), (3, .int 0), (0, .ref A_self), (1, .int a1)]) hx hb dX7_take_92 hl (k := 1) rfl (by decide) (by decide) rfl (fun ls hl => ?_)
                  refine lv_aload_n hx hb dX7_take_95 rfl (lv_at hl 4 rfl) ?_
                  refine va_get (D := D) (ci := 7) (v := .ref (q 55)) (C := RX7) (T := TX7) (N := 56) hx hb hts (fun _ h => List.mem_cons_of_mem _ (List.mem_append_right _ h)) hown hK hP 0 rfl rfl 55 (by decide) (hts (.fieldLink RX7 118 "CrownTableModel" "cloth" "[I") (mem_i 2 rfl)) (fun _ h9 => h9) rfl dX7_take_96 ?_
                  refine lv_iload hx hb dX7_take_99 (lv_at hl 0 rfl) ?_
                  refine lv_dup2_11 hx hb dX7_take_101 rfl rfl ?_
                  refine va_iald hx hb hK hP 1 1 rfl rfl (vin (a := 1) (by decide) (by decide) (by decide)) dX7_take_102 ?_
                  refine lv_topi (fun x_892 ex_892 => ?_)
                  have lf_893 : (f_885 1).toInt = x_892.toInt := by rw [ex_892]; rfl
                  refine lv_iload hx hb dX7_take_103 (lv_at hl 0 rfl) ?_
                  have hPc := hP.sub (ws' := []) [] rfl
                  have hDc := hD.sub (ws' := []) [] (by decide) rfl
                  have hFc := va_free (wc := []) hD hS hA [] rfl
                  have kzz_894 : (1 : Int32).toInt = 1 := by decide
                  refine va_csi (va_runS (As := [.int 1]) (rest := [.int x_892, .int 1, .ref (q 55)]) ⟨hx, hb, hml, hown, hts⟩ (k_X7_next l D c ts H.size 1 1 (by decide) (by omega)) (cwS 1 hts gX7_take_X7_next rfl rfl rfl ⟨rfl, hdX7_next⟩ ⟨(show 1 + 1 ≤ 2 by decide), (show 8 + (1 + 11) + 20 ≤ 43 by decide)⟩) ⟨Pre0.blind, Pre0.at hPc hDc hAm hSt hS hFc⟩ rfl rfl hl.1 rfl (lv_room (Nat.le_of_ble_eq_true rfl)) dX7_take_105 ⟨(show 0 + 0 ≤ 0 by decide), (show 0 + 0 ≤ 0 by decide)⟩) (fun r_896 hw_895 => ?_)
                  rcases hw_895 with ⟨hw_895, rfl⟩ | ⟨hw_895, rfl⟩ | ⟨hw_895, rfl⟩ | ⟨hw_895, rfl⟩
                  · exfalso; omega
                  · skip
                    refine lv_iadd hx hb dX7_take_108 ?_
                    refine lv_topi (fun x_897 ex_897 => ?_)
                    have tx_897 : x_897.toInt = (x_892.toInt + 20) := by rw [ex_897]; exact add_ti (a := x_892.toInt) (b := 20) rfl (by decide) (by omega) (by omega)
                    refine va_iast hx hb hK hP hD hS 1 1 rfl rfl (vin (a := 1) (by decide) (by decide) (by decide)) dX7_take_109 (fun H locs hP hD hS => ?_)
                    obtain ⟨f_898, ef_898, hP, hD⟩ : ∃ f_898 : Nat → Int32, f_898 = upd f_885 (1 : Int32).toNatClampNeg x_897 ∧ va_P D vwCl [(A_self, .inr (7, o7 q v w)), (q 55, .inl (c 1, 6, .inl f_898))] H ∧ va_D A [(A_self, .inr (7, o7 q v w)), (q 55, .inl (c 1, 6, .inl f_898))] := ⟨_, rfl, hP, hD⟩
                    have cl_899 : (f_898 0).toInt = (f_885 0).toInt := by rw [ef_898]; rfl
                    have cl_900 : (f_898 1).toInt = x_897.toInt := by rw [ef_898]; rfl
                    have cl_901 : (f_898 2).toInt = (f_885 2).toInt := by rw [ef_898]; rfl
                    have cl_902 : (f_898 3).toInt = (f_885 3).toInt := by rw [ef_898]; rfl
                    have cl_903 : (f_898 4).toInt = (f_885 4).toInt := by rw [ef_898]; rfl
                    have cl_904 : (f_898 5).toInt = (f_885 5).toInt := by rw [ef_898]; rfl
                    obtain ⟨x_905, ex_905⟩ : ∃ y : Int32, y = x_881 + 1 := ⟨_, rfl⟩
                    have tx_905 : x_905.toInt = x_881.toInt + 1 := by rw [ex_905]; exact add_ti (a := x_881.toInt) (b := 1) rfl (by decide) (by omega) (by omega)
                    refine lv_iinc (v := x_905) (lv' := [(2, .int x_905), (5, .int 1), (4, .int r_736), (3, .int 0), (0, .ref A_self), (1, .int a1)]) hx hb dX7_take_110 hl (k := 1) rfl (by rw [ex_905]; rfl) (by decide) rfl (fun ls hl => ?_)
                    refine lv_goto (tgt := 75) hx hb dX7_take_113 (by decide) ?_
                    refine lv_iload hx hb dX7_take_75 (lv_at hl 1 rfl) ?_
                    refine lv_iload_n hx hb dX7_take_77 rfl (lv_at hl 3 rfl) ?_
                    refine iicmp_leF (a := 1) (b := 0) (tgt := 116) hx hb (by decide) (by decide) dX7_take_78 (by decide) (by decide) ?_
                    refine lv_aload_n hx hb dX7_take_81 rfl (lv_at hl 4 rfl) ?_
                    refine va_get (D := D) (ci := 7) (v := .ref (q 55)) (C := RX7) (T := TX7) (N := 56) hx hb hts (fun _ h => List.mem_cons_of_mem _ (List.mem_append_right _ h)) hown hK hP 0 rfl rfl 55 (by decide) (hts (.fieldLink RX7 118 "CrownTableModel" "cloth" "[I") (mem_i 2 rfl)) (fun _ h9 => h9) rfl dX7_take_82 ?_
                    refine lv_iload hx hb dX7_take_85 (lv_at hl 1 rfl) ?_
                    refine lv_dup2_11 hx hb dX7_take_87 rfl rfl ?_
                    refine va_iald hx hb hK hP 1 1 rfl rfl (vin (a := 1) (by decide) (by decide) (by decide)) dX7_take_88 ?_
                    refine lv_topi (fun x_906 ex_906 => ?_)
                    have lf_907 : (f_898 1).toInt = x_906.toInt := by rw [ex_906]; rfl
                    refine lv_iconst (v := 1) hx hb dX7_take_89 (by decide) ?_
                    refine lv_isub hx hb dX7_take_90 ?_
                    refine lv_topi (fun x_908 ex_908 => ?_)
                    have tx_908 : x_908.toInt = (x_906.toInt - 1) := by rw [ex_908]; exact sub_ti (a := x_906.toInt) (b := 1) rfl (by decide) (by omega) (by omega)
                    refine va_iast hx hb hK hP hD hS 1 1 rfl rfl (vin (a := 1) (by decide) (by decide) (by decide)) dX7_take_91 (fun H locs hP hD hS => ?_)
                    obtain ⟨f_909, ef_909, hP, hD⟩ : ∃ f_909 : Nat → Int32, f_909 = upd f_898 (1 : Int32).toNatClampNeg x_908 ∧ va_P D vwCl [(A_self, .inr (7, o7 q v w)), (q 55, .inl (c 1, 6, .inl f_909))] H ∧ va_D A [(A_self, .inr (7, o7 q v w)), (q 55, .inl (c 1, 6, .inl f_909))] := ⟨_, rfl, hP, hD⟩
                    have cl_910 : (f_909 0).toInt = (f_898 0).toInt := by rw [ef_909]; rfl
                    have cl_911 : (f_909 1).toInt = x_908.toInt := by rw [ef_909]; rfl
                    have cl_912 : (f_909 2).toInt = (f_898 2).toInt := by rw [ef_909]; rfl
                    have cl_913 : (f_909 3).toInt = (f_898 3).toInt := by rw [ef_909]; rfl
                    have cl_914 : (f_909 4).toInt = (f_898 4).toInt := by rw [ef_909]; rfl
                    have cl_915 : (f_909 5).toInt = (f_898 5).toInt := by rw [ef_909]; rfl
                    refine lv_iinc (v := 0) (lv' := [(5, .int 0), (2, .int x_905), (4, .int r_736), (3, .int 0), (0, .ref A_self), (1, .int a1)]) hx hb dX7_take_92 hl (k := 1) rfl (by decide) (by decide) rfl (fun ls hl => ?_)
                    refine lv_aload_n hx hb dX7_take_95 rfl (lv_at hl 4 rfl) ?_
                    refine va_get (D := D) (ci := 7) (v := .ref (q 55)) (C := RX7) (T := TX7) (N := 56) hx hb hts (fun _ h => List.mem_cons_of_mem _ (List.mem_append_right _ h)) hown hK hP 0 rfl rfl 55 (by decide) (hts (.fieldLink RX7 118 "CrownTableModel" "cloth" "[I") (mem_i 2 rfl)) (fun _ h9 => h9) rfl dX7_take_96 ?_
                    refine lv_iload hx hb dX7_take_99 (lv_at hl 0 rfl) ?_
                    refine lv_dup2_11 hx hb dX7_take_101 rfl rfl ?_
                    refine va_iald hx hb hK hP 1 1 rfl rfl (vin (a := 0) (by decide) (by decide) (by decide)) dX7_take_102 ?_
                    refine lv_topi (fun x_916 ex_916 => ?_)
                    have lf_917 : (f_909 0).toInt = x_916.toInt := by rw [ex_916]; rfl
                    refine lv_iload hx hb dX7_take_103 (lv_at hl 0 rfl) ?_
                    have hPc := hP.sub (ws' := []) [] rfl
                    have hDc := hD.sub (ws' := []) [] (by decide) rfl
                    have hFc := va_free (wc := []) hD hS hA [] rfl
                    have kzz_918 : (0 : Int32).toInt = 0 := by decide
                    refine va_csi (va_runS (As := [.int 0]) (rest := [.int x_916, .int 0, .ref (q 55)]) ⟨hx, hb, hml, hown, hts⟩ (k_X7_next l D c ts H.size 0 0 (by decide) (by omega)) (cwS 1 hts gX7_take_X7_next rfl rfl rfl ⟨rfl, hdX7_next⟩ ⟨(show 1 + 1 ≤ 2 by decide), (show 8 + (1 + 11) + 20 ≤ 43 by decide)⟩) ⟨Pre0.blind, Pre0.at hPc hDc hAm hSt hS hFc⟩ rfl rfl hl.1 rfl (lv_room (Nat.le_of_ble_eq_true rfl)) dX7_take_105 ⟨(show 0 + 0 ≤ 0 by decide), (show 0 + 0 ≤ 0 by decide)⟩) (fun r_920 hw_919 => ?_)
                    rcases hw_919 with ⟨hw_919, rfl⟩ | ⟨hw_919, rfl⟩ | ⟨hw_919, rfl⟩ | ⟨hw_919, rfl⟩
                    · skip
                      refine lv_iadd hx hb dX7_take_108 ?_
                      refine lv_topi (fun x_921 ex_921 => ?_)
                      have tx_921 : x_921.toInt = (x_916.toInt + 12) := by rw [ex_921]; exact add_ti (a := x_916.toInt) (b := 12) rfl (by decide) (by omega) (by omega)
                      refine va_iast hx hb hK hP hD hS 1 1 rfl rfl (vin (a := 0) (by decide) (by decide) (by decide)) dX7_take_109 (fun H locs hP hD hS => ?_)
                      obtain ⟨f_922, ef_922, hP, hD⟩ : ∃ f_922 : Nat → Int32, f_922 = upd f_909 (0 : Int32).toNatClampNeg x_921 ∧ va_P D vwCl [(A_self, .inr (7, o7 q v w)), (q 55, .inl (c 1, 6, .inl f_922))] H ∧ va_D A [(A_self, .inr (7, o7 q v w)), (q 55, .inl (c 1, 6, .inl f_922))] := ⟨_, rfl, hP, hD⟩
                      have cl_923 : (f_922 0).toInt = x_921.toInt := by rw [ef_922]; rfl
                      have cl_924 : (f_922 1).toInt = (f_909 1).toInt := by rw [ef_922]; rfl
                      have cl_925 : (f_922 2).toInt = (f_909 2).toInt := by rw [ef_922]; rfl
                      have cl_926 : (f_922 3).toInt = (f_909 3).toInt := by rw [ef_922]; rfl
                      have cl_927 : (f_922 4).toInt = (f_909 4).toInt := by rw [ef_922]; rfl
                      have cl_928 : (f_922 5).toInt = (f_909 5).toInt := by rw [ef_922]; rfl
                      obtain ⟨x_929, ex_929⟩ : ∃ y : Int32, y = x_905 + 1 := ⟨_, rfl⟩
                      have tx_929 : x_929.toInt = x_905.toInt + 1 := by rw [ex_929]; exact add_ti (a := x_905.toInt) (b := 1) rfl (by decide) (by omega) (by omega)
                      refine lv_iinc (v := x_929) (lv' := [(2, .int x_929), (5, .int 0), (4, .int r_736), (3, .int 0), (0, .ref A_self), (1, .int a1)]) hx hb dX7_take_110 hl (k := 1) rfl (by rw [ex_929]; rfl) (by decide) rfl (fun ls hl => ?_)
                      refine lv_goto (tgt := 75) hx hb dX7_take_113 (by decide) ?_
                      refine lv_iload hx hb dX7_take_75 (lv_at hl 1 rfl) ?_
                      refine lv_iload_n hx hb dX7_take_77 rfl (lv_at hl 3 rfl) ?_
                      refine iicmp_leT (a := 0) (b := 0) (tgt := 116) hx hb (by decide) (by decide) dX7_take_78 (by decide) (by decide) ?_
                      refine lv_goto (tgt := 43) hx hb dX7_take_116 (by decide) ?_
                      refine lv_aload_n hx hb dX7_take_43 rfl (lv_at hl 4 rfl) ?_
                      refine va_get (D := D) (ci := 7) (v := .ref (q 55)) (C := RX7) (T := TX7) (N := 56) hx hb hts (fun _ h => List.mem_cons_of_mem _ (List.mem_append_right _ h)) hown hK hP 0 rfl rfl 55 (by decide) (hts (.fieldLink RX7 118 "CrownTableModel" "cloth" "[I") (mem_i 2 rfl)) (fun _ h9 => h9) rfl dX7_take_44 ?_
                      refine lv_iload_n hx hb dX7_take_47 rfl (lv_at hl 3 rfl) ?_
                      refine va_iald hx hb hK hP 1 1 rfl rfl (vin (a := 0) (by decide) (by decide) (by decide)) dX7_take_48 ?_
                      refine lv_topi (fun x_930 ex_930 => ?_)
                      have lf_931 : (f_922 0).toInt = x_930.toInt := by rw [ex_930]; rfl
                      refine lv_iload hx hb dX7_take_49 (lv_at hl 2 rfl) ?_
                      refine iicmp_ge (a := x_930.toInt) (b := r_736.toInt) (tgt := 119) hx hb rfl rfl dX7_take_51 (by decide) (fun k_932 => ?_) (fun k_932 => ?_)
                      · skip
                        refine lv_aload_n hx hb dX7_take_119 rfl (lv_at hl 4 rfl) ?_
                        refine va_get (D := D) (ci := 7) (v := .ref (q 55)) (C := RX7) (T := TX7) (N := 56) hx hb hts (fun _ h => List.mem_cons_of_mem _ (List.mem_append_right _ h)) hown hK hP 0 rfl rfl 55 (by decide) (hts (.fieldLink RX7 118 "CrownTableModel" "cloth" "[I") (mem_i 2 rfl)) (fun _ h9 => h9) rfl dX7_take_120 ?_
                        refine lv_iload_n hx hb dX7_take_123 rfl (lv_at hl 3 rfl) ?_
                        refine lv_dup2_11 hx hb dX7_take_124 rfl rfl ?_
                        refine va_iald hx hb hK hP 1 1 rfl rfl (vin (a := 0) (by decide) (by decide) (by decide)) dX7_take_125 ?_
                        refine lv_topi (fun x_933 ex_933 => ?_)
                        have lf_934 : (f_922 0).toInt = x_933.toInt := by rw [ex_933]; rfl
                        refine lv_iload hx hb dX7_take_126 (lv_at hl 2 rfl) ?_
                        refine lv_isub hx hb dX7_take_128 ?_
                        refine lv_topi (fun x_935 ex_935 => ?_)
                        have tx_935 : x_935.toInt = (x_933.toInt - r_736.toInt) := by rw [ex_935]; exact sub_ti (a := x_933.toInt) (b := r_736.toInt) rfl rfl (by omega) (by omega)
                        refine va_iast hx hb hK hP hD hS 1 1 rfl rfl (vin (a := 0) (by decide) (by decide) (by decide)) dX7_take_129 (fun H locs hP hD hS => ?_)
                        obtain ⟨f_936, ef_936, hP, hD⟩ : ∃ f_936 : Nat → Int32, f_936 = upd f_922 (0 : Int32).toNatClampNeg x_935 ∧ va_P D vwCl [(A_self, .inr (7, o7 q v w)), (q 55, .inl (c 1, 6, .inl f_936))] H ∧ va_D A [(A_self, .inr (7, o7 q v w)), (q 55, .inl (c 1, 6, .inl f_936))] := ⟨_, rfl, hP, hD⟩
                        have cl_937 : (f_936 0).toInt = x_935.toInt := by rw [ef_936]; rfl
                        have cl_938 : (f_936 1).toInt = (f_922 1).toInt := by rw [ef_936]; rfl
                        have cl_939 : (f_936 2).toInt = (f_922 2).toInt := by rw [ef_936]; rfl
                        have cl_940 : (f_936 3).toInt = (f_922 3).toInt := by rw [ef_936]; rfl
                        have cl_941 : (f_936 4).toInt = (f_922 4).toInt := by rw [ef_936]; rfl
                        have cl_942 : (f_936 5).toInt = (f_922 5).toInt := by rw [ef_936]; rfl
                        refine lv_iinc (v := 1) (lv' := [(3, .int 1), (2, .int x_929), (5, .int 0), (4, .int r_736), (0, .ref A_self), (1, .int a1)]) hx hb dX7_take_130 hl (k := 3) rfl (by decide) (by decide) rfl (fun ls hl => ?_)
                        refine lv_goto (tgt := 30) hx hb dX7_take_133 (by decide) ?_
                        obtain ⟨ts, td0, td1, td2, td3, td4, td5, tl⟩ := TkS.b0_3 (d0 := (f_936 0).toInt) (d1 := (f_936 1).toInt) (d2 := (f_936 2).toInt) (d3 := (f_936 3).toInt) (d4 := (f_936 4).toInt) (d5 := (f_936 5).toInt) (L1 := x_929.toInt) hf30_0_2 (by omega) (by omega) (by omega) (by omega) (by omega) (by omega) (by omega) (by omega) (by omega) (by omega) (by omega)
                        have hl := lv_sub hl [0, 4, 5, 1] rfl
                        exact lp_30_1 x_929 f_936 (by omega) (by omega) ts td0 td1 td2 td3 td4 td5 _ _ _ hP hD hS hl
                      · skip
                        exfalso; omega
                    · exfalso; omega
                    · exfalso; omega
                    · exfalso; omega
                  · exfalso; omega
                  · exfalso; omega
                · exfalso; omega
                · exfalso; omega
              · skip
                refine lv_iinc (v := 4) (lv' := [(5, .int 4), (4, .int r_736), (3, .int 0), (0, .ref A_self), (1, .int a1), (2, .int L2)]) hx hb dX7_take_69 hl (k := 0) rfl (by decide) (by decide) rfl (fun ls hl => ?_)
                refine lv_goto (tgt := 59) hx hb dX7_take_72 (by decide) ?_
                refine lv_aload_n hx hb dX7_take_59 rfl (lv_at hl 3 rfl) ?_
                refine va_get (D := D) (ci := 7) (v := .ref (q 55)) (C := RX7) (T := TX7) (N := 56) hx hb hts (fun _ h => List.mem_cons_of_mem _ (List.mem_append_right _ h)) hown hK hP 0 rfl rfl 55 (by decide) (hts (.fieldLink RX7 118 "CrownTableModel" "cloth" "[I") (mem_i 2 rfl)) (fun _ h9 => h9) rfl dX7_take_60 ?_
                refine lv_iload hx hb dX7_take_63 (lv_at hl 0 rfl) ?_
                refine va_iald hx hb hK hP 1 1 rfl rfl (vin (a := 4) (by decide) (by decide) (by decide)) dX7_take_65 ?_
                refine lv_topi (fun x_943 ex_943 => ?_)
                have lf_944 : (M_cloth 4).toInt = x_943.toInt := by rw [ex_943]; rfl
                refine iif_ne (a := x_943.toInt) (tgt := 75) hx hb rfl dX7_take_66 (by decide) (fun k_945 => ?_) (fun k_945 => ?_)
                · skip
                  refine lv_iload hx hb dX7_take_75 (lv_at hl 0 rfl) ?_
                  refine lv_iload_n hx hb dX7_take_77 rfl (lv_at hl 2 rfl) ?_
                  refine iicmp_leF (a := 4) (b := 0) (tgt := 116) hx hb (by decide) (by decide) dX7_take_78 (by decide) (by decide) ?_
                  refine lv_aload_n hx hb dX7_take_81 rfl (lv_at hl 3 rfl) ?_
                  refine va_get (D := D) (ci := 7) (v := .ref (q 55)) (C := RX7) (T := TX7) (N := 56) hx hb hts (fun _ h => List.mem_cons_of_mem _ (List.mem_append_right _ h)) hown hK hP 0 rfl rfl 55 (by decide) (hts (.fieldLink RX7 118 "CrownTableModel" "cloth" "[I") (mem_i 2 rfl)) (fun _ h9 => h9) rfl dX7_take_82 ?_
                  refine lv_iload hx hb dX7_take_85 (lv_at hl 0 rfl) ?_
                  refine lv_dup2_11 hx hb dX7_take_87 rfl rfl ?_
                  refine va_iald hx hb hK hP 1 1 rfl rfl (vin (a := 4) (by decide) (by decide) (by decide)) dX7_take_88 ?_
                  refine lv_topi (fun x_946 ex_946 => ?_)
                  have lf_947 : (M_cloth 4).toInt = x_946.toInt := by rw [ex_946]; rfl
                  refine lv_iconst (v := 1) hx hb dX7_take_89 (by decide) ?_
                  refine lv_isub hx hb dX7_take_90 ?_
                  refine lv_topi (fun x_948 ex_948 => ?_)
                  have tx_948 : x_948.toInt = (x_946.toInt - 1) := by rw [ex_948]; exact sub_ti (a := x_946.toInt) (b := 1) rfl (by decide) (by omega) (by omega)
                  refine va_iast hx hb hK hP hD hS 1 1 rfl rfl (vin (a := 4) (by decide) (by decide) (by decide)) dX7_take_91 (fun H locs hP hD hS => ?_)
                  obtain ⟨f_949, ef_949, hP, hD⟩ : ∃ f_949 : Nat → Int32, f_949 = upd M_cloth (4 : Int32).toNatClampNeg x_948 ∧ va_P D vwCl [(A_self, .inr (7, o7 q v w)), (q 55, .inl (c 1, 6, .inl f_949))] H ∧ va_D A [(A_self, .inr (7, o7 q v w)), (q 55, .inl (c 1, 6, .inl f_949))] := ⟨_, rfl, hP, hD⟩
                  have cl_950 : (f_949 0).toInt = (M_cloth 0).toInt := by rw [ef_949]; rfl
                  have cl_951 : (f_949 1).toInt = (M_cloth 1).toInt := by rw [ef_949]; rfl
                  have cl_952 : (f_949 2).toInt = (M_cloth 2).toInt := by rw [ef_949]; rfl
                  have cl_953 : (f_949 3).toInt = (M_cloth 3).toInt := by rw [ef_949]; rfl
                  have cl_954 : (f_949 4).toInt = x_948.toInt := by rw [ef_949]; rfl
                  have cl_955 : (f_949 5).toInt = (M_cloth 5).toInt := by rw [ef_949]; rfl
                  refine lv_iinc (v := 3) (lv' := [(5, .int 3), (4, .int r_736), (3, .int 0), (0, .ref A_self), (1, .int a1), (2, .int L2)]) hx hb dX7_take_92 hl (k := 0) rfl (by decide) (by decide) rfl (fun ls hl => ?_)
                  refine lv_aload_n hx hb dX7_take_95 rfl (lv_at hl 3 rfl) ?_
                  refine va_get (D := D) (ci := 7) (v := .ref (q 55)) (C := RX7) (T := TX7) (N := 56) hx hb hts (fun _ h => List.mem_cons_of_mem _ (List.mem_append_right _ h)) hown hK hP 0 rfl rfl 55 (by decide) (hts (.fieldLink RX7 118 "CrownTableModel" "cloth" "[I") (mem_i 2 rfl)) (fun _ h9 => h9) rfl dX7_take_96 ?_
                  refine lv_iload hx hb dX7_take_99 (lv_at hl 0 rfl) ?_
                  refine lv_dup2_11 hx hb dX7_take_101 rfl rfl ?_
                  refine va_iald hx hb hK hP 1 1 rfl rfl (vin (a := 3) (by decide) (by decide) (by decide)) dX7_take_102 ?_
                  refine lv_topi (fun x_956 ex_956 => ?_)
                  have lf_957 : (f_949 3).toInt = x_956.toInt := by rw [ex_956]; rfl
                  refine lv_iload hx hb dX7_take_103 (lv_at hl 0 rfl) ?_
                  have hPc := hP.sub (ws' := []) [] rfl
                  have hDc := hD.sub (ws' := []) [] (by decide) rfl
                  have hFc := va_free (wc := []) hD hS hA [] rfl
                  have kzz_958 : (3 : Int32).toInt = 3 := by decide
                  refine va_csi (va_runS (As := [.int 3]) (rest := [.int x_956, .int 3, .ref (q 55)]) ⟨hx, hb, hml, hown, hts⟩ (k_X7_next l D c ts H.size 3 3 (by decide) (by omega)) (cwS 1 hts gX7_take_X7_next rfl rfl rfl ⟨rfl, hdX7_next⟩ ⟨(show 1 + 1 ≤ 2 by decide), (show 8 + (1 + 11) + 20 ≤ 43 by decide)⟩) ⟨Pre0.blind, Pre0.at hPc hDc hAm hSt hS hFc⟩ rfl rfl hl.1 rfl (lv_room (Nat.le_of_ble_eq_true rfl)) dX7_take_105 ⟨(show 0 + 0 ≤ 0 by decide), (show 0 + 0 ≤ 0 by decide)⟩) (fun r_960 hw_959 => ?_)
                  rcases hw_959 with ⟨hw_959, rfl⟩ | ⟨hw_959, rfl⟩ | ⟨hw_959, rfl⟩ | ⟨hw_959, rfl⟩
                  · exfalso; omega
                  · exfalso; omega
                  · skip
                    refine lv_iadd hx hb dX7_take_108 ?_
                    refine lv_topi (fun x_961 ex_961 => ?_)
                    have tx_961 : x_961.toInt = (x_956.toInt + 5) := by rw [ex_961]; exact add_ti (a := x_956.toInt) (b := 5) rfl (by decide) (by omega) (by omega)
                    refine va_iast hx hb hK hP hD hS 1 1 rfl rfl (vin (a := 3) (by decide) (by decide) (by decide)) dX7_take_109 (fun H locs hP hD hS => ?_)
                    obtain ⟨f_962, ef_962, hP, hD⟩ : ∃ f_962 : Nat → Int32, f_962 = upd f_949 (3 : Int32).toNatClampNeg x_961 ∧ va_P D vwCl [(A_self, .inr (7, o7 q v w)), (q 55, .inl (c 1, 6, .inl f_962))] H ∧ va_D A [(A_self, .inr (7, o7 q v w)), (q 55, .inl (c 1, 6, .inl f_962))] := ⟨_, rfl, hP, hD⟩
                    have cl_963 : (f_962 0).toInt = (f_949 0).toInt := by rw [ef_962]; rfl
                    have cl_964 : (f_962 1).toInt = (f_949 1).toInt := by rw [ef_962]; rfl
                    have cl_965 : (f_962 2).toInt = (f_949 2).toInt := by rw [ef_962]; rfl
                    have cl_966 : (f_962 3).toInt = x_961.toInt := by rw [ef_962]; rfl
                    have cl_967 : (f_962 4).toInt = (f_949 4).toInt := by rw [ef_962]; rfl
                    have cl_968 : (f_962 5).toInt = (f_949 5).toInt := by rw [ef_962]; rfl
                    obtain ⟨x_969, ex_969⟩ : ∃ y : Int32, y = L2 + 1 := ⟨_, rfl⟩
                    have tx_969 : x_969.toInt = L2.toInt + 1 := by rw [ex_969]; exact add_ti (a := L2.toInt) (b := 1) rfl (by decide) (by omega) (by omega)
                    refine lv_iinc (v := x_969) (lv' := [(2, .int x_969), (5, .int 3), (4, .int r_736), (3, .int 0), (0, .ref A_self), (1, .int a1)]) hx hb dX7_take_110 hl (k := 5) rfl (by rw [ex_969]; rfl) (by decide) rfl (fun ls hl => ?_)
                    refine lv_goto (tgt := 75) hx hb dX7_take_113 (by decide) ?_
                    refine lv_iload hx hb dX7_take_75 (lv_at hl 1 rfl) ?_
                    refine lv_iload_n hx hb dX7_take_77 rfl (lv_at hl 3 rfl) ?_
                    refine iicmp_leF (a := 3) (b := 0) (tgt := 116) hx hb (by decide) (by decide) dX7_take_78 (by decide) (by decide) ?_
                    refine lv_aload_n hx hb dX7_take_81 rfl (lv_at hl 4 rfl) ?_
                    refine va_get (D := D) (ci := 7) (v := .ref (q 55)) (C := RX7) (T := TX7) (N := 56) hx hb hts (fun _ h => List.mem_cons_of_mem _ (List.mem_append_right _ h)) hown hK hP 0 rfl rfl 55 (by decide) (hts (.fieldLink RX7 118 "CrownTableModel" "cloth" "[I") (mem_i 2 rfl)) (fun _ h9 => h9) rfl dX7_take_82 ?_
                    refine lv_iload hx hb dX7_take_85 (lv_at hl 1 rfl) ?_
                    refine lv_dup2_11 hx hb dX7_take_87 rfl rfl ?_
                    refine va_iald hx hb hK hP 1 1 rfl rfl (vin (a := 3) (by decide) (by decide) (by decide)) dX7_take_88 ?_
                    refine lv_topi (fun x_970 ex_970 => ?_)
                    have lf_971 : (f_962 3).toInt = x_970.toInt := by rw [ex_970]; rfl
                    refine lv_iconst (v := 1) hx hb dX7_take_89 (by decide) ?_
                    refine lv_isub hx hb dX7_take_90 ?_
                    refine lv_topi (fun x_972 ex_972 => ?_)
                    have tx_972 : x_972.toInt = (x_970.toInt - 1) := by rw [ex_972]; exact sub_ti (a := x_970.toInt) (b := 1) rfl (by decide) (by omega) (by omega)
                    refine va_iast hx hb hK hP hD hS 1 1 rfl rfl (vin (a := 3) (by decide) (by decide) (by decide)) dX7_take_91 (fun H locs hP hD hS => ?_)
                    obtain ⟨f_973, ef_973, hP, hD⟩ : ∃ f_973 : Nat → Int32, f_973 = upd f_962 (3 : Int32).toNatClampNeg x_972 ∧ va_P D vwCl [(A_self, .inr (7, o7 q v w)), (q 55, .inl (c 1, 6, .inl f_973))] H ∧ va_D A [(A_self, .inr (7, o7 q v w)), (q 55, .inl (c 1, 6, .inl f_973))] := ⟨_, rfl, hP, hD⟩
                    have cl_974 : (f_973 0).toInt = (f_962 0).toInt := by rw [ef_973]; rfl
                    have cl_975 : (f_973 1).toInt = (f_962 1).toInt := by rw [ef_973]; rfl
                    have cl_976 : (f_973 2).toInt = (f_962 2).toInt := by rw [ef_973]; rfl
                    have cl_977 : (f_973 3).toInt = x_972.toInt := by rw [ef_973]; rfl
                    have cl_978 : (f_973 4).toInt = (f_962 4).toInt := by rw [ef_973]; rfl
                    have cl_979 : (f_973 5).toInt = (f_962 5).toInt := by rw [ef_973]; rfl
                    refine lv_iinc (v := 2) (lv' := [(5, .int 2), (2, .int x_969), (4, .int r_736), (3, .int 0), (0, .ref A_self), (1, .int a1)]) hx hb dX7_take_92 hl (k := 1) rfl (by decide) (by decide) rfl (fun ls hl => ?_)
                    refine lv_aload_n hx hb dX7_take_95 rfl (lv_at hl 4 rfl) ?_
                    refine va_get (D := D) (ci := 7) (v := .ref (q 55)) (C := RX7) (T := TX7) (N := 56) hx hb hts (fun _ h => List.mem_cons_of_mem _ (List.mem_append_right _ h)) hown hK hP 0 rfl rfl 55 (by decide) (hts (.fieldLink RX7 118 "CrownTableModel" "cloth" "[I") (mem_i 2 rfl)) (fun _ h9 => h9) rfl dX7_take_96 ?_
                    refine lv_iload hx hb dX7_take_99 (lv_at hl 0 rfl) ?_
                    refine lv_dup2_11 hx hb dX7_take_101 rfl rfl ?_
                    refine va_iald hx hb hK hP 1 1 rfl rfl (vin (a := 2) (by decide) (by decide) (by decide)) dX7_take_102 ?_
                    refine lv_topi (fun x_980 ex_980 => ?_)
                    have lf_981 : (f_973 2).toInt = x_980.toInt := by rw [ex_980]; rfl
                    refine lv_iload hx hb dX7_take_103 (lv_at hl 0 rfl) ?_
                    have hPc := hP.sub (ws' := []) [] rfl
                    have hDc := hD.sub (ws' := []) [] (by decide) rfl
                    have hFc := va_free (wc := []) hD hS hA [] rfl
                    have kzz_982 : (2 : Int32).toInt = 2 := by decide
                    refine va_csi (va_runS (As := [.int 2]) (rest := [.int x_980, .int 2, .ref (q 55)]) ⟨hx, hb, hml, hown, hts⟩ (k_X7_next l D c ts H.size 2 2 (by decide) (by omega)) (cwS 1 hts gX7_take_X7_next rfl rfl rfl ⟨rfl, hdX7_next⟩ ⟨(show 1 + 1 ≤ 2 by decide), (show 8 + (1 + 11) + 20 ≤ 43 by decide)⟩) ⟨Pre0.blind, Pre0.at hPc hDc hAm hSt hS hFc⟩ rfl rfl hl.1 rfl (lv_room (Nat.le_of_ble_eq_true rfl)) dX7_take_105 ⟨(show 0 + 0 ≤ 0 by decide), (show 0 + 0 ≤ 0 by decide)⟩) (fun r_984 hw_983 => ?_)
                    rcases hw_983 with ⟨hw_983, rfl⟩ | ⟨hw_983, rfl⟩ | ⟨hw_983, rfl⟩ | ⟨hw_983, rfl⟩
                    · exfalso; omega
                    · skip
                      refine lv_iadd hx hb dX7_take_108 ?_
                      refine lv_topi (fun x_985 ex_985 => ?_)
                      have tx_985 : x_985.toInt = (x_980.toInt + 20) := by rw [ex_985]; exact add_ti (a := x_980.toInt) (b := 20) rfl (by decide) (by omega) (by omega)
                      refine va_iast hx hb hK hP hD hS 1 1 rfl rfl (vin (a := 2) (by decide) (by decide) (by decide)) dX7_take_109 (fun H locs hP hD hS => ?_)
                      obtain ⟨f_986, ef_986, hP, hD⟩ : ∃ f_986 : Nat → Int32, f_986 = upd f_973 (2 : Int32).toNatClampNeg x_985 ∧ va_P D vwCl [(A_self, .inr (7, o7 q v w)), (q 55, .inl (c 1, 6, .inl f_986))] H ∧ va_D A [(A_self, .inr (7, o7 q v w)), (q 55, .inl (c 1, 6, .inl f_986))] := ⟨_, rfl, hP, hD⟩
                      have cl_987 : (f_986 0).toInt = (f_973 0).toInt := by rw [ef_986]; rfl
                      have cl_988 : (f_986 1).toInt = (f_973 1).toInt := by rw [ef_986]; rfl
                      have cl_989 : (f_986 2).toInt = x_985.toInt := by rw [ef_986]; rfl
                      have cl_990 : (f_986 3).toInt = (f_973 3).toInt := by rw [ef_986]; rfl
                      have cl_991 : (f_986 4).toInt = (f_973 4).toInt := by rw [ef_986]; rfl
                      have cl_992 : (f_986 5).toInt = (f_973 5).toInt := by rw [ef_986]; rfl
                      obtain ⟨x_993, ex_993⟩ : ∃ y : Int32, y = x_969 + 1 := ⟨_, rfl⟩
                      have tx_993 : x_993.toInt = x_969.toInt + 1 := by rw [ex_993]; exact add_ti (a := x_969.toInt) (b := 1) rfl (by decide) (by omega) (by omega)
                      refine lv_iinc (v := x_993) (lv' := [(2, .int x_993), (5, .int 2), (4, .int r_736), (3, .int 0), (0, .ref A_self), (1, .int a1)]) hx hb dX7_take_110 hl (k := 1) rfl (by rw [ex_993]; rfl) (by decide) rfl (fun ls hl => ?_)
                      refine lv_goto (tgt := 75) hx hb dX7_take_113 (by decide) ?_
                      refine lv_iload hx hb dX7_take_75 (lv_at hl 1 rfl) ?_
                      refine lv_iload_n hx hb dX7_take_77 rfl (lv_at hl 3 rfl) ?_
                      refine iicmp_leF (a := 2) (b := 0) (tgt := 116) hx hb (by decide) (by decide) dX7_take_78 (by decide) (by decide) ?_
                      refine lv_aload_n hx hb dX7_take_81 rfl (lv_at hl 4 rfl) ?_
                      refine va_get (D := D) (ci := 7) (v := .ref (q 55)) (C := RX7) (T := TX7) (N := 56) hx hb hts (fun _ h => List.mem_cons_of_mem _ (List.mem_append_right _ h)) hown hK hP 0 rfl rfl 55 (by decide) (hts (.fieldLink RX7 118 "CrownTableModel" "cloth" "[I") (mem_i 2 rfl)) (fun _ h9 => h9) rfl dX7_take_82 ?_
                      refine lv_iload hx hb dX7_take_85 (lv_at hl 1 rfl) ?_
                      refine lv_dup2_11 hx hb dX7_take_87 rfl rfl ?_
                      refine va_iald hx hb hK hP 1 1 rfl rfl (vin (a := 2) (by decide) (by decide) (by decide)) dX7_take_88 ?_
                      refine lv_topi (fun x_994 ex_994 => ?_)
                      have lf_995 : (f_986 2).toInt = x_994.toInt := by rw [ex_994]; rfl
                      refine lv_iconst (v := 1) hx hb dX7_take_89 (by decide) ?_
                      refine lv_isub hx hb dX7_take_90 ?_
                      refine lv_topi (fun x_996 ex_996 => ?_)
                      have tx_996 : x_996.toInt = (x_994.toInt - 1) := by rw [ex_996]; exact sub_ti (a := x_994.toInt) (b := 1) rfl (by decide) (by omega) (by omega)
                      refine va_iast hx hb hK hP hD hS 1 1 rfl rfl (vin (a := 2) (by decide) (by decide) (by decide)) dX7_take_91 (fun H locs hP hD hS => ?_)
                      obtain ⟨f_997, ef_997, hP, hD⟩ : ∃ f_997 : Nat → Int32, f_997 = upd f_986 (2 : Int32).toNatClampNeg x_996 ∧ va_P D vwCl [(A_self, .inr (7, o7 q v w)), (q 55, .inl (c 1, 6, .inl f_997))] H ∧ va_D A [(A_self, .inr (7, o7 q v w)), (q 55, .inl (c 1, 6, .inl f_997))] := ⟨_, rfl, hP, hD⟩
                      have cl_998 : (f_997 0).toInt = (f_986 0).toInt := by rw [ef_997]; rfl
                      have cl_999 : (f_997 1).toInt = (f_986 1).toInt := by rw [ef_997]; rfl
                      have cl_1000 : (f_997 2).toInt = x_996.toInt := by rw [ef_997]; rfl
                      have cl_1001 : (f_997 3).toInt = (f_986 3).toInt := by rw [ef_997]; rfl
                      have cl_1002 : (f_997 4).toInt = (f_986 4).toInt := by rw [ef_997]; rfl
                      have cl_1003 : (f_997 5).toInt = (f_986 5).toInt := by rw [ef_997]; rfl
                      refine lv_iinc (v := 1) (lv' := [(5, .int 1), (2, .int x_993), (4, .int r_736), (3, .int 0), (0, .ref A_self), (1, .int a1)]) hx hb dX7_take_92 hl (k := 1) rfl (by decide) (by decide) rfl (fun ls hl => ?_)
                      refine lv_aload_n hx hb dX7_take_95 rfl (lv_at hl 4 rfl) ?_
                      refine va_get (D := D) (ci := 7) (v := .ref (q 55)) (C := RX7) (T := TX7) (N := 56) hx hb hts (fun _ h => List.mem_cons_of_mem _ (List.mem_append_right _ h)) hown hK hP 0 rfl rfl 55 (by decide) (hts (.fieldLink RX7 118 "CrownTableModel" "cloth" "[I") (mem_i 2 rfl)) (fun _ h9 => h9) rfl dX7_take_96 ?_
                      refine lv_iload hx hb dX7_take_99 (lv_at hl 0 rfl) ?_
                      refine lv_dup2_11 hx hb dX7_take_101 rfl rfl ?_
                      refine va_iald hx hb hK hP 1 1 rfl rfl (vin (a := 1) (by decide) (by decide) (by decide)) dX7_take_102 ?_
                      refine lv_topi (fun x_1004 ex_1004 => ?_)
                      have lf_1005 : (f_997 1).toInt = x_1004.toInt := by rw [ex_1004]; rfl
                      refine lv_iload hx hb dX7_take_103 (lv_at hl 0 rfl) ?_
                      have hPc := hP.sub (ws' := []) [] rfl
                      have hDc := hD.sub (ws' := []) [] (by decide) rfl
                      have hFc := va_free (wc := []) hD hS hA [] rfl
                      have kzz_1006 : (1 : Int32).toInt = 1 := by decide
                      refine va_csi (va_runS (As := [.int 1]) (rest := [.int x_1004, .int 1, .ref (q 55)]) ⟨hx, hb, hml, hown, hts⟩ (k_X7_next l D c ts H.size 1 1 (by decide) (by omega)) (cwS 1 hts gX7_take_X7_next rfl rfl rfl ⟨rfl, hdX7_next⟩ ⟨(show 1 + 1 ≤ 2 by decide), (show 8 + (1 + 11) + 20 ≤ 43 by decide)⟩) ⟨Pre0.blind, Pre0.at hPc hDc hAm hSt hS hFc⟩ rfl rfl hl.1 rfl (lv_room (Nat.le_of_ble_eq_true rfl)) dX7_take_105 ⟨(show 0 + 0 ≤ 0 by decide), (show 0 + 0 ≤ 0 by decide)⟩) (fun r_1008 hw_1007 => ?_)
                      rcases hw_1007 with ⟨hw_1007, rfl⟩ | ⟨hw_1007, rfl⟩ | ⟨hw_1007, rfl⟩ | ⟨hw_1007, rfl⟩
                      · exfalso; omega
                      · skip
                        refine lv_iadd hx hb dX7_take_108 ?_
                        refine lv_topi (fun x_1009 ex_1009 => ?_)
                        have tx_1009 : x_1009.toInt = (x_1004.toInt + 20) := by rw [ex_1009]; exact add_ti (a := x_1004.toInt) (b := 20) rfl (by decide) (by omega) (by omega)
                        refine va_iast hx hb hK hP hD hS 1 1 rfl rfl (vin (a := 1) (by decide) (by decide) (by decide)) dX7_take_109 (fun H locs hP hD hS => ?_)
                        obtain ⟨f_1010, ef_1010, hP, hD⟩ : ∃ f_1010 : Nat → Int32, f_1010 = upd f_997 (1 : Int32).toNatClampNeg x_1009 ∧ va_P D vwCl [(A_self, .inr (7, o7 q v w)), (q 55, .inl (c 1, 6, .inl f_1010))] H ∧ va_D A [(A_self, .inr (7, o7 q v w)), (q 55, .inl (c 1, 6, .inl f_1010))] := ⟨_, rfl, hP, hD⟩
                        have cl_1011 : (f_1010 0).toInt = (f_997 0).toInt := by rw [ef_1010]; rfl
                        have cl_1012 : (f_1010 1).toInt = x_1009.toInt := by rw [ef_1010]; rfl
                        have cl_1013 : (f_1010 2).toInt = (f_997 2).toInt := by rw [ef_1010]; rfl
                        have cl_1014 : (f_1010 3).toInt = (f_997 3).toInt := by rw [ef_1010]; rfl
                        have cl_1015 : (f_1010 4).toInt = (f_997 4).toInt := by rw [ef_1010]; rfl
                        have cl_1016 : (f_1010 5).toInt = (f_997 5).toInt := by rw [ef_1010]; rfl
                        obtain ⟨x_1017, ex_1017⟩ : ∃ y : Int32, y = x_993 + 1 := ⟨_, rfl⟩
                        have tx_1017 : x_1017.toInt = x_993.toInt + 1 := by rw [ex_1017]; exact add_ti (a := x_993.toInt) (b := 1) rfl (by decide) (by omega) (by omega)
                        refine lv_iinc (v := x_1017) (lv' := [(2, .int x_1017), (5, .int 1), (4, .int r_736), (3, .int 0), (0, .ref A_self), (1, .int a1)]) hx hb dX7_take_110 hl (k := 1) rfl (by rw [ex_1017]; rfl) (by decide) rfl (fun ls hl => ?_)
                        refine lv_goto (tgt := 75) hx hb dX7_take_113 (by decide) ?_
                        refine lv_iload hx hb dX7_take_75 (lv_at hl 1 rfl) ?_
                        refine lv_iload_n hx hb dX7_take_77 rfl (lv_at hl 3 rfl) ?_
                        refine iicmp_leF (a := 1) (b := 0) (tgt := 116) hx hb (by decide) (by decide) dX7_take_78 (by decide) (by decide) ?_
                        refine lv_aload_n hx hb dX7_take_81 rfl (lv_at hl 4 rfl) ?_
                        refine va_get (D := D) (ci := 7) (v := .ref (q 55)) (C := RX7) (T := TX7) (N := 56) hx hb hts (fun _ h => List.mem_cons_of_mem _ (List.mem_append_right _ h)) hown hK hP 0 rfl rfl 55 (by decide) (hts (.fieldLink RX7 118 "CrownTableModel" "cloth" "[I") (mem_i 2 rfl)) (fun _ h9 => h9) rfl dX7_take_82 ?_
                        refine lv_iload hx hb dX7_take_85 (lv_at hl 1 rfl) ?_
                        refine lv_dup2_11 hx hb dX7_take_87 rfl rfl ?_
                        refine va_iald hx hb hK hP 1 1 rfl rfl (vin (a := 1) (by decide) (by decide) (by decide)) dX7_take_88 ?_
                        refine lv_topi (fun x_1018 ex_1018 => ?_)
                        have lf_1019 : (f_1010 1).toInt = x_1018.toInt := by rw [ex_1018]; rfl
                        refine lv_iconst (v := 1) hx hb dX7_take_89 (by decide) ?_
                        refine lv_isub hx hb dX7_take_90 ?_
                        refine lv_topi (fun x_1020 ex_1020 => ?_)
                        have tx_1020 : x_1020.toInt = (x_1018.toInt - 1) := by rw [ex_1020]; exact sub_ti (a := x_1018.toInt) (b := 1) rfl (by decide) (by omega) (by omega)
                        refine va_iast hx hb hK hP hD hS 1 1 rfl rfl (vin (a := 1) (by decide) (by decide) (by decide)) dX7_take_91 (fun H locs hP hD hS => ?_)
                        obtain ⟨f_1021, ef_1021, hP, hD⟩ : ∃ f_1021 : Nat → Int32, f_1021 = upd f_1010 (1 : Int32).toNatClampNeg x_1020 ∧ va_P D vwCl [(A_self, .inr (7, o7 q v w)), (q 55, .inl (c 1, 6, .inl f_1021))] H ∧ va_D A [(A_self, .inr (7, o7 q v w)), (q 55, .inl (c 1, 6, .inl f_1021))] := ⟨_, rfl, hP, hD⟩
                        have cl_1022 : (f_1021 0).toInt = (f_1010 0).toInt := by rw [ef_1021]; rfl
                        have cl_1023 : (f_1021 1).toInt = x_1020.toInt := by rw [ef_1021]; rfl
                        have cl_1024 : (f_1021 2).toInt = (f_1010 2).toInt := by rw [ef_1021]; rfl
                        have cl_1025 : (f_1021 3).toInt = (f_1010 3).toInt := by rw [ef_1021]; rfl
                        have cl_1026 : (f_1021 4).toInt = (f_1010 4).toInt := by rw [ef_1021]; rfl
                        have cl_1027 : (f_1021 5).toInt = (f_1010 5).toInt := by rw [ef_1021]; rfl
                        refine lv_iinc (v := 0) (lv' := [(5, .int 0), (2, .int x_1017), (4, .int r_736), (3, .int 0), (0, .ref A_self), (1, .int a1)]) hx hb dX7_take_92 hl (k := 1) rfl (by decide) (by decide) rfl (fun ls hl => ?_)
                        refine lv_aload_n hx hb dX7_take_95 rfl (lv_at hl 4 rfl) ?_
                        refine va_get (D := D) (ci := 7) (v := .ref (q 55)) (C := RX7) (T := TX7) (N := 56) hx hb hts (fun _ h => List.mem_cons_of_mem _ (List.mem_append_right _ h)) hown hK hP 0 rfl rfl 55 (by decide) (hts (.fieldLink RX7 118 "CrownTableModel" "cloth" "[I") (mem_i 2 rfl)) (fun _ h9 => h9) rfl dX7_take_96 ?_
                        refine lv_iload hx hb dX7_take_99 (lv_at hl 0 rfl) ?_
                        refine lv_dup2_11 hx hb dX7_take_101 rfl rfl ?_
                        refine va_iald hx hb hK hP 1 1 rfl rfl (vin (a := 0) (by decide) (by decide) (by decide)) dX7_take_102 ?_
                        refine lv_topi (fun x_1028 ex_1028 => ?_)
                        have lf_1029 : (f_1021 0).toInt = x_1028.toInt := by rw [ex_1028]; rfl
                        refine lv_iload hx hb dX7_take_103 (lv_at hl 0 rfl) ?_
                        have hPc := hP.sub (ws' := []) [] rfl
                        have hDc := hD.sub (ws' := []) [] (by decide) rfl
                        have hFc := va_free (wc := []) hD hS hA [] rfl
                        have kzz_1030 : (0 : Int32).toInt = 0 := by decide
                        refine va_csi (va_runS (As := [.int 0]) (rest := [.int x_1028, .int 0, .ref (q 55)]) ⟨hx, hb, hml, hown, hts⟩ (k_X7_next l D c ts H.size 0 0 (by decide) (by omega)) (cwS 1 hts gX7_take_X7_next rfl rfl rfl ⟨rfl, hdX7_next⟩ ⟨(show 1 + 1 ≤ 2 by decide), (show 8 + (1 + 11) + 20 ≤ 43 by decide)⟩) ⟨Pre0.blind, Pre0.at hPc hDc hAm hSt hS hFc⟩ rfl rfl hl.1 rfl (lv_room (Nat.le_of_ble_eq_true rfl)) dX7_take_105 ⟨(show 0 + 0 ≤ 0 by decide), (show 0 + 0 ≤ 0 by decide)⟩) (fun r_1032 hw_1031 => ?_)
                        rcases hw_1031 with ⟨hw_1031, rfl⟩ | ⟨hw_1031, rfl⟩ | ⟨hw_1031, rfl⟩ | ⟨hw_1031, rfl⟩
                        · skip
                          refine lv_iadd hx hb dX7_take_108 ?_
                          refine lv_topi (fun x_1033 ex_1033 => ?_)
                          have tx_1033 : x_1033.toInt = (x_1028.toInt + 12) := by rw [ex_1033]; exact add_ti (a := x_1028.toInt) (b := 12) rfl (by decide) (by omega) (by omega)
                          refine va_iast hx hb hK hP hD hS 1 1 rfl rfl (vin (a := 0) (by decide) (by decide) (by decide)) dX7_take_109 (fun H locs hP hD hS => ?_)
                          obtain ⟨f_1034, ef_1034, hP, hD⟩ : ∃ f_1034 : Nat → Int32, f_1034 = upd f_1021 (0 : Int32).toNatClampNeg x_1033 ∧ va_P D vwCl [(A_self, .inr (7, o7 q v w)), (q 55, .inl (c 1, 6, .inl f_1034))] H ∧ va_D A [(A_self, .inr (7, o7 q v w)), (q 55, .inl (c 1, 6, .inl f_1034))] := ⟨_, rfl, hP, hD⟩
                          have cl_1035 : (f_1034 0).toInt = x_1033.toInt := by rw [ef_1034]; rfl
                          have cl_1036 : (f_1034 1).toInt = (f_1021 1).toInt := by rw [ef_1034]; rfl
                          have cl_1037 : (f_1034 2).toInt = (f_1021 2).toInt := by rw [ef_1034]; rfl
                          have cl_1038 : (f_1034 3).toInt = (f_1021 3).toInt := by rw [ef_1034]; rfl
                          have cl_1039 : (f_1034 4).toInt = (f_1021 4).toInt := by rw [ef_1034]; rfl
                          have cl_1040 : (f_1034 5).toInt = (f_1021 5).toInt := by rw [ef_1034]; rfl
                          obtain ⟨x_1041, ex_1041⟩ : ∃ y : Int32, y = x_1017 + 1 := ⟨_, rfl⟩
                          have tx_1041 : x_1041.toInt = x_1017.toInt + 1 := by rw [ex_1041]; exact add_ti (a := x_1017.toInt) (b := 1) rfl (by decide) (by omega) (by omega)
                          refine lv_iinc (v := x_1041) (lv' := [(2, .int x_1041), (5, .int 0), (4, .int r_736), (3, .int 0), (0, .ref A_self), (1, .int a1)]) hx hb dX7_take_110 hl (k := 1) rfl (by rw [ex_1041]; rfl) (by decide) rfl (fun ls hl => ?_)
                          refine lv_goto (tgt := 75) hx hb dX7_take_113 (by decide) ?_
                          refine lv_iload hx hb dX7_take_75 (lv_at hl 1 rfl) ?_
                          refine lv_iload_n hx hb dX7_take_77 rfl (lv_at hl 3 rfl) ?_
                          refine iicmp_leT (a := 0) (b := 0) (tgt := 116) hx hb (by decide) (by decide) dX7_take_78 (by decide) (by decide) ?_
                          refine lv_goto (tgt := 43) hx hb dX7_take_116 (by decide) ?_
                          refine lv_aload_n hx hb dX7_take_43 rfl (lv_at hl 4 rfl) ?_
                          refine va_get (D := D) (ci := 7) (v := .ref (q 55)) (C := RX7) (T := TX7) (N := 56) hx hb hts (fun _ h => List.mem_cons_of_mem _ (List.mem_append_right _ h)) hown hK hP 0 rfl rfl 55 (by decide) (hts (.fieldLink RX7 118 "CrownTableModel" "cloth" "[I") (mem_i 2 rfl)) (fun _ h9 => h9) rfl dX7_take_44 ?_
                          refine lv_iload_n hx hb dX7_take_47 rfl (lv_at hl 3 rfl) ?_
                          refine va_iald hx hb hK hP 1 1 rfl rfl (vin (a := 0) (by decide) (by decide) (by decide)) dX7_take_48 ?_
                          refine lv_topi (fun x_1042 ex_1042 => ?_)
                          have lf_1043 : (f_1034 0).toInt = x_1042.toInt := by rw [ex_1042]; rfl
                          refine lv_iload hx hb dX7_take_49 (lv_at hl 2 rfl) ?_
                          refine iicmp_ge (a := x_1042.toInt) (b := r_736.toInt) (tgt := 119) hx hb rfl rfl dX7_take_51 (by decide) (fun k_1044 => ?_) (fun k_1044 => ?_)
                          · skip
                            refine lv_aload_n hx hb dX7_take_119 rfl (lv_at hl 4 rfl) ?_
                            refine va_get (D := D) (ci := 7) (v := .ref (q 55)) (C := RX7) (T := TX7) (N := 56) hx hb hts (fun _ h => List.mem_cons_of_mem _ (List.mem_append_right _ h)) hown hK hP 0 rfl rfl 55 (by decide) (hts (.fieldLink RX7 118 "CrownTableModel" "cloth" "[I") (mem_i 2 rfl)) (fun _ h9 => h9) rfl dX7_take_120 ?_
                            refine lv_iload_n hx hb dX7_take_123 rfl (lv_at hl 3 rfl) ?_
                            refine lv_dup2_11 hx hb dX7_take_124 rfl rfl ?_
                            refine va_iald hx hb hK hP 1 1 rfl rfl (vin (a := 0) (by decide) (by decide) (by decide)) dX7_take_125 ?_
                            refine lv_topi (fun x_1045 ex_1045 => ?_)
                            have lf_1046 : (f_1034 0).toInt = x_1045.toInt := by rw [ex_1045]; rfl
                            refine lv_iload hx hb dX7_take_126 (lv_at hl 2 rfl) ?_
                            refine lv_isub hx hb dX7_take_128 ?_
                            refine lv_topi (fun x_1047 ex_1047 => ?_)
                            have tx_1047 : x_1047.toInt = (x_1045.toInt - r_736.toInt) := by rw [ex_1047]; exact sub_ti (a := x_1045.toInt) (b := r_736.toInt) rfl rfl (by omega) (by omega)
                            refine va_iast hx hb hK hP hD hS 1 1 rfl rfl (vin (a := 0) (by decide) (by decide) (by decide)) dX7_take_129 (fun H locs hP hD hS => ?_)
                            obtain ⟨f_1048, ef_1048, hP, hD⟩ : ∃ f_1048 : Nat → Int32, f_1048 = upd f_1034 (0 : Int32).toNatClampNeg x_1047 ∧ va_P D vwCl [(A_self, .inr (7, o7 q v w)), (q 55, .inl (c 1, 6, .inl f_1048))] H ∧ va_D A [(A_self, .inr (7, o7 q v w)), (q 55, .inl (c 1, 6, .inl f_1048))] := ⟨_, rfl, hP, hD⟩
                            have cl_1049 : (f_1048 0).toInt = x_1047.toInt := by rw [ef_1048]; rfl
                            have cl_1050 : (f_1048 1).toInt = (f_1034 1).toInt := by rw [ef_1048]; rfl
                            have cl_1051 : (f_1048 2).toInt = (f_1034 2).toInt := by rw [ef_1048]; rfl
                            have cl_1052 : (f_1048 3).toInt = (f_1034 3).toInt := by rw [ef_1048]; rfl
                            have cl_1053 : (f_1048 4).toInt = (f_1034 4).toInt := by rw [ef_1048]; rfl
                            have cl_1054 : (f_1048 5).toInt = (f_1034 5).toInt := by rw [ef_1048]; rfl
                            refine lv_iinc (v := 1) (lv' := [(3, .int 1), (2, .int x_1041), (5, .int 0), (4, .int r_736), (0, .ref A_self), (1, .int a1)]) hx hb dX7_take_130 hl (k := 3) rfl (by decide) (by decide) rfl (fun ls hl => ?_)
                            refine lv_goto (tgt := 30) hx hb dX7_take_133 (by decide) ?_
                            obtain ⟨ts, td0, td1, td2, td3, td4, td5, tl⟩ := TkS.b0_4 (d0 := (f_1048 0).toInt) (d1 := (f_1048 1).toInt) (d2 := (f_1048 2).toInt) (d3 := (f_1048 3).toInt) (d4 := (f_1048 4).toInt) (d5 := (f_1048 5).toInt) (L1 := x_1041.toInt) hf30_0_2 (by omega) (by omega) (by omega) (by omega) (by omega) (by omega) (by omega) (by omega) (by omega) (by omega) (by omega) (by omega)
                            have hl := lv_sub hl [0, 4, 5, 1] rfl
                            exact lp_30_1 x_1041 f_1048 (by omega) (by omega) ts td0 td1 td2 td3 td4 td5 _ _ _ hP hD hS hl
                          · skip
                            exfalso; omega
                        · exfalso; omega
                        · exfalso; omega
                        · exfalso; omega
                      · exfalso; omega
                      · exfalso; omega
                    · exfalso; omega
                    · exfalso; omega
                  · exfalso; omega
                · skip
                  refine lv_iinc (v := 5) (lv' := [(5, .int 5), (4, .int r_736), (3, .int 0), (0, .ref A_self), (1, .int a1), (2, .int L2)]) hx hb dX7_take_69 hl (k := 0) rfl (by decide) (by decide) rfl (fun ls hl => ?_)
                  refine lv_goto (tgt := 59) hx hb dX7_take_72 (by decide) ?_
                  refine lv_aload_n hx hb dX7_take_59 rfl (lv_at hl 3 rfl) ?_
                  refine va_get (D := D) (ci := 7) (v := .ref (q 55)) (C := RX7) (T := TX7) (N := 56) hx hb hts (fun _ h => List.mem_cons_of_mem _ (List.mem_append_right _ h)) hown hK hP 0 rfl rfl 55 (by decide) (hts (.fieldLink RX7 118 "CrownTableModel" "cloth" "[I") (mem_i 2 rfl)) (fun _ h9 => h9) rfl dX7_take_60 ?_
                  refine lv_iload hx hb dX7_take_63 (lv_at hl 0 rfl) ?_
                  refine va_iald hx hb hK hP 1 1 rfl rfl (vin (a := 5) (by decide) (by decide) (by decide)) dX7_take_65 ?_
                  refine lv_topi (fun x_1055 ex_1055 => ?_)
                  have lf_1056 : (M_cloth 5).toInt = x_1055.toInt := by rw [ex_1055]; rfl
                  refine iif_ne (a := x_1055.toInt) (tgt := 75) hx hb rfl dX7_take_66 (by decide) (fun k_1057 => ?_) (fun k_1057 => ?_)
                  · skip
                    refine lv_iload hx hb dX7_take_75 (lv_at hl 0 rfl) ?_
                    refine lv_iload_n hx hb dX7_take_77 rfl (lv_at hl 2 rfl) ?_
                    refine iicmp_leF (a := 5) (b := 0) (tgt := 116) hx hb (by decide) (by decide) dX7_take_78 (by decide) (by decide) ?_
                    refine lv_aload_n hx hb dX7_take_81 rfl (lv_at hl 3 rfl) ?_
                    refine va_get (D := D) (ci := 7) (v := .ref (q 55)) (C := RX7) (T := TX7) (N := 56) hx hb hts (fun _ h => List.mem_cons_of_mem _ (List.mem_append_right _ h)) hown hK hP 0 rfl rfl 55 (by decide) (hts (.fieldLink RX7 118 "CrownTableModel" "cloth" "[I") (mem_i 2 rfl)) (fun _ h9 => h9) rfl dX7_take_82 ?_
                    refine lv_iload hx hb dX7_take_85 (lv_at hl 0 rfl) ?_
                    refine lv_dup2_11 hx hb dX7_take_87 rfl rfl ?_
                    refine va_iald hx hb hK hP 1 1 rfl rfl (vin (a := 5) (by decide) (by decide) (by decide)) dX7_take_88 ?_
                    refine lv_topi (fun x_1058 ex_1058 => ?_)
                    have lf_1059 : (M_cloth 5).toInt = x_1058.toInt := by rw [ex_1058]; rfl
                    refine lv_iconst (v := 1) hx hb dX7_take_89 (by decide) ?_
                    refine lv_isub hx hb dX7_take_90 ?_
                    refine lv_topi (fun x_1060 ex_1060 => ?_)
                    have tx_1060 : x_1060.toInt = (x_1058.toInt - 1) := by rw [ex_1060]; exact sub_ti (a := x_1058.toInt) (b := 1) rfl (by decide) (by omega) (by omega)
                    refine va_iast hx hb hK hP hD hS 1 1 rfl rfl (vin (a := 5) (by decide) (by decide) (by decide)) dX7_take_91 (fun H locs hP hD hS => ?_)
                    obtain ⟨f_1061, ef_1061, hP, hD⟩ : ∃ f_1061 : Nat → Int32, f_1061 = upd M_cloth (5 : Int32).toNatClampNeg x_1060 ∧ va_P D vwCl [(A_self, .inr (7, o7 q v w)), (q 55, .inl (c 1, 6, .inl f_1061))] H ∧ va_D A [(A_self, .inr (7, o7 q v w)), (q 55, .inl (c 1, 6, .inl f_1061))] := ⟨_, rfl, hP, hD⟩
                    have cl_1062 : (f_1061 0).toInt = (M_cloth 0).toInt := by rw [ef_1061]; rfl
                    have cl_1063 : (f_1061 1).toInt = (M_cloth 1).toInt := by rw [ef_1061]; rfl
                    have cl_1064 : (f_1061 2).toInt = (M_cloth 2).toInt := by rw [ef_1061]; rfl
                    have cl_1065 : (f_1061 3).toInt = (M_cloth 3).toInt := by rw [ef_1061]; rfl
                    have cl_1066 : (f_1061 4).toInt = (M_cloth 4).toInt := by rw [ef_1061]; rfl
                    have cl_1067 : (f_1061 5).toInt = x_1060.toInt := by rw [ef_1061]; rfl
                    refine lv_iinc (v := 4) (lv' := [(5, .int 4), (4, .int r_736), (3, .int 0), (0, .ref A_self), (1, .int a1), (2, .int L2)]) hx hb dX7_take_92 hl (k := 0) rfl (by decide) (by decide) rfl (fun ls hl => ?_)
                    refine lv_aload_n hx hb dX7_take_95 rfl (lv_at hl 3 rfl) ?_
                    refine va_get (D := D) (ci := 7) (v := .ref (q 55)) (C := RX7) (T := TX7) (N := 56) hx hb hts (fun _ h => List.mem_cons_of_mem _ (List.mem_append_right _ h)) hown hK hP 0 rfl rfl 55 (by decide) (hts (.fieldLink RX7 118 "CrownTableModel" "cloth" "[I") (mem_i 2 rfl)) (fun _ h9 => h9) rfl dX7_take_96 ?_
                    refine lv_iload hx hb dX7_take_99 (lv_at hl 0 rfl) ?_
                    refine lv_dup2_11 hx hb dX7_take_101 rfl rfl ?_
                    refine va_iald hx hb hK hP 1 1 rfl rfl (vin (a := 4) (by decide) (by decide) (by decide)) dX7_take_102 ?_
                    refine lv_topi (fun x_1068 ex_1068 => ?_)
                    have lf_1069 : (f_1061 4).toInt = x_1068.toInt := by rw [ex_1068]; rfl
                    refine lv_iload hx hb dX7_take_103 (lv_at hl 0 rfl) ?_
                    have hPc := hP.sub (ws' := []) [] rfl
                    have hDc := hD.sub (ws' := []) [] (by decide) rfl
                    have hFc := va_free (wc := []) hD hS hA [] rfl
                    have kzz_1070 : (4 : Int32).toInt = 4 := by decide
                    refine va_csi (va_runS (As := [.int 4]) (rest := [.int x_1068, .int 4, .ref (q 55)]) ⟨hx, hb, hml, hown, hts⟩ (k_X7_next l D c ts H.size 4 4 (by decide) (by omega)) (cwS 1 hts gX7_take_X7_next rfl rfl rfl ⟨rfl, hdX7_next⟩ ⟨(show 1 + 1 ≤ 2 by decide), (show 8 + (1 + 11) + 20 ≤ 43 by decide)⟩) ⟨Pre0.blind, Pre0.at hPc hDc hAm hSt hS hFc⟩ rfl rfl hl.1 rfl (lv_room (Nat.le_of_ble_eq_true rfl)) dX7_take_105 ⟨(show 0 + 0 ≤ 0 by decide), (show 0 + 0 ≤ 0 by decide)⟩) (fun r_1072 hw_1071 => ?_)
                    rcases hw_1071 with ⟨hw_1071, rfl⟩ | ⟨hw_1071, rfl⟩ | ⟨hw_1071, rfl⟩ | ⟨hw_1071, rfl⟩
                    · exfalso; omega
                    · exfalso; omega
                    · exfalso; omega
                    · skip
                      refine lv_iadd hx hb dX7_take_108 ?_
                      refine lv_topi (fun x_1073 ex_1073 => ?_)
                      have tx_1073 : x_1073.toInt = (x_1068.toInt + 10) := by rw [ex_1073]; exact add_ti (a := x_1068.toInt) (b := 10) rfl (by decide) (by omega) (by omega)
                      refine va_iast hx hb hK hP hD hS 1 1 rfl rfl (vin (a := 4) (by decide) (by decide) (by decide)) dX7_take_109 (fun H locs hP hD hS => ?_)
                      obtain ⟨f_1074, ef_1074, hP, hD⟩ : ∃ f_1074 : Nat → Int32, f_1074 = upd f_1061 (4 : Int32).toNatClampNeg x_1073 ∧ va_P D vwCl [(A_self, .inr (7, o7 q v w)), (q 55, .inl (c 1, 6, .inl f_1074))] H ∧ va_D A [(A_self, .inr (7, o7 q v w)), (q 55, .inl (c 1, 6, .inl f_1074))] := ⟨_, rfl, hP, hD⟩
                      have cl_1075 : (f_1074 0).toInt = (f_1061 0).toInt := by rw [ef_1074]; rfl
                      have cl_1076 : (f_1074 1).toInt = (f_1061 1).toInt := by rw [ef_1074]; rfl
                      have cl_1077 : (f_1074 2).toInt = (f_1061 2).toInt := by rw [ef_1074]; rfl
                      have cl_1078 : (f_1074 3).toInt = (f_1061 3).toInt := by rw [ef_1074]; rfl
                      have cl_1079 : (f_1074 4).toInt = x_1073.toInt := by rw [ef_1074]; rfl
                      have cl_1080 : (f_1074 5).toInt = (f_1061 5).toInt := by rw [ef_1074]; rfl
                      obtain ⟨x_1081, ex_1081⟩ : ∃ y : Int32, y = L2 + 1 := ⟨_, rfl⟩
                      have tx_1081 : x_1081.toInt = L2.toInt + 1 := by rw [ex_1081]; exact add_ti (a := L2.toInt) (b := 1) rfl (by decide) (by omega) (by omega)
                      refine lv_iinc (v := x_1081) (lv' := [(2, .int x_1081), (5, .int 4), (4, .int r_736), (3, .int 0), (0, .ref A_self), (1, .int a1)]) hx hb dX7_take_110 hl (k := 5) rfl (by rw [ex_1081]; rfl) (by decide) rfl (fun ls hl => ?_)
                      refine lv_goto (tgt := 75) hx hb dX7_take_113 (by decide) ?_
                      refine lv_iload hx hb dX7_take_75 (lv_at hl 1 rfl) ?_
                      refine lv_iload_n hx hb dX7_take_77 rfl (lv_at hl 3 rfl) ?_
                      refine iicmp_leF (a := 4) (b := 0) (tgt := 116) hx hb (by decide) (by decide) dX7_take_78 (by decide) (by decide) ?_
                      refine lv_aload_n hx hb dX7_take_81 rfl (lv_at hl 4 rfl) ?_
                      refine va_get (D := D) (ci := 7) (v := .ref (q 55)) (C := RX7) (T := TX7) (N := 56) hx hb hts (fun _ h => List.mem_cons_of_mem _ (List.mem_append_right _ h)) hown hK hP 0 rfl rfl 55 (by decide) (hts (.fieldLink RX7 118 "CrownTableModel" "cloth" "[I") (mem_i 2 rfl)) (fun _ h9 => h9) rfl dX7_take_82 ?_
                      refine lv_iload hx hb dX7_take_85 (lv_at hl 1 rfl) ?_
                      refine lv_dup2_11 hx hb dX7_take_87 rfl rfl ?_
                      refine va_iald hx hb hK hP 1 1 rfl rfl (vin (a := 4) (by decide) (by decide) (by decide)) dX7_take_88 ?_
                      refine lv_topi (fun x_1082 ex_1082 => ?_)
                      have lf_1083 : (f_1074 4).toInt = x_1082.toInt := by rw [ex_1082]; rfl
                      refine lv_iconst (v := 1) hx hb dX7_take_89 (by decide) ?_
                      refine lv_isub hx hb dX7_take_90 ?_
                      refine lv_topi (fun x_1084 ex_1084 => ?_)
                      have tx_1084 : x_1084.toInt = (x_1082.toInt - 1) := by rw [ex_1084]; exact sub_ti (a := x_1082.toInt) (b := 1) rfl (by decide) (by omega) (by omega)
                      refine va_iast hx hb hK hP hD hS 1 1 rfl rfl (vin (a := 4) (by decide) (by decide) (by decide)) dX7_take_91 (fun H locs hP hD hS => ?_)
                      obtain ⟨f_1085, ef_1085, hP, hD⟩ : ∃ f_1085 : Nat → Int32, f_1085 = upd f_1074 (4 : Int32).toNatClampNeg x_1084 ∧ va_P D vwCl [(A_self, .inr (7, o7 q v w)), (q 55, .inl (c 1, 6, .inl f_1085))] H ∧ va_D A [(A_self, .inr (7, o7 q v w)), (q 55, .inl (c 1, 6, .inl f_1085))] := ⟨_, rfl, hP, hD⟩
                      have cl_1086 : (f_1085 0).toInt = (f_1074 0).toInt := by rw [ef_1085]; rfl
                      have cl_1087 : (f_1085 1).toInt = (f_1074 1).toInt := by rw [ef_1085]; rfl
                      have cl_1088 : (f_1085 2).toInt = (f_1074 2).toInt := by rw [ef_1085]; rfl
                      have cl_1089 : (f_1085 3).toInt = (f_1074 3).toInt := by rw [ef_1085]; rfl
                      have cl_1090 : (f_1085 4).toInt = x_1084.toInt := by rw [ef_1085]; rfl
                      have cl_1091 : (f_1085 5).toInt = (f_1074 5).toInt := by rw [ef_1085]; rfl
                      refine lv_iinc (v := 3) (lv' := [(5, .int 3), (2, .int x_1081), (4, .int r_736), (3, .int 0), (0, .ref A_self), (1, .int a1)]) hx hb dX7_take_92 hl (k := 1) rfl (by decide) (by decide) rfl (fun ls hl => ?_)
                      refine lv_aload_n hx hb dX7_take_95 rfl (lv_at hl 4 rfl) ?_
                      refine va_get (D := D) (ci := 7) (v := .ref (q 55)) (C := RX7) (T := TX7) (N := 56) hx hb hts (fun _ h => List.mem_cons_of_mem _ (List.mem_append_right _ h)) hown hK hP 0 rfl rfl 55 (by decide) (hts (.fieldLink RX7 118 "CrownTableModel" "cloth" "[I") (mem_i 2 rfl)) (fun _ h9 => h9) rfl dX7_take_96 ?_
                      refine lv_iload hx hb dX7_take_99 (lv_at hl 0 rfl) ?_
                      refine lv_dup2_11 hx hb dX7_take_101 rfl rfl ?_
                      refine va_iald hx hb hK hP 1 1 rfl rfl (vin (a := 3) (by decide) (by decide) (by decide)) dX7_take_102 ?_
                      refine lv_topi (fun x_1092 ex_1092 => ?_)
                      have lf_1093 : (f_1085 3).toInt = x_1092.toInt := by rw [ex_1092]; rfl
                      refine lv_iload hx hb dX7_take_103 (lv_at hl 0 rfl) ?_
                      have hPc := hP.sub (ws' := []) [] rfl
                      have hDc := hD.sub (ws' := []) [] (by decide) rfl
                      have hFc := va_free (wc := []) hD hS hA [] rfl
                      have kzz_1094 : (3 : Int32).toInt = 3 := by decide
                      refine va_csi (va_runS (As := [.int 3]) (rest := [.int x_1092, .int 3, .ref (q 55)]) ⟨hx, hb, hml, hown, hts⟩ (k_X7_next l D c ts H.size 3 3 (by decide) (by omega)) (cwS 1 hts gX7_take_X7_next rfl rfl rfl ⟨rfl, hdX7_next⟩ ⟨(show 1 + 1 ≤ 2 by decide), (show 8 + (1 + 11) + 20 ≤ 43 by decide)⟩) ⟨Pre0.blind, Pre0.at hPc hDc hAm hSt hS hFc⟩ rfl rfl hl.1 rfl (lv_room (Nat.le_of_ble_eq_true rfl)) dX7_take_105 ⟨(show 0 + 0 ≤ 0 by decide), (show 0 + 0 ≤ 0 by decide)⟩) (fun r_1096 hw_1095 => ?_)
                      rcases hw_1095 with ⟨hw_1095, rfl⟩ | ⟨hw_1095, rfl⟩ | ⟨hw_1095, rfl⟩ | ⟨hw_1095, rfl⟩
                      · exfalso; omega
                      · exfalso; omega
                      · skip
                        refine lv_iadd hx hb dX7_take_108 ?_
                        refine lv_topi (fun x_1097 ex_1097 => ?_)
                        have tx_1097 : x_1097.toInt = (x_1092.toInt + 5) := by rw [ex_1097]; exact add_ti (a := x_1092.toInt) (b := 5) rfl (by decide) (by omega) (by omega)
                        refine va_iast hx hb hK hP hD hS 1 1 rfl rfl (vin (a := 3) (by decide) (by decide) (by decide)) dX7_take_109 (fun H locs hP hD hS => ?_)
                        obtain ⟨f_1098, ef_1098, hP, hD⟩ : ∃ f_1098 : Nat → Int32, f_1098 = upd f_1085 (3 : Int32).toNatClampNeg x_1097 ∧ va_P D vwCl [(A_self, .inr (7, o7 q v w)), (q 55, .inl (c 1, 6, .inl f_1098))] H ∧ va_D A [(A_self, .inr (7, o7 q v w)), (q 55, .inl (c 1, 6, .inl f_1098))] := ⟨_, rfl, hP, hD⟩
                        have cl_1099 : (f_1098 0).toInt = (f_1085 0).toInt := by rw [ef_1098]; rfl
                        have cl_1100 : (f_1098 1).toInt = (f_1085 1).toInt := by rw [ef_1098]; rfl
                        have cl_1101 : (f_1098 2).toInt = (f_1085 2).toInt := by rw [ef_1098]; rfl
                        have cl_1102 : (f_1098 3).toInt = x_1097.toInt := by rw [ef_1098]; rfl
                        have cl_1103 : (f_1098 4).toInt = (f_1085 4).toInt := by rw [ef_1098]; rfl
                        have cl_1104 : (f_1098 5).toInt = (f_1085 5).toInt := by rw [ef_1098]; rfl
                        obtain ⟨x_1105, ex_1105⟩ : ∃ y : Int32, y = x_1081 + 1 := ⟨_, rfl⟩
                        have tx_1105 : x_1105.toInt = x_1081.toInt + 1 := by rw [ex_1105]; exact add_ti (a := x_1081.toInt) (b := 1) rfl (by decide) (by omega) (by omega)
                        refine lv_iinc (v := x_1105) (lv' := [(2, .int x_1105), (5, .int 3), (4, .int r_736), (3, .int 0), (0, .ref A_self), (1, .int a1)]) hx hb dX7_take_110 hl (k := 1) rfl (by rw [ex_1105]; rfl) (by decide) rfl (fun ls hl => ?_)
                        refine lv_goto (tgt := 75) hx hb dX7_take_113 (by decide) ?_
                        refine lv_iload hx hb dX7_take_75 (lv_at hl 1 rfl) ?_
                        refine lv_iload_n hx hb dX7_take_77 rfl (lv_at hl 3 rfl) ?_
                        refine iicmp_leF (a := 3) (b := 0) (tgt := 116) hx hb (by decide) (by decide) dX7_take_78 (by decide) (by decide) ?_
                        refine lv_aload_n hx hb dX7_take_81 rfl (lv_at hl 4 rfl) ?_
                        refine va_get (D := D) (ci := 7) (v := .ref (q 55)) (C := RX7) (T := TX7) (N := 56) hx hb hts (fun _ h => List.mem_cons_of_mem _ (List.mem_append_right _ h)) hown hK hP 0 rfl rfl 55 (by decide) (hts (.fieldLink RX7 118 "CrownTableModel" "cloth" "[I") (mem_i 2 rfl)) (fun _ h9 => h9) rfl dX7_take_82 ?_
                        refine lv_iload hx hb dX7_take_85 (lv_at hl 1 rfl) ?_
                        refine lv_dup2_11 hx hb dX7_take_87 rfl rfl ?_
                        refine va_iald hx hb hK hP 1 1 rfl rfl (vin (a := 3) (by decide) (by decide) (by decide)) dX7_take_88 ?_
                        refine lv_topi (fun x_1106 ex_1106 => ?_)
                        have lf_1107 : (f_1098 3).toInt = x_1106.toInt := by rw [ex_1106]; rfl
                        refine lv_iconst (v := 1) hx hb dX7_take_89 (by decide) ?_
                        refine lv_isub hx hb dX7_take_90 ?_
                        refine lv_topi (fun x_1108 ex_1108 => ?_)
                        have tx_1108 : x_1108.toInt = (x_1106.toInt - 1) := by rw [ex_1108]; exact sub_ti (a := x_1106.toInt) (b := 1) rfl (by decide) (by omega) (by omega)
                        refine va_iast hx hb hK hP hD hS 1 1 rfl rfl (vin (a := 3) (by decide) (by decide) (by decide)) dX7_take_91 (fun H locs hP hD hS => ?_)
                        obtain ⟨f_1109, ef_1109, hP, hD⟩ : ∃ f_1109 : Nat → Int32, f_1109 = upd f_1098 (3 : Int32).toNatClampNeg x_1108 ∧ va_P D vwCl [(A_self, .inr (7, o7 q v w)), (q 55, .inl (c 1, 6, .inl f_1109))] H ∧ va_D A [(A_self, .inr (7, o7 q v w)), (q 55, .inl (c 1, 6, .inl f_1109))] := ⟨_, rfl, hP, hD⟩
                        have cl_1110 : (f_1109 0).toInt = (f_1098 0).toInt := by rw [ef_1109]; rfl
                        have cl_1111 : (f_1109 1).toInt = (f_1098 1).toInt := by rw [ef_1109]; rfl
                        have cl_1112 : (f_1109 2).toInt = (f_1098 2).toInt := by rw [ef_1109]; rfl
                        have cl_1113 : (f_1109 3).toInt = x_1108.toInt := by rw [ef_1109]; rfl
                        have cl_1114 : (f_1109 4).toInt = (f_1098 4).toInt := by rw [ef_1109]; rfl
                        have cl_1115 : (f_1109 5).toInt = (f_1098 5).toInt := by rw [ef_1109]; rfl
                        refine lv_iinc (v := 2) (lv' := [(5, .int 2), (2, .int x_1105), (4, .int r_736), (3, .int 0), (0, .ref A_self), (1, .int a1)]) hx hb dX7_take_92 hl (k := 1) rfl (by decide) (by decide) rfl (fun ls hl => ?_)
                        refine lv_aload_n hx hb dX7_take_95 rfl (lv_at hl 4 rfl) ?_
                        refine va_get (D := D) (ci := 7) (v := .ref (q 55)) (C := RX7) (T := TX7) (N := 56) hx hb hts (fun _ h => List.mem_cons_of_mem _ (List.mem_append_right _ h)) hown hK hP 0 rfl rfl 55 (by decide) (hts (.fieldLink RX7 118 "CrownTableModel" "cloth" "[I") (mem_i 2 rfl)) (fun _ h9 => h9) rfl dX7_take_96 ?_
                        refine lv_iload hx hb dX7_take_99 (lv_at hl 0 rfl) ?_
                        refine lv_dup2_11 hx hb dX7_take_101 rfl rfl ?_
                        refine va_iald hx hb hK hP 1 1 rfl rfl (vin (a := 2) (by decide) (by decide) (by decide)) dX7_take_102 ?_
                        refine lv_topi (fun x_1116 ex_1116 => ?_)
                        have lf_1117 : (f_1109 2).toInt = x_1116.toInt := by rw [ex_1116]; rfl
                        refine lv_iload hx hb dX7_take_103 (lv_at hl 0 rfl) ?_
                        have hPc := hP.sub (ws' := []) [] rfl
                        have hDc := hD.sub (ws' := []) [] (by decide) rfl
                        have hFc := va_free (wc := []) hD hS hA [] rfl
                        have kzz_1118 : (2 : Int32).toInt = 2 := by decide
                        refine va_csi (va_runS (As := [.int 2]) (rest := [.int x_1116, .int 2, .ref (q 55)]) ⟨hx, hb, hml, hown, hts⟩ (k_X7_next l D c ts H.size 2 2 (by decide) (by omega)) (cwS 1 hts gX7_take_X7_next rfl rfl rfl ⟨rfl, hdX7_next⟩ ⟨(show 1 + 1 ≤ 2 by decide), (show 8 + (1 + 11) + 20 ≤ 43 by decide)⟩) ⟨Pre0.blind, Pre0.at hPc hDc hAm hSt hS hFc⟩ rfl rfl hl.1 rfl (lv_room (Nat.le_of_ble_eq_true rfl)) dX7_take_105 ⟨(show 0 + 0 ≤ 0 by decide), (show 0 + 0 ≤ 0 by decide)⟩) (fun r_1120 hw_1119 => ?_)
                        rcases hw_1119 with ⟨hw_1119, rfl⟩ | ⟨hw_1119, rfl⟩ | ⟨hw_1119, rfl⟩ | ⟨hw_1119, rfl⟩
                        · exfalso; omega
                        · skip
                          refine lv_iadd hx hb dX7_take_108 ?_
                          refine lv_topi (fun x_1121 ex_1121 => ?_)
                          have tx_1121 : x_1121.toInt = (x_1116.toInt + 20) := by rw [ex_1121]; exact add_ti (a := x_1116.toInt) (b := 20) rfl (by decide) (by omega) (by omega)
                          refine va_iast hx hb hK hP hD hS 1 1 rfl rfl (vin (a := 2) (by decide) (by decide) (by decide)) dX7_take_109 (fun H locs hP hD hS => ?_)
                          obtain ⟨f_1122, ef_1122, hP, hD⟩ : ∃ f_1122 : Nat → Int32, f_1122 = upd f_1109 (2 : Int32).toNatClampNeg x_1121 ∧ va_P D vwCl [(A_self, .inr (7, o7 q v w)), (q 55, .inl (c 1, 6, .inl f_1122))] H ∧ va_D A [(A_self, .inr (7, o7 q v w)), (q 55, .inl (c 1, 6, .inl f_1122))] := ⟨_, rfl, hP, hD⟩
                          have cl_1123 : (f_1122 0).toInt = (f_1109 0).toInt := by rw [ef_1122]; rfl
                          have cl_1124 : (f_1122 1).toInt = (f_1109 1).toInt := by rw [ef_1122]; rfl
                          have cl_1125 : (f_1122 2).toInt = x_1121.toInt := by rw [ef_1122]; rfl
                          have cl_1126 : (f_1122 3).toInt = (f_1109 3).toInt := by rw [ef_1122]; rfl
                          have cl_1127 : (f_1122 4).toInt = (f_1109 4).toInt := by rw [ef_1122]; rfl
                          have cl_1128 : (f_1122 5).toInt = (f_1109 5).toInt := by rw [ef_1122]; rfl
                          obtain ⟨x_1129, ex_1129⟩ : ∃ y : Int32, y = x_1105 + 1 := ⟨_, rfl⟩
                          have tx_1129 : x_1129.toInt = x_1105.toInt + 1 := by rw [ex_1129]; exact add_ti (a := x_1105.toInt) (b := 1) rfl (by decide) (by omega) (by omega)
                          refine lv_iinc (v := x_1129) (lv' := [(2, .int x_1129), (5, .int 2), (4, .int r_736), (3, .int 0), (0, .ref A_self), (1, .int a1)]) hx hb dX7_take_110 hl (k := 1) rfl (by rw [ex_1129]; rfl) (by decide) rfl (fun ls hl => ?_)
                          refine lv_goto (tgt := 75) hx hb dX7_take_113 (by decide) ?_
                          refine lv_iload hx hb dX7_take_75 (lv_at hl 1 rfl) ?_
                          refine lv_iload_n hx hb dX7_take_77 rfl (lv_at hl 3 rfl) ?_
                          refine iicmp_leF (a := 2) (b := 0) (tgt := 116) hx hb (by decide) (by decide) dX7_take_78 (by decide) (by decide) ?_
                          refine lv_aload_n hx hb dX7_take_81 rfl (lv_at hl 4 rfl) ?_
                          refine va_get (D := D) (ci := 7) (v := .ref (q 55)) (C := RX7) (T := TX7) (N := 56) hx hb hts (fun _ h => List.mem_cons_of_mem _ (List.mem_append_right _ h)) hown hK hP 0 rfl rfl 55 (by decide) (hts (.fieldLink RX7 118 "CrownTableModel" "cloth" "[I") (mem_i 2 rfl)) (fun _ h9 => h9) rfl dX7_take_82 ?_
                          refine lv_iload hx hb dX7_take_85 (lv_at hl 1 rfl) ?_
                          refine lv_dup2_11 hx hb dX7_take_87 rfl rfl ?_
                          refine va_iald hx hb hK hP 1 1 rfl rfl (vin (a := 2) (by decide) (by decide) (by decide)) dX7_take_88 ?_
                          refine lv_topi (fun x_1130 ex_1130 => ?_)
                          have lf_1131 : (f_1122 2).toInt = x_1130.toInt := by rw [ex_1130]; rfl
                          refine lv_iconst (v := 1) hx hb dX7_take_89 (by decide) ?_
                          refine lv_isub hx hb dX7_take_90 ?_
                          refine lv_topi (fun x_1132 ex_1132 => ?_)
                          have tx_1132 : x_1132.toInt = (x_1130.toInt - 1) := by rw [ex_1132]; exact sub_ti (a := x_1130.toInt) (b := 1) rfl (by decide) (by omega) (by omega)
                          refine va_iast hx hb hK hP hD hS 1 1 rfl rfl (vin (a := 2) (by decide) (by decide) (by decide)) dX7_take_91 (fun H locs hP hD hS => ?_)
                          obtain ⟨f_1133, ef_1133, hP, hD⟩ : ∃ f_1133 : Nat → Int32, f_1133 = upd f_1122 (2 : Int32).toNatClampNeg x_1132 ∧ va_P D vwCl [(A_self, .inr (7, o7 q v w)), (q 55, .inl (c 1, 6, .inl f_1133))] H ∧ va_D A [(A_self, .inr (7, o7 q v w)), (q 55, .inl (c 1, 6, .inl f_1133))] := ⟨_, rfl, hP, hD⟩
                          have cl_1134 : (f_1133 0).toInt = (f_1122 0).toInt := by rw [ef_1133]; rfl
                          have cl_1135 : (f_1133 1).toInt = (f_1122 1).toInt := by rw [ef_1133]; rfl
                          have cl_1136 : (f_1133 2).toInt = x_1132.toInt := by rw [ef_1133]; rfl
                          have cl_1137 : (f_1133 3).toInt = (f_1122 3).toInt := by rw [ef_1133]; rfl
                          have cl_1138 : (f_1133 4).toInt = (f_1122 4).toInt := by rw [ef_1133]; rfl
                          have cl_1139 : (f_1133 5).toInt = (f_1122 5).toInt := by rw [ef_1133]; rfl
                          refine lv_iinc (v := 1) (lv' := [(5, .int 1), (2, .int x_1129), (4, .int r_736), (3, .int 0), (0, .ref A_self), (1, .int a1)]) hx hb dX7_take_92 hl (k := 1) rfl (by decide) (by decide) rfl (fun ls hl => ?_)
                          refine lv_aload_n hx hb dX7_take_95 rfl (lv_at hl 4 rfl) ?_
                          refine va_get (D := D) (ci := 7) (v := .ref (q 55)) (C := RX7) (T := TX7) (N := 56) hx hb hts (fun _ h => List.mem_cons_of_mem _ (List.mem_append_right _ h)) hown hK hP 0 rfl rfl 55 (by decide) (hts (.fieldLink RX7 118 "CrownTableModel" "cloth" "[I") (mem_i 2 rfl)) (fun _ h9 => h9) rfl dX7_take_96 ?_
                          refine lv_iload hx hb dX7_take_99 (lv_at hl 0 rfl) ?_
                          refine lv_dup2_11 hx hb dX7_take_101 rfl rfl ?_
                          refine va_iald hx hb hK hP 1 1 rfl rfl (vin (a := 1) (by decide) (by decide) (by decide)) dX7_take_102 ?_
                          refine lv_topi (fun x_1140 ex_1140 => ?_)
                          have lf_1141 : (f_1133 1).toInt = x_1140.toInt := by rw [ex_1140]; rfl
                          refine lv_iload hx hb dX7_take_103 (lv_at hl 0 rfl) ?_
                          have hPc := hP.sub (ws' := []) [] rfl
                          have hDc := hD.sub (ws' := []) [] (by decide) rfl
                          have hFc := va_free (wc := []) hD hS hA [] rfl
                          have kzz_1142 : (1 : Int32).toInt = 1 := by decide
                          refine va_csi (va_runS (As := [.int 1]) (rest := [.int x_1140, .int 1, .ref (q 55)]) ⟨hx, hb, hml, hown, hts⟩ (k_X7_next l D c ts H.size 1 1 (by decide) (by omega)) (cwS 1 hts gX7_take_X7_next rfl rfl rfl ⟨rfl, hdX7_next⟩ ⟨(show 1 + 1 ≤ 2 by decide), (show 8 + (1 + 11) + 20 ≤ 43 by decide)⟩) ⟨Pre0.blind, Pre0.at hPc hDc hAm hSt hS hFc⟩ rfl rfl hl.1 rfl (lv_room (Nat.le_of_ble_eq_true rfl)) dX7_take_105 ⟨(show 0 + 0 ≤ 0 by decide), (show 0 + 0 ≤ 0 by decide)⟩) (fun r_1144 hw_1143 => ?_)
                          rcases hw_1143 with ⟨hw_1143, rfl⟩ | ⟨hw_1143, rfl⟩ | ⟨hw_1143, rfl⟩ | ⟨hw_1143, rfl⟩
                          · exfalso; omega
                          · skip
                            refine lv_iadd hx hb dX7_take_108 ?_
                            refine lv_topi (fun x_1145 ex_1145 => ?_)
                            have tx_1145 : x_1145.toInt = (x_1140.toInt + 20) := by rw [ex_1145]; exact add_ti (a := x_1140.toInt) (b := 20) rfl (by decide) (by omega) (by omega)
                            refine va_iast hx hb hK hP hD hS 1 1 rfl rfl (vin (a := 1) (by decide) (by decide) (by decide)) dX7_take_109 (fun H locs hP hD hS => ?_)
                            obtain ⟨f_1146, ef_1146, hP, hD⟩ : ∃ f_1146 : Nat → Int32, f_1146 = upd f_1133 (1 : Int32).toNatClampNeg x_1145 ∧ va_P D vwCl [(A_self, .inr (7, o7 q v w)), (q 55, .inl (c 1, 6, .inl f_1146))] H ∧ va_D A [(A_self, .inr (7, o7 q v w)), (q 55, .inl (c 1, 6, .inl f_1146))] := ⟨_, rfl, hP, hD⟩
                            have cl_1147 : (f_1146 0).toInt = (f_1133 0).toInt := by rw [ef_1146]; rfl
                            have cl_1148 : (f_1146 1).toInt = x_1145.toInt := by rw [ef_1146]; rfl
                            have cl_1149 : (f_1146 2).toInt = (f_1133 2).toInt := by rw [ef_1146]; rfl
                            have cl_1150 : (f_1146 3).toInt = (f_1133 3).toInt := by rw [ef_1146]; rfl
                            have cl_1151 : (f_1146 4).toInt = (f_1133 4).toInt := by rw [ef_1146]; rfl
                            have cl_1152 : (f_1146 5).toInt = (f_1133 5).toInt := by rw [ef_1146]; rfl
                            obtain ⟨x_1153, ex_1153⟩ : ∃ y : Int32, y = x_1129 + 1 := ⟨_, rfl⟩
                            have tx_1153 : x_1153.toInt = x_1129.toInt + 1 := by rw [ex_1153]; exact add_ti (a := x_1129.toInt) (b := 1) rfl (by decide) (by omega) (by omega)
                            refine lv_iinc (v := x_1153) (lv' := [(2, .int x_1153), (5, .int 1), (4, .int r_736), (3, .int 0), (0, .ref A_self), (1, .int a1)]) hx hb dX7_take_110 hl (k := 1) rfl (by rw [ex_1153]; rfl) (by decide) rfl (fun ls hl => ?_)
                            refine lv_goto (tgt := 75) hx hb dX7_take_113 (by decide) ?_
                            refine lv_iload hx hb dX7_take_75 (lv_at hl 1 rfl) ?_
                            refine lv_iload_n hx hb dX7_take_77 rfl (lv_at hl 3 rfl) ?_
                            refine iicmp_leF (a := 1) (b := 0) (tgt := 116) hx hb (by decide) (by decide) dX7_take_78 (by decide) (by decide) ?_
                            refine lv_aload_n hx hb dX7_take_81 rfl (lv_at hl 4 rfl) ?_
                            refine va_get (D := D) (ci := 7) (v := .ref (q 55)) (C := RX7) (T := TX7) (N := 56) hx hb hts (fun _ h => List.mem_cons_of_mem _ (List.mem_append_right _ h)) hown hK hP 0 rfl rfl 55 (by decide) (hts (.fieldLink RX7 118 "CrownTableModel" "cloth" "[I") (mem_i 2 rfl)) (fun _ h9 => h9) rfl dX7_take_82 ?_
                            refine lv_iload hx hb dX7_take_85 (lv_at hl 1 rfl) ?_
                            refine lv_dup2_11 hx hb dX7_take_87 rfl rfl ?_
                            refine va_iald hx hb hK hP 1 1 rfl rfl (vin (a := 1) (by decide) (by decide) (by decide)) dX7_take_88 ?_
                            refine lv_topi (fun x_1154 ex_1154 => ?_)
                            have lf_1155 : (f_1146 1).toInt = x_1154.toInt := by rw [ex_1154]; rfl
                            refine lv_iconst (v := 1) hx hb dX7_take_89 (by decide) ?_
                            refine lv_isub hx hb dX7_take_90 ?_
                            refine lv_topi (fun x_1156 ex_1156 => ?_)
                            have tx_1156 : x_1156.toInt = (x_1154.toInt - 1) := by rw [ex_1156]; exact sub_ti (a := x_1154.toInt) (b := 1) rfl (by decide) (by omega) (by omega)
                            refine va_iast hx hb hK hP hD hS 1 1 rfl rfl (vin (a := 1) (by decide) (by decide) (by decide)) dX7_take_91 (fun H locs hP hD hS => ?_)
                            obtain ⟨f_1157, ef_1157, hP, hD⟩ : ∃ f_1157 : Nat → Int32, f_1157 = upd f_1146 (1 : Int32).toNatClampNeg x_1156 ∧ va_P D vwCl [(A_self, .inr (7, o7 q v w)), (q 55, .inl (c 1, 6, .inl f_1157))] H ∧ va_D A [(A_self, .inr (7, o7 q v w)), (q 55, .inl (c 1, 6, .inl f_1157))] := ⟨_, rfl, hP, hD⟩
                            have cl_1158 : (f_1157 0).toInt = (f_1146 0).toInt := by rw [ef_1157]; rfl
                            have cl_1159 : (f_1157 1).toInt = x_1156.toInt := by rw [ef_1157]; rfl
                            have cl_1160 : (f_1157 2).toInt = (f_1146 2).toInt := by rw [ef_1157]; rfl
                            have cl_1161 : (f_1157 3).toInt = (f_1146 3).toInt := by rw [ef_1157]; rfl
                            have cl_1162 : (f_1157 4).toInt = (f_1146 4).toInt := by rw [ef_1157]; rfl
                            have cl_1163 : (f_1157 5).toInt = (f_1146 5).toInt := by rw [ef_1157]; rfl
                            refine lv_iinc (v := 0) (lv' := [(5, .int 0), (2, .int x_1153), (4, .int r_736), (3, .int 0), (0, .ref A_self), (1, .int a1)]) hx hb dX7_take_92 hl (k := 1) rfl (by decide) (by decide) rfl (fun ls hl => ?_)
                            refine lv_aload_n hx hb dX7_take_95 rfl (lv_at hl 4 rfl) ?_
                            refine va_get (D := D) (ci := 7) (v := .ref (q 55)) (C := RX7) (T := TX7) (N := 56) hx hb hts (fun _ h => List.mem_cons_of_mem _ (List.mem_append_right _ h)) hown hK hP 0 rfl rfl 55 (by decide) (hts (.fieldLink RX7 118 "CrownTableModel" "cloth" "[I") (mem_i 2 rfl)) (fun _ h9 => h9) rfl dX7_take_96 ?_
                            refine lv_iload hx hb dX7_take_99 (lv_at hl 0 rfl) ?_
                            refine lv_dup2_11 hx hb dX7_take_101 rfl rfl ?_
                            refine va_iald hx hb hK hP 1 1 rfl rfl (vin (a := 0) (by decide) (by decide) (by decide)) dX7_take_102 ?_
                            refine lv_topi (fun x_1164 ex_1164 => ?_)
                            have lf_1165 : (f_1157 0).toInt = x_1164.toInt := by rw [ex_1164]; rfl
                            refine lv_iload hx hb dX7_take_103 (lv_at hl 0 rfl) ?_
                            have hPc := hP.sub (ws' := []) [] rfl
                            have hDc := hD.sub (ws' := []) [] (by decide) rfl
                            have hFc := va_free (wc := []) hD hS hA [] rfl
                            have kzz_1166 : (0 : Int32).toInt = 0 := by decide
                            refine va_csi (va_runS (As := [.int 0]) (rest := [.int x_1164, .int 0, .ref (q 55)]) ⟨hx, hb, hml, hown, hts⟩ (k_X7_next l D c ts H.size 0 0 (by decide) (by omega)) (cwS 1 hts gX7_take_X7_next rfl rfl rfl ⟨rfl, hdX7_next⟩ ⟨(show 1 + 1 ≤ 2 by decide), (show 8 + (1 + 11) + 20 ≤ 43 by decide)⟩) ⟨Pre0.blind, Pre0.at hPc hDc hAm hSt hS hFc⟩ rfl rfl hl.1 rfl (lv_room (Nat.le_of_ble_eq_true rfl)) dX7_take_105 ⟨(show 0 + 0 ≤ 0 by decide), (show 0 + 0 ≤ 0 by decide)⟩) (fun r_1168 hw_1167 => ?_)
                            rcases hw_1167 with ⟨hw_1167, rfl⟩ | ⟨hw_1167, rfl⟩ | ⟨hw_1167, rfl⟩ | ⟨hw_1167, rfl⟩
                            · skip
                              refine lv_iadd hx hb dX7_take_108 ?_
                              refine lv_topi (fun x_1169 ex_1169 => ?_)
                              have tx_1169 : x_1169.toInt = (x_1164.toInt + 12) := by rw [ex_1169]; exact add_ti (a := x_1164.toInt) (b := 12) rfl (by decide) (by omega) (by omega)
                              refine va_iast hx hb hK hP hD hS 1 1 rfl rfl (vin (a := 0) (by decide) (by decide) (by decide)) dX7_take_109 (fun H locs hP hD hS => ?_)
                              obtain ⟨f_1170, ef_1170, hP, hD⟩ : ∃ f_1170 : Nat → Int32, f_1170 = upd f_1157 (0 : Int32).toNatClampNeg x_1169 ∧ va_P D vwCl [(A_self, .inr (7, o7 q v w)), (q 55, .inl (c 1, 6, .inl f_1170))] H ∧ va_D A [(A_self, .inr (7, o7 q v w)), (q 55, .inl (c 1, 6, .inl f_1170))] := ⟨_, rfl, hP, hD⟩
                              have cl_1171 : (f_1170 0).toInt = x_1169.toInt := by rw [ef_1170]; rfl
                              have cl_1172 : (f_1170 1).toInt = (f_1157 1).toInt := by rw [ef_1170]; rfl
                              have cl_1173 : (f_1170 2).toInt = (f_1157 2).toInt := by rw [ef_1170]; rfl
                              have cl_1174 : (f_1170 3).toInt = (f_1157 3).toInt := by rw [ef_1170]; rfl
                              have cl_1175 : (f_1170 4).toInt = (f_1157 4).toInt := by rw [ef_1170]; rfl
                              have cl_1176 : (f_1170 5).toInt = (f_1157 5).toInt := by rw [ef_1170]; rfl
                              obtain ⟨x_1177, ex_1177⟩ : ∃ y : Int32, y = x_1153 + 1 := ⟨_, rfl⟩
                              have tx_1177 : x_1177.toInt = x_1153.toInt + 1 := by rw [ex_1177]; exact add_ti (a := x_1153.toInt) (b := 1) rfl (by decide) (by omega) (by omega)
                              refine lv_iinc (v := x_1177) (lv' := [(2, .int x_1177), (5, .int 0), (4, .int r_736), (3, .int 0), (0, .ref A_self), (1, .int a1)]) hx hb dX7_take_110 hl (k := 1) rfl (by rw [ex_1177]; rfl) (by decide) rfl (fun ls hl => ?_)
                              refine lv_goto (tgt := 75) hx hb dX7_take_113 (by decide) ?_
                              refine lv_iload hx hb dX7_take_75 (lv_at hl 1 rfl) ?_
                              refine lv_iload_n hx hb dX7_take_77 rfl (lv_at hl 3 rfl) ?_
                              refine iicmp_leT (a := 0) (b := 0) (tgt := 116) hx hb (by decide) (by decide) dX7_take_78 (by decide) (by decide) ?_
                              refine lv_goto (tgt := 43) hx hb dX7_take_116 (by decide) ?_
                              refine lv_aload_n hx hb dX7_take_43 rfl (lv_at hl 4 rfl) ?_
                              refine va_get (D := D) (ci := 7) (v := .ref (q 55)) (C := RX7) (T := TX7) (N := 56) hx hb hts (fun _ h => List.mem_cons_of_mem _ (List.mem_append_right _ h)) hown hK hP 0 rfl rfl 55 (by decide) (hts (.fieldLink RX7 118 "CrownTableModel" "cloth" "[I") (mem_i 2 rfl)) (fun _ h9 => h9) rfl dX7_take_44 ?_
                              refine lv_iload_n hx hb dX7_take_47 rfl (lv_at hl 3 rfl) ?_
                              refine va_iald hx hb hK hP 1 1 rfl rfl (vin (a := 0) (by decide) (by decide) (by decide)) dX7_take_48 ?_
                              refine lv_topi (fun x_1178 ex_1178 => ?_)
                              have lf_1179 : (f_1170 0).toInt = x_1178.toInt := by rw [ex_1178]; rfl
                              refine lv_iload hx hb dX7_take_49 (lv_at hl 2 rfl) ?_
                              refine iicmp_ge (a := x_1178.toInt) (b := r_736.toInt) (tgt := 119) hx hb rfl rfl dX7_take_51 (by decide) (fun k_1180 => ?_) (fun k_1180 => ?_)
                              · skip
                                refine lv_aload_n hx hb dX7_take_119 rfl (lv_at hl 4 rfl) ?_
                                refine va_get (D := D) (ci := 7) (v := .ref (q 55)) (C := RX7) (T := TX7) (N := 56) hx hb hts (fun _ h => List.mem_cons_of_mem _ (List.mem_append_right _ h)) hown hK hP 0 rfl rfl 55 (by decide) (hts (.fieldLink RX7 118 "CrownTableModel" "cloth" "[I") (mem_i 2 rfl)) (fun _ h9 => h9) rfl dX7_take_120 ?_
                                refine lv_iload_n hx hb dX7_take_123 rfl (lv_at hl 3 rfl) ?_
                                refine lv_dup2_11 hx hb dX7_take_124 rfl rfl ?_
                                refine va_iald hx hb hK hP 1 1 rfl rfl (vin (a := 0) (by decide) (by decide) (by decide)) dX7_take_125 ?_
                                refine lv_topi (fun x_1181 ex_1181 => ?_)
                                have lf_1182 : (f_1170 0).toInt = x_1181.toInt := by rw [ex_1181]; rfl
                                refine lv_iload hx hb dX7_take_126 (lv_at hl 2 rfl) ?_
                                refine lv_isub hx hb dX7_take_128 ?_
                                refine lv_topi (fun x_1183 ex_1183 => ?_)
                                have tx_1183 : x_1183.toInt = (x_1181.toInt - r_736.toInt) := by rw [ex_1183]; exact sub_ti (a := x_1181.toInt) (b := r_736.toInt) rfl rfl (by omega) (by omega)
                                refine va_iast hx hb hK hP hD hS 1 1 rfl rfl (vin (a := 0) (by decide) (by decide) (by decide)) dX7_take_129 (fun H locs hP hD hS => ?_)
                                obtain ⟨f_1184, ef_1184, hP, hD⟩ : ∃ f_1184 : Nat → Int32, f_1184 = upd f_1170 (0 : Int32).toNatClampNeg x_1183 ∧ va_P D vwCl [(A_self, .inr (7, o7 q v w)), (q 55, .inl (c 1, 6, .inl f_1184))] H ∧ va_D A [(A_self, .inr (7, o7 q v w)), (q 55, .inl (c 1, 6, .inl f_1184))] := ⟨_, rfl, hP, hD⟩
                                have cl_1185 : (f_1184 0).toInt = x_1183.toInt := by rw [ef_1184]; rfl
                                have cl_1186 : (f_1184 1).toInt = (f_1170 1).toInt := by rw [ef_1184]; rfl
                                have cl_1187 : (f_1184 2).toInt = (f_1170 2).toInt := by rw [ef_1184]; rfl
                                have cl_1188 : (f_1184 3).toInt = (f_1170 3).toInt := by rw [ef_1184]; rfl
                                have cl_1189 : (f_1184 4).toInt = (f_1170 4).toInt := by rw [ef_1184]; rfl
                                have cl_1190 : (f_1184 5).toInt = (f_1170 5).toInt := by rw [ef_1184]; rfl
                                refine lv_iinc (v := 1) (lv' := [(3, .int 1), (2, .int x_1177), (5, .int 0), (4, .int r_736), (0, .ref A_self), (1, .int a1)]) hx hb dX7_take_130 hl (k := 3) rfl (by decide) (by decide) rfl (fun ls hl => ?_)
                                refine lv_goto (tgt := 30) hx hb dX7_take_133 (by decide) ?_
                                obtain ⟨ts, td0, td1, td2, td3, td4, td5, tl⟩ := TkS.b0_5 (d0 := (f_1184 0).toInt) (d1 := (f_1184 1).toInt) (d2 := (f_1184 2).toInt) (d3 := (f_1184 3).toInt) (d4 := (f_1184 4).toInt) (d5 := (f_1184 5).toInt) (L1 := x_1177.toInt) hf30_0_2 (by omega) (by omega) (by omega) (by omega) (by omega) (by omega) (by omega) (by omega) (by omega) (by omega) (by omega) (by omega) (by omega)
                                have hl := lv_sub hl [0, 4, 5, 1] rfl
                                exact lp_30_1 x_1177 f_1184 (by omega) (by omega) ts td0 td1 td2 td3 td4 td5 _ _ _ hP hD hS hl
                              · skip
                                exfalso; omega
                            · exfalso; omega
                            · exfalso; omega
                            · exfalso; omega
                          · exfalso; omega
                          · exfalso; omega
                        · exfalso; omega
                        · exfalso; omega
                      · exfalso; omega
                  · skip
                    exact (TkS.n0 hf30_0_2 (by omega) (by omega) (by omega) (by omega) (by omega) (by omega)).elim
      have kzz_1191 : (0 : Int32).toInt = 0 := by decide
      have ts := TkS.ini (L := (0 : Int32).toInt) (by decide) (c0 := (f_cloth 0).toInt) (c1 := (f_cloth 1).toInt) (c2 := (f_cloth 2).toInt) (c3 := (f_cloth 3).toInt) (c4 := (f_cloth 4).toInt) (c5 := (f_cloth 5).toInt) (by omega) (by omega) (by omega) (by omega) (by omega) (by omega) nb0 nb1 nb2 nb3 nb4 nb5 tv
      have hl := lv_sub hl [0, 2, 3, 1] rfl
      exact lp_30_0 0 f_cloth (by omega) (by omega) ts (by omega) (by omega) (by omega) (by omega) (by omega) (by omega) _ _ _ hP hD hS hl
    · skip
      refine lv_bipush (v := (-2)) hx hb dX7_take_23 (by decide) ?_
      have kzz_1192 : ((-2) : Int32).toInt = (-2) := by decide
      have hP9 := hP.sub (ws' := [(A_self, .inr (7, o7 q v w)), (q 55, .inl (c 1, 6, .inl f_cloth))]) [0, 1] rfl
      have hD9 := hD.sub (ws' := [(A_self, .inr (7, o7 q v w)), (q 55, .inl (c 1, 6, .inl f_cloth))]) [0, 1] (by decide) rfl
      refine W.widen (k := 0) (n := 0) (by omega) (by omega) ?_
      exact W.iret (v := (-2)) hx hb hr (fun t ht hW => ⟨⟨_, (f_cloth, ()), rfl, ⟨(show 0 ≤ (f_cloth 0).toInt ∧ (f_cloth 0).toInt ≤ 11 by omega), (show 0 ≤ (f_cloth 1).toInt ∧ (f_cloth 1).toInt ≤ 19 by omega), (show 0 ≤ (f_cloth 2).toInt ∧ (f_cloth 2).toInt ≤ 19 by omega), (show 0 ≤ (f_cloth 3).toInt ∧ (f_cloth 3).toInt ≤ 4 by omega), (show 0 ≤ (f_cloth 4).toInt ∧ (f_cloth 4).toInt ≤ 9 by omega), (show 0 ≤ (f_cloth 5).toInt ∧ (f_cloth 5).toInt ≤ cb by omega), (show (((-2) : Int32).toInt = -1 ∧ ¬ (1 ≤ i_a1 ∧ i_a1 ≤ 1000000) ∧ (f_cloth 0).toInt = (f_cloth 0).toInt ∧ (f_cloth 1).toInt = (f_cloth 1).toInt ∧ (f_cloth 2).toInt = (f_cloth 2).toInt ∧ (f_cloth 3).toInt = (f_cloth 3).toInt ∧ (f_cloth 4).toInt = (f_cloth 4).toInt ∧ (f_cloth 5).toInt = (f_cloth 5).toInt) ∨ ((1 ≤ i_a1 ∧ i_a1 ≤ 1000000) ∧ ((-2) : Int32).toInt = -2 ∧ (f_cloth 0).toInt + 12 * (f_cloth 1).toInt + 240 * (f_cloth 2).toInt + 4800 * (f_cloth 3).toInt + 24000 * (f_cloth 4).toInt + 240000 * (f_cloth 5).toInt < i_a1 ∧ (f_cloth 0).toInt = (f_cloth 0).toInt ∧ (f_cloth 1).toInt = (f_cloth 1).toInt ∧ (f_cloth 2).toInt = (f_cloth 2).toInt ∧ (f_cloth 3).toInt = (f_cloth 3).toInt ∧ (f_cloth 4).toInt = (f_cloth 4).toInt ∧ (f_cloth 5).toInt = (f_cloth 5).toInt) ∨ ((1 ≤ i_a1 ∧ i_a1 ≤ 1000000) ∧ i_a1 ≤ (f_cloth 0).toInt + 12 * (f_cloth 1).toInt + 240 * (f_cloth 2).toInt + 4800 * (f_cloth 3).toInt + 24000 * (f_cloth 4).toInt + 240000 * (f_cloth 5).toInt ∧ TakI (f_cloth 0).toInt (f_cloth 1).toInt (f_cloth 2).toInt (f_cloth 3).toInt (f_cloth 4).toInt (f_cloth 5).toInt (f_cloth 0).toInt (f_cloth 1).toInt (f_cloth 2).toInt (f_cloth 3).toInt (f_cloth 4).toInt (f_cloth 5).toInt i_a1 ((-2) : Int32).toInt ∧ (0 ≤ (f_cloth 0).toInt ∧ (f_cloth 0).toInt ≤ 11) ∧ (0 ≤ (f_cloth 1).toInt ∧ (f_cloth 1).toInt ≤ 19) ∧ (0 ≤ (f_cloth 2).toInt ∧ (f_cloth 2).toInt ≤ 19) ∧ (0 ≤ (f_cloth 3).toInt ∧ (f_cloth 3).toInt ≤ 4) ∧ (0 ≤ (f_cloth 4).toInt ∧ (f_cloth 4).toInt ≤ 9)) from Or.inr (Or.inl ⟨by omega, by omega, by omega, by omega, by omega, by omega, by omega, by omega, by omega⟩))⟩, ⟨by rw [ht]; exact hP9, hD9⟩⟩, hS.F ht⟩) hS.2.2 dX7_take_25
  · skip
    refine iif_neF (a := 0) (tgt := 13) hx hb (by decide) dX7_take_8 (by decide) (by decide) ?_
    refine lv_iconst (v := (-1)) hx hb dX7_take_11 (by decide) ?_
    have kzz_1193 : ((-1) : Int32).toInt = (-1) := by decide
    have hP9 := hP.sub (ws' := [(A_self, .inr (7, o7 q v w)), (q 55, .inl (c 1, 6, .inl f_cloth))]) [0, 1] rfl
    have hD9 := hD.sub (ws' := [(A_self, .inr (7, o7 q v w)), (q 55, .inl (c 1, 6, .inl f_cloth))]) [0, 1] (by decide) rfl
    refine W.widen (k := 0) (n := 0) (by omega) (by omega) ?_
    exact W.iret (v := (-1)) hx hb hr (fun t ht hW => ⟨⟨_, (f_cloth, ()), rfl, ⟨(show 0 ≤ (f_cloth 0).toInt ∧ (f_cloth 0).toInt ≤ 11 by omega), (show 0 ≤ (f_cloth 1).toInt ∧ (f_cloth 1).toInt ≤ 19 by omega), (show 0 ≤ (f_cloth 2).toInt ∧ (f_cloth 2).toInt ≤ 19 by omega), (show 0 ≤ (f_cloth 3).toInt ∧ (f_cloth 3).toInt ≤ 4 by omega), (show 0 ≤ (f_cloth 4).toInt ∧ (f_cloth 4).toInt ≤ 9 by omega), (show 0 ≤ (f_cloth 5).toInt ∧ (f_cloth 5).toInt ≤ cb by omega), (show (((-1) : Int32).toInt = -1 ∧ ¬ (1 ≤ i_a1 ∧ i_a1 ≤ 1000000) ∧ (f_cloth 0).toInt = (f_cloth 0).toInt ∧ (f_cloth 1).toInt = (f_cloth 1).toInt ∧ (f_cloth 2).toInt = (f_cloth 2).toInt ∧ (f_cloth 3).toInt = (f_cloth 3).toInt ∧ (f_cloth 4).toInt = (f_cloth 4).toInt ∧ (f_cloth 5).toInt = (f_cloth 5).toInt) ∨ ((1 ≤ i_a1 ∧ i_a1 ≤ 1000000) ∧ ((-1) : Int32).toInt = -2 ∧ (f_cloth 0).toInt + 12 * (f_cloth 1).toInt + 240 * (f_cloth 2).toInt + 4800 * (f_cloth 3).toInt + 24000 * (f_cloth 4).toInt + 240000 * (f_cloth 5).toInt < i_a1 ∧ (f_cloth 0).toInt = (f_cloth 0).toInt ∧ (f_cloth 1).toInt = (f_cloth 1).toInt ∧ (f_cloth 2).toInt = (f_cloth 2).toInt ∧ (f_cloth 3).toInt = (f_cloth 3).toInt ∧ (f_cloth 4).toInt = (f_cloth 4).toInt ∧ (f_cloth 5).toInt = (f_cloth 5).toInt) ∨ ((1 ≤ i_a1 ∧ i_a1 ≤ 1000000) ∧ i_a1 ≤ (f_cloth 0).toInt + 12 * (f_cloth 1).toInt + 240 * (f_cloth 2).toInt + 4800 * (f_cloth 3).toInt + 24000 * (f_cloth 4).toInt + 240000 * (f_cloth 5).toInt ∧ TakI (f_cloth 0).toInt (f_cloth 1).toInt (f_cloth 2).toInt (f_cloth 3).toInt (f_cloth 4).toInt (f_cloth 5).toInt (f_cloth 0).toInt (f_cloth 1).toInt (f_cloth 2).toInt (f_cloth 3).toInt (f_cloth 4).toInt (f_cloth 5).toInt i_a1 ((-1) : Int32).toInt ∧ (0 ≤ (f_cloth 0).toInt ∧ (f_cloth 0).toInt ≤ 11) ∧ (0 ≤ (f_cloth 1).toInt ∧ (f_cloth 1).toInt ≤ 19) ∧ (0 ≤ (f_cloth 2).toInt ∧ (f_cloth 2).toInt ≤ 19) ∧ (0 ≤ (f_cloth 3).toInt ∧ (f_cloth 3).toInt ≤ 4) ∧ (0 ≤ (f_cloth 4).toInt ∧ (f_cloth 4).toInt ≤ 9)) from Or.inl ⟨by omega, by omega, by omega, by omega, by omega, by omega, by omega, by omega⟩)⟩, ⟨by rw [ht]; exact hP9, hD9⟩⟩, hS.F ht⟩) hS.2.2 dX7_take_12
