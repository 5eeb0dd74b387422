set_option maxHeartbeats 4000000 in
set_option maxRecDepth 100000 in
theorem law_case_20 {p : Program} {l : Launch} {e : Env} {s : State} {m : MethodId} {below : List Frame} {meth : Method} {cd : Code} {D : va_G} {c : Nat → ClassId} {ts : Nat × Nat} {b : Nat} {xs : Nat → Int32} {A : Nat → Prop} (C0 : lw_At p s m meth cd b 6 xs) (hA : ∀ q : Nat, s.heap.size ≤ q → A q) (hA2 : ∀ q : Nat, A q → s.heap.size ≤ q) (hAm : Amb D c s) (hSt : Stt ts A s s.heap) {x0 m0 : Nat} {q6 q7 : Nat → Nat} {H : Heap} {locs : List Loc} (hP : va_P D vwCl (wL c x0 m0 q6 q7) H) (hD : va_D A (wL c x0 m0 q6 q7)) (hS : va_S A s.heap H locs) {ls : Array Slot} (hl : lv_has ls 4 [(3, .int 0), (2, .ref m0), (1, .ref x0), (0, .ref b)]) : W p l e room_1 s m #[Value.ref b] below meth cd H locs 65 64699 (lw_Z below #[Value.ref b] s) (F0 m 785 ls []) := by
  obtain ⟨hx, hb, hr, hml, hown0, hts0, hX, hbl, hlocks, hgv⟩ := id C0
  have hown : s.vm.findClass RL = some m.cls := hown0
  have hts : ∀ w ∈ wsL_law, w.before #[Value.ref b] s = true := fun w h => hts0 w (wsL_law_in w h)
  have hK := hAm.1
  have hbA : ¬ A b := fun h => absurd (hA2 _ h) (Nat.not_le.mpr hbl)
  refine lv_aload_n hx hb dL_law_785 rfl (lv_at hl 2 rfl) ?_
  refine lv_aload_n hx hb dL_law_786 rfl (lv_at hl 3 rfl) ?_
  refine lv_iload_n hx hb dL_law_787 rfl (lv_at hl 0 rfl) ?_
  refine lv_iconst (v := 1) hx hb dL_law_788 (by decide) ?_
  refine lv_iadd hx hb dL_law_789 ?_
  refine lk_i (y := 1) (by decide) ?_
  refine va_sld hx hb hX hbl hbA hS (vin (a := 1) (by decide) (by decide) (by decide)) dL_law_790 ?_
  refine lk_i (y := xs 1) rfl ?_
  have hPc := hP.sub (ws' := [(x0, .inr (6, o6 q6 0 0 0 0)), (q6 25, .inr (0, [.ref (q6 26)])), (q6 26, .inl (c 1, 6, .inl (fun _ => 0)))]) [0, 26, 27] rfl
  have hDc := hD.sub (ws' := [(x0, .inr (6, o6 q6 0 0 0 0)), (q6 25, .inr (0, [.ref (q6 26)])), (q6 26, .inl (c 1, 6, .inl (fun _ => 0)))]) [0, 26, 27] (by decide) rfl
  have hFc := va_free (wc := [(x0, .inr (6, o6 q6 0 0 0 0)), (q6 25, .inr (0, [.ref (q6 26)])), (q6 26, .inl (c 1, 6, .inl (fun _ => 0)))]) hD hS hA [0, 26, 27] rfl
  refine va_csi (va_runV (As := [.int (xs 1)]) (rest := []) ⟨hx, hb, hml, hown, hts⟩ (c_X6_take l D c ts H.size q6 x0 (xs 1) ((xs 1).toInt) rfl) (cwV 1 hts gL_law_X6_take rfl rfl rfl ⟨rfl, hdX6_take⟩ ⟨(show 1 + 1 ≤ 12 by decide), (show 8 + (2 + 11) + 23 ≤ 436 by decide)⟩) ⟨Pre0.blind, va_recv hK hPc (ci := 6) (q0 := 0) rfl rfl, Pre0.at hPc hDc hAm hSt hS hFc⟩ rfl rfl hl.1 rfl (lv_room (Nat.le_of_ble_eq_true rfl)) dL_law_791 ⟨(show 65 + 0 ≤ 600000 by decide), (show 64699 + 0 ≤ 7302249 by decide)⟩) (fun r_2 hw_1 => ?_)
  rcases hw_1 with ⟨hw_1, rfl⟩ | ⟨hw_1, rfl⟩
  · skip
    refine lv_aload_n hx hb dL_law_794 rfl (lv_at hl 1 rfl) ?_
    refine lv_aload_n hx hb dL_law_795 rfl (lv_at hl 3 rfl) ?_
    refine lv_iload_n hx hb dL_law_796 rfl (lv_at hl 0 rfl) ?_
    refine lv_iconst (v := 1) hx hb dL_law_797 (by decide) ?_
    refine lv_iadd hx hb dL_law_798 ?_
    refine lk_i (y := 1) (by decide) ?_
    refine va_sld hx hb hX hbl hbA hS (vin (a := 1) (by decide) (by decide) (by decide)) dL_law_799 ?_
    refine lk_i (y := xs 1) rfl ?_
    have hPc := hP.sub (ws' := [(m0, .inr (7, o7 q7 v0 w0)), (q7 55, .inl (c 1, 6, .inl (fun _ => 0)))]) [28, 64] rfl
    have hDc := hD.sub (ws' := [(m0, .inr (7, o7 q7 v0 w0)), (q7 55, .inl (c 1, 6, .inl (fun _ => 0)))]) [28, 64] (by decide) rfl
    have hFc := va_free (wc := [(m0, .inr (7, o7 q7 v0 w0)), (q7 55, .inl (c 1, 6, .inl (fun _ => 0)))]) hD hS hA [28, 64] rfl
    refine va_csi (va_runV (As := [.int (xs 1)]) (rest := [.int (-2)]) ⟨hx, hb, hml, hown, hts⟩ (c_X7_take l D c ts H.size q7 m0 (xs 1) ((xs 1).toInt) rfl) (cwV 1 hts gL_law_X7_take rfl rfl rfl ⟨rfl, hdX7_take⟩ ⟨(show 2 + 1 ≤ 12 by decide), (show 8 + (6 + 11) + 43 ≤ 436 by decide)⟩) ⟨Pre0.blind, va_recv hK hPc (ci := 7) (q0 := 0) rfl rfl, Pre0.at hPc hDc hAm hSt hS hFc⟩ rfl rfl hl.1 rfl (lv_room (Nat.le_of_ble_eq_true rfl)) dL_law_800 ⟨(show 65 + 0 ≤ 600000 by decide), (show 64699 + 0 ≤ 7302249 by decide)⟩) (fun r_4 hw_3 => ?_)
    rcases hw_3 with ⟨hw_3, rfl⟩ | ⟨hw_3, rfl⟩
    · skip
      refine iicmp_eqT (a := (-2)) (b := (-2)) (tgt := 878) hx hb (by decide) (by decide) dL_law_803 (by decide) (by decide) ?_
      refine lv_iinc (v := 6) (lv' := [(3, .int 6), (2, .ref m0), (1, .ref x0), (0, .ref b)]) hx hb dL_law_878 hl (k := 0) rfl (by decide) (by decide) rfl (fun ls hl => ?_)
      refine lv_goto (tgt := 18) hx hb dL_law_881 (by decide) ?_
      refine lv_iload_n hx hb dL_law_18 rfl (lv_at hl 0 rfl) ?_
      refine lv_aload_n hx hb dL_law_19 rfl (lv_at hl 3 rfl) ?_
      refine va_slen hx hb hX hbl hbA hS dL_law_20 ?_
      refine lk_i (y := 6) rfl ?_
      refine lv_bipush (v := 6) hx hb dL_law_21 (by decide) ?_
      refine lv_isub hx hb dL_law_23 ?_
      refine lk_i (y := 0) (by decide) ?_
      refine iicmp_gtT (a := 6) (b := 0) (tgt := 884) hx hb (by decide) (by decide) dL_law_24 (by decide) (by decide) ?_
      refine lv_iconst (v := 1) hx hb dL_law_884 (by decide) ?_
      refine va_forget (fun q hq => hA2 _ (hS.2.2 q hq)) ?_
      refine W.widen (k := 600000) (n := 7302249) (by omega) (by omega) ?_
      exact lw_ret hx hb hr hlocks dL_law_885
    · skip
      exfalso; omega
  · skip
    refine lv_aload_n hx hb dL_law_794 rfl (lv_at hl 1 rfl) ?_
    refine lv_aload_n hx hb dL_law_795 rfl (lv_at hl 3 rfl) ?_
    refine lv_iload_n hx hb dL_law_796 rfl (lv_at hl 0 rfl) ?_
    refine lv_iconst (v := 1) hx hb dL_law_797 (by decide) ?_
    refine lv_iadd hx hb dL_law_798 ?_
    refine lk_i (y := 1) (by decide) ?_
    refine va_sld hx hb hX hbl hbA hS (vin (a := 1) (by decide) (by decide) (by decide)) dL_law_799 ?_
    refine lk_i (y := xs 1) rfl ?_
    have hPc := hP.sub (ws' := [(m0, .inr (7, o7 q7 v0 w0)), (q7 55, .inl (c 1, 6, .inl (fun _ => 0)))]) [28, 64] rfl
    have hDc := hD.sub (ws' := [(m0, .inr (7, o7 q7 v0 w0)), (q7 55, .inl (c 1, 6, .inl (fun _ => 0)))]) [28, 64] (by decide) rfl
    have hFc := va_free (wc := [(m0, .inr (7, o7 q7 v0 w0)), (q7 55, .inl (c 1, 6, .inl (fun _ => 0)))]) hD hS hA [28, 64] rfl
    refine va_csi (va_runV (As := [.int (xs 1)]) (rest := [.int (-1)]) ⟨hx, hb, hml, hown, hts⟩ (c_X7_take l D c ts H.size q7 m0 (xs 1) ((xs 1).toInt) rfl) (cwV 1 hts gL_law_X7_take rfl rfl rfl ⟨rfl, hdX7_take⟩ ⟨(show 2 + 1 ≤ 12 by decide), (show 8 + (6 + 11) + 43 ≤ 436 by decide)⟩) ⟨Pre0.blind, va_recv hK hPc (ci := 7) (q0 := 0) rfl rfl, Pre0.at hPc hDc hAm hSt hS hFc⟩ rfl rfl hl.1 rfl (lv_room (Nat.le_of_ble_eq_true rfl)) dL_law_800 ⟨(show 65 + 0 ≤ 600000 by decide), (show 64699 + 0 ≤ 7302249 by decide)⟩) (fun r_6 hw_5 => ?_)
    rcases hw_5 with ⟨hw_5, rfl⟩ | ⟨hw_5, rfl⟩
    · skip
      exfalso; omega
    · skip
      refine iicmp_eqT (a := (-1)) (b := (-1)) (tgt := 878) hx hb (by decide) (by decide) dL_law_803 (by decide) (by decide) ?_
      refine lv_iinc (v := 6) (lv' := [(3, .int 6), (2, .ref m0), (1, .ref x0), (0, .ref b)]) hx hb dL_law_878 hl (k := 0) rfl (by decide) (by decide) rfl (fun ls hl => ?_)
      refine lv_goto (tgt := 18) hx hb dL_law_881 (by decide) ?_
      refine lv_iload_n hx hb dL_law_18 rfl (lv_at hl 0 rfl) ?_
      refine lv_aload_n hx hb dL_law_19 rfl (lv_at hl 3 rfl) ?_
      refine va_slen hx hb hX hbl hbA hS dL_law_20 ?_
      refine lk_i (y := 6) rfl ?_
      refine lv_bipush (v := 6) hx hb dL_law_21 (by decide) ?_
      refine lv_isub hx hb dL_law_23 ?_
      refine lk_i (y := 0) (by decide) ?_
      refine iicmp_gtT (a := 6) (b := 0) (tgt := 884) hx hb (by decide) (by decide) dL_law_24 (by decide) (by decide) ?_
      refine lv_iconst (v := 1) hx hb dL_law_884 (by decide) ?_
      refine va_forget (fun q hq => hA2 _ (hS.2.2 q hq)) ?_
      refine W.widen (k := 600000) (n := 7302249) (by omega) (by omega) ?_
      exact lw_ret hx hb hr hlocks dL_law_885

set_option maxHeartbeats 4000000 in
set_option maxRecDepth 100000 in
theorem law_case_21 {p : Program} {l : Launch} {e : Env} {s : State} {m : MethodId} {below : List Frame} {meth : Method} {cd : Code} {D : va_G} {c : Nat → ClassId} {ts : Nat × Nat} {b : Nat} {xs : Nat → Int32} {A : Nat → Prop} (C0 : lw_At p s m meth cd b 6 xs) (hA : ∀ q : Nat, s.heap.size ≤ q → A q) (hA2 : ∀ q : Nat, A q → s.heap.size ≤ q) (hAm : Amb D c s) (hSt : Stt ts A s s.heap) {x0 m0 : Nat} {q6 q7 : Nat → Nat} {H : Heap} {locs : List Loc} (hP : va_P D vwCl (wL c x0 m0 q6 q7) H) (hD : va_D A (wL c x0 m0 q6 q7)) (hS : va_S A s.heap H locs) {ls : Array Slot} (hl : lv_has ls 4 [(3, .int 0), (2, .ref m0), (1, .ref x0), (0, .ref b)]) : W p l e room_1 s m #[Value.ref b] below meth cd H locs 65 64699 (lw_Z below #[Value.ref b] s) (F0 m 808 ls []) := by
  obtain ⟨hx, hb, hr, hml, hown0, hts0, hX, hbl, hlocks, hgv⟩ := id C0
  have hown : s.vm.findClass RL = some m.cls := hown0
  have hts : ∀ w ∈ wsL_law, w.before #[Value.ref b] s = true := fun w h => hts0 w (wsL_law_in w h)
  have hK := hAm.1
  have hbA : ¬ A b := fun h => absurd (hA2 _ h) (Nat.not_le.mpr hbl)
  refine lv_aload_n hx hb dL_law_808 rfl (lv_at hl 2 rfl) ?_
  refine lv_aload_n hx hb dL_law_809 rfl (lv_at hl 3 rfl) ?_
  refine lv_iload_n hx hb dL_law_810 rfl (lv_at hl 0 rfl) ?_
  refine lv_iconst (v := 1) hx hb dL_law_811 (by decide) ?_
  refine lv_iadd hx hb dL_law_812 ?_
  refine lk_i (y := 1) (by decide) ?_
  refine va_sld hx hb hX hbl hbA hS (vin (a := 1) (by decide) (by decide) (by decide)) dL_law_813 ?_
  refine lk_i (y := xs 1) rfl ?_
  have hPc := hP.sub (ws' := [(x0, .inr (6, o6 q6 0 0 0 0)), (q6 25, .inr (0, [.ref (q6 26)])), (q6 26, .inl (c 1, 6, .inl (fun _ => 0)))]) [0, 26, 27] rfl
  have hDc := hD.sub (ws' := [(x0, .inr (6, o6 q6 0 0 0 0)), (q6 25, .inr (0, [.ref (q6 26)])), (q6 26, .inl (c 1, 6, .inl (fun _ => 0)))]) [0, 26, 27] (by decide) rfl
  have hFc := va_free (wc := [(x0, .inr (6, o6 q6 0 0 0 0)), (q6 25, .inr (0, [.ref (q6 26)])), (q6 26, .inl (c 1, 6, .inl (fun _ => 0)))]) hD hS hA [0, 26, 27] rfl
  refine va_csi (va_runV (As := [.int (xs 1)]) (rest := []) ⟨hx, hb, hml, hown, hts⟩ (c_X6_cloth l D c ts H.size q6 x0 (xs 1) ((xs 1).toInt) rfl) (cwV 1 hts gL_law_X6_cloth rfl rfl rfl ⟨rfl, hdX6_cloth⟩ ⟨(show 0 + 1 ≤ 12 by decide), (show 8 + (2 + 11) + 0 ≤ 436 by decide)⟩) ⟨Pre0.blind, va_recv hK hPc (ci := 6) (q0 := 0) rfl rfl, Pre0.at hPc hDc hAm hSt hS hFc⟩ rfl rfl hl.1 rfl (lv_room (Nat.le_of_ble_eq_true rfl)) dL_law_814 ⟨(show 65 + 0 ≤ 600000 by decide), (show 64699 + 0 ≤ 7302249 by decide)⟩) (fun r_2 hw_1 => ?_)
  rcases hw_1 with ⟨hw_1, rfl⟩ | ⟨hw_1, rfl⟩
  · skip
    refine lv_aload_n hx hb dL_law_817 rfl (lv_at hl 1 rfl) ?_
    refine lv_aload_n hx hb dL_law_818 rfl (lv_at hl 3 rfl) ?_
    refine lv_iload_n hx hb dL_law_819 rfl (lv_at hl 0 rfl) ?_
    refine lv_iconst (v := 1) hx hb dL_law_820 (by decide) ?_
    refine lv_iadd hx hb dL_law_821 ?_
    refine lk_i (y := 1) (by decide) ?_
    refine va_sld hx hb hX hbl hbA hS (vin (a := 1) (by decide) (by decide) (by decide)) dL_law_822 ?_
    refine lk_i (y := xs 1) rfl ?_
    have hPc := hP.sub (ws' := [(m0, .inr (7, o7 q7 v0 w0)), (q7 55, .inl (c 1, 6, .inl (fun _ => 0)))]) [28, 64] rfl
    have hDc := hD.sub (ws' := [(m0, .inr (7, o7 q7 v0 w0)), (q7 55, .inl (c 1, 6, .inl (fun _ => 0)))]) [28, 64] (by decide) rfl
    have hFc := va_free (wc := [(m0, .inr (7, o7 q7 v0 w0)), (q7 55, .inl (c 1, 6, .inl (fun _ => 0)))]) hD hS hA [28, 64] rfl
    refine va_csi (va_runV (As := [.int (xs 1)]) (rest := [.int 0]) ⟨hx, hb, hml, hown, hts⟩ (c_X7_cloth l D c ts H.size q7 m0 (xs 1) ((xs 1).toInt) rfl) (cwV 1 hts gL_law_X7_cloth rfl rfl rfl ⟨rfl, hdX7_cloth⟩ ⟨(show 1 + 1 ≤ 12 by decide), (show 8 + (2 + 11) + 22 ≤ 436 by decide)⟩) ⟨Pre0.blind, va_recv hK hPc (ci := 7) (q0 := 0) rfl rfl, Pre0.at hPc hDc hAm hSt hS hFc⟩ rfl rfl hl.1 rfl (lv_room (Nat.le_of_ble_eq_true rfl)) dL_law_823 ⟨(show 65 + 0 ≤ 600000 by decide), (show 64699 + 0 ≤ 7302249 by decide)⟩) (fun r_4 hw_3 => ?_)
    rcases hw_3 with ⟨hw_3, rfl⟩ | ⟨hw_3, rfl⟩
    · skip
      refine iicmp_eqT (a := 0) (b := 0) (tgt := 878) hx hb (by decide) (by decide) dL_law_826 (by decide) (by decide) ?_
      refine lv_iinc (v := 6) (lv' := [(3, .int 6), (2, .ref m0), (1, .ref x0), (0, .ref b)]) hx hb dL_law_878 hl (k := 0) rfl (by decide) (by decide) rfl (fun ls hl => ?_)
      refine lv_goto (tgt := 18) hx hb dL_law_881 (by decide) ?_
      refine lv_iload_n hx hb dL_law_18 rfl (lv_at hl 0 rfl) ?_
      refine lv_aload_n hx hb dL_law_19 rfl (lv_at hl 3 rfl) ?_
      refine va_slen hx hb hX hbl hbA hS dL_law_20 ?_
      refine lk_i (y := 6) rfl ?_
      refine lv_bipush (v := 6) hx hb dL_law_21 (by decide) ?_
      refine lv_isub hx hb dL_law_23 ?_
      refine lk_i (y := 0) (by decide) ?_
      refine iicmp_gtT (a := 6) (b := 0) (tgt := 884) hx hb (by decide) (by decide) dL_law_24 (by decide) (by decide) ?_
      refine lv_iconst (v := 1) hx hb dL_law_884 (by decide) ?_
      refine va_forget (fun q hq => hA2 _ (hS.2.2 q hq)) ?_
      refine W.widen (k := 600000) (n := 7302249) (by omega) (by omega) ?_
      exact lw_ret hx hb hr hlocks dL_law_885
    · skip
      exfalso; omega
  · skip
    refine lv_aload_n hx hb dL_law_817 rfl (lv_at hl 1 rfl) ?_
    refine lv_aload_n hx hb dL_law_818 rfl (lv_at hl 3 rfl) ?_
    refine lv_iload_n hx hb dL_law_819 rfl (lv_at hl 0 rfl) ?_
    refine lv_iconst (v := 1) hx hb dL_law_820 (by decide) ?_
    refine lv_iadd hx hb dL_law_821 ?_
    refine lk_i (y := 1) (by decide) ?_
    refine va_sld hx hb hX hbl hbA hS (vin (a := 1) (by decide) (by decide) (by decide)) dL_law_822 ?_
    refine lk_i (y := xs 1) rfl ?_
    have hPc := hP.sub (ws' := [(m0, .inr (7, o7 q7 v0 w0)), (q7 55, .inl (c 1, 6, .inl (fun _ => 0)))]) [28, 64] rfl
    have hDc := hD.sub (ws' := [(m0, .inr (7, o7 q7 v0 w0)), (q7 55, .inl (c 1, 6, .inl (fun _ => 0)))]) [28, 64] (by decide) rfl
    have hFc := va_free (wc := [(m0, .inr (7, o7 q7 v0 w0)), (q7 55, .inl (c 1, 6, .inl (fun _ => 0)))]) hD hS hA [28, 64] rfl
    refine va_csi (va_runV (As := [.int (xs 1)]) (rest := [.int (-1)]) ⟨hx, hb, hml, hown, hts⟩ (c_X7_cloth l D c ts H.size q7 m0 (xs 1) ((xs 1).toInt) rfl) (cwV 1 hts gL_law_X7_cloth rfl rfl rfl ⟨rfl, hdX7_cloth⟩ ⟨(show 1 + 1 ≤ 12 by decide), (show 8 + (2 + 11) + 22 ≤ 436 by decide)⟩) ⟨Pre0.blind, va_recv hK hPc (ci := 7) (q0 := 0) rfl rfl, Pre0.at hPc hDc hAm hSt hS hFc⟩ rfl rfl hl.1 rfl (lv_room (Nat.le_of_ble_eq_true rfl)) dL_law_823 ⟨(show 65 + 0 ≤ 600000 by decide), (show 64699 + 0 ≤ 7302249 by decide)⟩) (fun r_6 hw_5 => ?_)
    rcases hw_5 with ⟨hw_5, rfl⟩ | ⟨hw_5, rfl⟩
    · skip
      exfalso; omega
    · skip
      refine iicmp_eqT (a := (-1)) (b := (-1)) (tgt := 878) hx hb (by decide) (by decide) dL_law_826 (by decide) (by decide) ?_
      refine lv_iinc (v := 6) (lv' := [(3, .int 6), (2, .ref m0), (1, .ref x0), (0, .ref b)]) hx hb dL_law_878 hl (k := 0) rfl (by decide) (by decide) rfl (fun ls hl => ?_)
      refine lv_goto (tgt := 18) hx hb dL_law_881 (by decide) ?_
      refine lv_iload_n hx hb dL_law_18 rfl (lv_at hl 0 rfl) ?_
      refine lv_aload_n hx hb dL_law_19 rfl (lv_at hl 3 rfl) ?_
      refine va_slen hx hb hX hbl hbA hS dL_law_20 ?_
      refine lk_i (y := 6) rfl ?_
      refine lv_bipush (v := 6) hx hb dL_law_21 (by decide) ?_
      refine lv_isub hx hb dL_law_23 ?_
      refine lk_i (y := 0) (by decide) ?_
      refine iicmp_gtT (a := 6) (b := 0) (tgt := 884) hx hb (by decide) (by decide) dL_law_24 (by decide) (by decide) ?_
      refine lv_iconst (v := 1) hx hb dL_law_884 (by decide) ?_
      refine va_forget (fun q hq => hA2 _ (hS.2.2 q hq)) ?_
      refine W.widen (k := 600000) (n := 7302249) (by omega) (by omega) ?_
      exact lw_ret hx hb hr hlocks dL_law_885

set_option maxHeartbeats 4000000 in
set_option maxRecDepth 100000 in
theorem law_case_22 {p : Program} {l : Launch} {e : Env} {s : State} {m : MethodId} {below : List Frame} {meth : Method} {cd : Code} {D : va_G} {c : Nat → ClassId} {ts : Nat × Nat} {b : Nat} {xs : Nat → Int32} {A : Nat → Prop} (C0 : lw_At p s m meth cd b 6 xs) (hA : ∀ q : Nat, s.heap.size ≤ q → A q) (hA2 : ∀ q : Nat, A q → s.heap.size ≤ q) (hAm : Amb D c s) (hSt : Stt ts A s s.heap) {x0 m0 : Nat} {q6 q7 : Nat → Nat} {H : Heap} {locs : List Loc} (hP : va_P D vwCl (wL c x0 m0 q6 q7) H) (hD : va_D A (wL c x0 m0 q6 q7)) (hS : va_S A s.heap H locs) {ls : Array Slot} (hl : lv_has ls 4 [(3, .int 0), (2, .ref m0), (1, .ref x0), (0, .ref b)]) : W p l e room_1 s m #[Value.ref b] below meth cd H locs 65 64699 (lw_Z below #[Value.ref b] s) (F0 m 831 ls []) := by
  obtain ⟨hx, hb, hr, hml, hown0, hts0, hX, hbl, hlocks, hgv⟩ := id C0
  have hown : s.vm.findClass RL = some m.cls := hown0
  have hts : ∀ w ∈ wsL_law, w.before #[Value.ref b] s = true := fun w h => hts0 w (wsL_law_in w h)
  have hK := hAm.1
  have hbA : ¬ A b := fun h => absurd (hA2 _ h) (Nat.not_le.mpr hbl)
  refine lv_aload_n hx hb dL_law_831 rfl (lv_at hl 2 rfl) ?_
  refine lv_aload_n hx hb dL_law_832 rfl (lv_at hl 3 rfl) ?_
  refine lv_iload_n hx hb dL_law_833 rfl (lv_at hl 0 rfl) ?_
  refine lv_iconst (v := 1) hx hb dL_law_834 (by decide) ?_
  refine lv_iadd hx hb dL_law_835 ?_
  refine lk_i (y := 1) (by decide) ?_
  refine va_sld hx hb hX hbl hbA hS (vin (a := 1) (by decide) (by decide) (by decide)) dL_law_836 ?_
  refine lk_i (y := xs 1) rfl ?_
  have hPc := hP.sub (ws' := [(x0, .inr (6, o6 q6 0 0 0 0)), (q6 14, .inl (c 2, 16, .inr (.inl (fun _ => 0)))), (q6 19, .inr (2, [.int 7, .int 400, .ref (q6 20), .int 0])), (q6 25, .inr (0, [.ref (q6 26)])), (q6 26, .inl (c 1, 6, .inl (fun _ => 0)))]) [0, 15, 20, 26, 27] rfl
  have hDc := hD.sub (ws' := [(x0, .inr (6, o6 q6 0 0 0 0)), (q6 14, .inl (c 2, 16, .inr (.inl (fun _ => 0)))), (q6 19, .inr (2, [.int 7, .int 400, .ref (q6 20), .int 0])), (q6 25, .inr (0, [.ref (q6 26)])), (q6 26, .inl (c 1, 6, .inl (fun _ => 0)))]) [0, 15, 20, 26, 27] (by decide) rfl
  have hFc := va_free (wc := [(x0, .inr (6, o6 q6 0 0 0 0)), (q6 14, .inl (c 2, 16, .inr (.inl (fun _ => 0)))), (q6 19, .inr (2, [.int 7, .int 400, .ref (q6 20), .int 0])), (q6 25, .inr (0, [.ref (q6 26)])), (q6 26, .inl (c 1, 6, .inl (fun _ => 0)))]) hD hS hA [0, 15, 20, 26, 27] rfl
  refine va_csl (va_runV (As := [.int (xs 1)]) (rest := []) ⟨hx, hb, hml, hown, hts⟩ (c_X6_sum l D c ts H.size q6 x0 (xs 1) ((xs 1).toInt) rfl) (cwV 1 hts gL_law_X6_sum rfl rfl rfl ⟨rfl, hdX6_sum⟩ ⟨(show 1 + 1 ≤ 12 by decide), (show 8 + (2 + 11) + 24 ≤ 436 by decide)⟩) ⟨Pre0.blind, va_recv hK hPc (ci := 6) (q0 := 0) rfl rfl, Pre0.at hPc hDc hAm hSt hS hFc⟩ rfl rfl hl.1 rfl (lv_room (Nat.le_of_ble_eq_true rfl)) dL_law_837 ⟨(show 65 + 0 ≤ 600000 by decide), (show 64699 + 0 ≤ 7302249 by decide)⟩) (fun r_2 hw_1 => ?_)
  rcases hw_1 with ⟨hw_1, rfl⟩ | ⟨hw_1, rfl⟩
  · skip
    refine lv_aload_n hx hb dL_law_840 rfl (lv_at hl 1 rfl) ?_
    refine lv_aload_n hx hb dL_law_841 rfl (lv_at hl 3 rfl) ?_
    refine lv_iload_n hx hb dL_law_842 rfl (lv_at hl 0 rfl) ?_
    refine lv_iconst (v := 1) hx hb dL_law_843 (by decide) ?_
    refine lv_iadd hx hb dL_law_844 ?_
    refine lk_i (y := 1) (by decide) ?_
    refine va_sld hx hb hX hbl hbA hS (vin (a := 1) (by decide) (by decide) (by decide)) dL_law_845 ?_
    refine lk_i (y := xs 1) rfl ?_
    have hPc := hP.sub (ws' := [(m0, .inr (7, o7 q7 v0 w0)), (q7 35, .inl (c 2, 16, .inr (.inl (fun _ => 0)))), (q7 55, .inl (c 1, 6, .inl (fun _ => 0)))]) [28, 49, 64] rfl
    have hDc := hD.sub (ws' := [(m0, .inr (7, o7 q7 v0 w0)), (q7 35, .inl (c 2, 16, .inr (.inl (fun _ => 0)))), (q7 55, .inl (c 1, 6, .inl (fun _ => 0)))]) [28, 49, 64] (by decide) rfl
    have hFc := va_free (wc := [(m0, .inr (7, o7 q7 v0 w0)), (q7 35, .inl (c 2, 16, .inr (.inl (fun _ => 0)))), (q7 55, .inl (c 1, 6, .inl (fun _ => 0)))]) hD hS hA [28, 49, 64] rfl
    refine va_csl (va_runV (As := [.int (xs 1)]) (rest := [.long 0]) ⟨hx, hb, hml, hown, hts⟩ (c_X7_sum l D c ts H.size q7 m0 (xs 1) ((xs 1).toInt) rfl) (cwV 1 hts gL_law_X7_sum rfl rfl rfl ⟨rfl, hdX7_sum⟩ ⟨(show 2 + 1 ≤ 12 by decide), (show 8 + (5 + 11) + 43 ≤ 436 by decide)⟩) ⟨Pre0.blind, va_recv hK hPc (ci := 7) (q0 := 0) rfl rfl, Pre0.at hPc hDc hAm hSt hS hFc⟩ rfl rfl hl.1 rfl (lv_room (Nat.le_of_ble_eq_true rfl)) dL_law_846 ⟨(show 65 + 0 ≤ 600000 by decide), (show 64699 + 0 ≤ 7302249 by decide)⟩) (fun r_4 hw_3 => ?_)
    rcases hw_3 with ⟨hw_3, rfl⟩ | ⟨hw_3, rfl⟩
    · skip
      refine W.lcmp hx hb dL_law_849 ?_
      refine lk_i (y := 0) (by decide) ?_
      refine iif_eqT (a := 0) (tgt := 878) hx hb (by decide) dL_law_850 (by decide) (by decide) ?_
      refine lv_iinc (v := 6) (lv' := [(3, .int 6), (2, .ref m0), (1, .ref x0), (0, .ref b)]) hx hb dL_law_878 hl (k := 0) rfl (by decide) (by decide) rfl (fun ls hl => ?_)
      refine lv_goto (tgt := 18) hx hb dL_law_881 (by decide) ?_
      refine lv_iload_n hx hb dL_law_18 rfl (lv_at hl 0 rfl) ?_
      refine lv_aload_n hx hb dL_law_19 rfl (lv_at hl 3 rfl) ?_
      refine va_slen hx hb hX hbl hbA hS dL_law_20 ?_
      refine lk_i (y := 6) rfl ?_
      refine lv_bipush (v := 6) hx hb dL_law_21 (by decide) ?_
      refine lv_isub hx hb dL_law_23 ?_
      refine lk_i (y := 0) (by decide) ?_
      refine iicmp_gtT (a := 6) (b := 0) (tgt := 884) hx hb (by decide) (by decide) dL_law_24 (by decide) (by decide) ?_
      refine lv_iconst (v := 1) hx hb dL_law_884 (by decide) ?_
      refine va_forget (fun q hq => hA2 _ (hS.2.2 q hq)) ?_
      refine W.widen (k := 600000) (n := 7302249) (by omega) (by omega) ?_
      exact lw_ret hx hb hr hlocks dL_law_885
    · skip
      exfalso; omega
  · skip
    refine lv_aload_n hx hb dL_law_840 rfl (lv_at hl 1 rfl) ?_
    refine lv_aload_n hx hb dL_law_841 rfl (lv_at hl 3 rfl) ?_
    refine lv_iload_n hx hb dL_law_842 rfl (lv_at hl 0 rfl) ?_
    refine lv_iconst (v := 1) hx hb dL_law_843 (by decide) ?_
    refine lv_iadd hx hb dL_law_844 ?_
    refine lk_i (y := 1) (by decide) ?_
    refine va_sld hx hb hX hbl hbA hS (vin (a := 1) (by decide) (by decide) (by decide)) dL_law_845 ?_
    refine lk_i (y := xs 1) rfl ?_
    have hPc := hP.sub (ws' := [(m0, .inr (7, o7 q7 v0 w0)), (q7 35, .inl (c 2, 16, .inr (.inl (fun _ => 0)))), (q7 55, .inl (c 1, 6, .inl (fun _ => 0)))]) [28, 49, 64] rfl
    have hDc := hD.sub (ws' := [(m0, .inr (7, o7 q7 v0 w0)), (q7 35, .inl (c 2, 16, .inr (.inl (fun _ => 0)))), (q7 55, .inl (c 1, 6, .inl (fun _ => 0)))]) [28, 49, 64] (by decide) rfl
    have hFc := va_free (wc := [(m0, .inr (7, o7 q7 v0 w0)), (q7 35, .inl (c 2, 16, .inr (.inl (fun _ => 0)))), (q7 55, .inl (c 1, 6, .inl (fun _ => 0)))]) hD hS hA [28, 49, 64] rfl
    refine va_csl (va_runV (As := [.int (xs 1)]) (rest := [.long (-1)]) ⟨hx, hb, hml, hown, hts⟩ (c_X7_sum l D c ts H.size q7 m0 (xs 1) ((xs 1).toInt) rfl) (cwV 1 hts gL_law_X7_sum rfl rfl rfl ⟨rfl, hdX7_sum⟩ ⟨(show 2 + 1 ≤ 12 by decide), (show 8 + (5 + 11) + 43 ≤ 436 by decide)⟩) ⟨Pre0.blind, va_recv hK hPc (ci := 7) (q0 := 0) rfl rfl, Pre0.at hPc hDc hAm hSt hS hFc⟩ rfl rfl hl.1 rfl (lv_room (Nat.le_of_ble_eq_true rfl)) dL_law_846 ⟨(show 65 + 0 ≤ 600000 by decide), (show 64699 + 0 ≤ 7302249 by decide)⟩) (fun r_6 hw_5 => ?_)
    rcases hw_5 with ⟨hw_5, rfl⟩ | ⟨hw_5, rfl⟩
    · skip
      exfalso; omega
    · skip
      refine W.lcmp hx hb dL_law_849 ?_
      refine lk_i (y := 0) (by decide) ?_
      refine iif_eqT (a := 0) (tgt := 878) hx hb (by decide) dL_law_850 (by decide) (by decide) ?_
      refine lv_iinc (v := 6) (lv' := [(3, .int 6), (2, .ref m0), (1, .ref x0), (0, .ref b)]) hx hb dL_law_878 hl (k := 0) rfl (by decide) (by decide) rfl (fun ls hl => ?_)
      refine lv_goto (tgt := 18) hx hb dL_law_881 (by decide) ?_
      refine lv_iload_n hx hb dL_law_18 rfl (lv_at hl 0 rfl) ?_
      refine lv_aload_n hx hb dL_law_19 rfl (lv_at hl 3 rfl) ?_
      refine va_slen hx hb hX hbl hbA hS dL_law_20 ?_
      refine lk_i (y := 6) rfl ?_
      refine lv_bipush (v := 6) hx hb dL_law_21 (by decide) ?_
      refine lv_isub hx hb dL_law_23 ?_
      refine lk_i (y := 0) (by decide) ?_
      refine iicmp_gtT (a := 6) (b := 0) (tgt := 884) hx hb (by decide) (by decide) dL_law_24 (by decide) (by decide) ?_
      refine lv_iconst (v := 1) hx hb dL_law_884 (by decide) ?_
      refine va_forget (fun q hq => hA2 _ (hS.2.2 q hq)) ?_
      refine W.widen (k := 600000) (n := 7302249) (by omega) (by omega) ?_
      exact lw_ret hx hb hr hlocks dL_law_885

set_option maxHeartbeats 4000000 in
set_option maxRecDepth 100000 in
theorem law_case_23 {p : Program} {l : Launch} {e : Env} {s : State} {m : MethodId} {below : List Frame} {meth : Method} {cd : Code} {D : va_G} {c : Nat → ClassId} {ts : Nat × Nat} {b : Nat} {xs : Nat → Int32} {A : Nat → Prop} (C0 : lw_At p s m meth cd b 6 xs) (hA : ∀ q : Nat, s.heap.size ≤ q → A q) (hA2 : ∀ q : Nat, A q → s.heap.size ≤ q) (hAm : Amb D c s) (hSt : Stt ts A s s.heap) {x0 m0 : Nat} {q6 q7 : Nat → Nat} {H : Heap} {locs : List Loc} (hP : va_P D vwCl (wL c x0 m0 q6 q7) H) (hD : va_D A (wL c x0 m0 q6 q7)) (hS : va_S A s.heap H locs) {ls : Array Slot} (hl : lv_has ls 4 [(3, .int 0), (2, .ref m0), (1, .ref x0), (0, .ref b)]) : W p l e room_1 s m #[Value.ref b] below meth cd H locs 65 64699 (lw_Z below #[Value.ref b] s) (F0 m 855 ls []) := by
  obtain ⟨hx, hb, hr, hml, hown0, hts0, hX, hbl, hlocks, hgv⟩ := id C0
  have hown : s.vm.findClass RL = some m.cls := hown0
  have hts : ∀ w ∈ wsL_law, w.before #[Value.ref b] s = true := fun w h => hts0 w (wsL_law_in w h)
  have hK := hAm.1
  have hbA : ¬ A b := fun h => absurd (hA2 _ h) (Nat.not_le.mpr hbl)
  refine lv_aload_n hx hb dL_law_855 rfl (lv_at hl 2 rfl) ?_
  refine lv_aload_n hx hb dL_law_856 rfl (lv_at hl 3 rfl) ?_
  refine lv_iload_n hx hb dL_law_857 rfl (lv_at hl 0 rfl) ?_
  refine lv_iconst (v := 1) hx hb dL_law_858 (by decide) ?_
  refine lv_iadd hx hb dL_law_859 ?_
  refine lk_i (y := 1) (by decide) ?_
  refine va_sld hx hb hX hbl hbA hS (vin (a := 1) (by decide) (by decide) (by decide)) dL_law_860 ?_
  refine lk_i (y := xs 1) rfl ?_
  have hPc := hP.sub (ws' := [(x0, .inr (6, o6 q6 0 0 0 0)), (q6 0, .inr (3, [.ref (q6 1), .int 0])), (q6 19, .inr (2, [.int 7, .int 400, .ref (q6 20), .int 0])), (q6 21, .inr (2, [.int 8, .int 4000, .ref (q6 22), .int 0])), (q6 23, .inr (2, [.int 1, .int 2000, .ref (q6 24), .int 0]))]) [0, 1, 20, 22, 24] rfl
  have hDc := hD.sub (ws' := [(x0, .inr (6, o6 q6 0 0 0 0)), (q6 0, .inr (3, [.ref (q6 1), .int 0])), (q6 19, .inr (2, [.int 7, .int 400, .ref (q6 20), .int 0])), (q6 21, .inr (2, [.int 8, .int 4000, .ref (q6 22), .int 0])), (q6 23, .inr (2, [.int 1, .int 2000, .ref (q6 24), .int 0]))]) [0, 1, 20, 22, 24] (by decide) rfl
  have hFc := va_free (wc := [(x0, .inr (6, o6 q6 0 0 0 0)), (q6 0, .inr (3, [.ref (q6 1), .int 0])), (q6 19, .inr (2, [.int 7, .int 400, .ref (q6 20), .int 0])), (q6 21, .inr (2, [.int 8, .int 4000, .ref (q6 22), .int 0])), (q6 23, .inr (2, [.int 1, .int 2000, .ref (q6 24), .int 0]))]) hD hS hA [0, 1, 20, 22, 24] rfl
  refine va_csi (va_runV (As := [.int (xs 1)]) (rest := []) ⟨hx, hb, hml, hown, hts⟩ (c_X6_count l D c ts H.size q6 x0 (xs 1) ((xs 1).toInt) rfl) (cwV 1 hts gL_law_X6_count rfl rfl rfl ⟨rfl, hdX6_count⟩ ⟨(show 0 + 1 ≤ 12 by decide), (show 8 + (2 + 11) + 0 ≤ 436 by decide)⟩) ⟨Pre0.blind, va_recv hK hPc (ci := 6) (q0 := 0) rfl rfl, Pre0.at hPc hDc hAm hSt hS hFc⟩ rfl rfl hl.1 rfl (lv_room (Nat.le_of_ble_eq_true rfl)) dL_law_861 ⟨(show 65 + 0 ≤ 600000 by decide), (show 64699 + 0 ≤ 7302249 by decide)⟩) (fun r_2 hw_1 => ?_)
  rcases hw_1 with ⟨hw_1, rfl⟩ | ⟨hw_1, rfl⟩
  · skip
    refine lv_aload_n hx hb dL_law_864 rfl (lv_at hl 1 rfl) ?_
    refine lv_aload_n hx hb dL_law_865 rfl (lv_at hl 3 rfl) ?_
    refine lv_iload_n hx hb dL_law_866 rfl (lv_at hl 0 rfl) ?_
    refine lv_iconst (v := 1) hx hb dL_law_867 (by decide) ?_
    refine lv_iadd hx hb dL_law_868 ?_
    refine lk_i (y := 1) (by decide) ?_
    refine va_sld hx hb hX hbl hbA hS (vin (a := 1) (by decide) (by decide) (by decide)) dL_law_869 ?_
    refine lk_i (y := xs 1) rfl ?_
    have hPc := hP.sub (ws' := [(m0, .inr (7, o7 q7 v0 w0))]) [28] rfl
    have hDc := hD.sub (ws' := [(m0, .inr (7, o7 q7 v0 w0))]) [28] (by decide) rfl
    have hFc := va_free (wc := [(m0, .inr (7, o7 q7 v0 w0))]) hD hS hA [28] rfl
    refine va_csi (va_runV (As := [.int (xs 1)]) (rest := [.int 0]) ⟨hx, hb, hml, hown, hts⟩ (c_X7_count l D c ts H.size q7 m0 (xs 1) ((xs 1).toInt) rfl) (cwV 1 hts gL_law_X7_count rfl rfl rfl ⟨rfl, hdX7_count⟩ ⟨(show 0 + 1 ≤ 12 by decide), (show 8 + (2 + 11) + 0 ≤ 436 by decide)⟩) ⟨Pre0.blind, va_recv hK hPc (ci := 7) (q0 := 0) rfl rfl, Pre0.at hPc hDc hAm hSt hS hFc⟩ rfl rfl hl.1 rfl (lv_room (Nat.le_of_ble_eq_true rfl)) dL_law_870 ⟨(show 65 + 0 ≤ 600000 by decide), (show 64699 + 0 ≤ 7302249 by decide)⟩) (fun r_4 hw_3 => ?_)
    rcases hw_3 with ⟨hw_3, rfl⟩ | ⟨hw_3, rfl⟩
    · skip
      refine iicmp_eqT (a := 0) (b := 0) (tgt := 878) hx hb (by decide) (by decide) dL_law_873 (by decide) (by decide) ?_
      refine lv_iinc (v := 6) (lv' := [(3, .int 6), (2, .ref m0), (1, .ref x0), (0, .ref b)]) hx hb dL_law_878 hl (k := 0) rfl (by decide) (by decide) rfl (fun ls hl => ?_)
      refine lv_goto (tgt := 18) hx hb dL_law_881 (by decide) ?_
      refine lv_iload_n hx hb dL_law_18 rfl (lv_at hl 0 rfl) ?_
      refine lv_aload_n hx hb dL_law_19 rfl (lv_at hl 3 rfl) ?_
      refine va_slen hx hb hX hbl hbA hS dL_law_20 ?_
      refine lk_i (y := 6) rfl ?_
      refine lv_bipush (v := 6) hx hb dL_law_21 (by decide) ?_
      refine lv_isub hx hb dL_law_23 ?_
      refine lk_i (y := 0) (by decide) ?_
      refine iicmp_gtT (a := 6) (b := 0) (tgt := 884) hx hb (by decide) (by decide) dL_law_24 (by decide) (by decide) ?_
      refine lv_iconst (v := 1) hx hb dL_law_884 (by decide) ?_
      refine va_forget (fun q hq => hA2 _ (hS.2.2 q hq)) ?_
      refine W.widen (k := 600000) (n := 7302249) (by omega) (by omega) ?_
      exact lw_ret hx hb hr hlocks dL_law_885
    · skip
      exfalso; omega
  · skip
    refine lv_aload_n hx hb dL_law_864 rfl (lv_at hl 1 rfl) ?_
    refine lv_aload_n hx hb dL_law_865 rfl (lv_at hl 3 rfl) ?_
    refine lv_iload_n hx hb dL_law_866 rfl (lv_at hl 0 rfl) ?_
    refine lv_iconst (v := 1) hx hb dL_law_867 (by decide) ?_
    refine lv_iadd hx hb dL_law_868 ?_
    refine lk_i (y := 1) (by decide) ?_
    refine va_sld hx hb hX hbl hbA hS (vin (a := 1) (by decide) (by decide) (by decide)) dL_law_869 ?_
    refine lk_i (y := xs 1) rfl ?_
    have hPc := hP.sub (ws' := [(m0, .inr (7, o7 q7 v0 w0))]) [28] rfl
    have hDc := hD.sub (ws' := [(m0, .inr (7, o7 q7 v0 w0))]) [28] (by decide) rfl
    have hFc := va_free (wc := [(m0, .inr (7, o7 q7 v0 w0))]) hD hS hA [28] rfl
    refine va_csi (va_runV (As := [.int (xs 1)]) (rest := [.int (-1)]) ⟨hx, hb, hml, hown, hts⟩ (c_X7_count l D c ts H.size q7 m0 (xs 1) ((xs 1).toInt) rfl) (cwV 1 hts gL_law_X7_count rfl rfl rfl ⟨rfl, hdX7_count⟩ ⟨(show 0 + 1 ≤ 12 by decide), (show 8 + (2 + 11) + 0 ≤ 436 by decide)⟩) ⟨Pre0.blind, va_recv hK hPc (ci := 7) (q0 := 0) rfl rfl, Pre0.at hPc hDc hAm hSt hS hFc⟩ rfl rfl hl.1 rfl (lv_room (Nat.le_of_ble_eq_true rfl)) dL_law_870 ⟨(show 65 + 0 ≤ 600000 by decide), (show 64699 + 0 ≤ 7302249 by decide)⟩) (fun r_6 hw_5 => ?_)
    rcases hw_5 with ⟨hw_5, rfl⟩ | ⟨hw_5, rfl⟩
    · skip
      exfalso; omega
    · skip
      refine iicmp_eqT (a := (-1)) (b := (-1)) (tgt := 878) hx hb (by decide) (by decide) dL_law_873 (by decide) (by decide) ?_
      refine lv_iinc (v := 6) (lv' := [(3, .int 6), (2, .ref m0), (1, .ref x0), (0, .ref b)]) hx hb dL_law_878 hl (k := 0) rfl (by decide) (by decide) rfl (fun ls hl => ?_)
      refine lv_goto (tgt := 18) hx hb dL_law_881 (by decide) ?_
      refine lv_iload_n hx hb dL_law_18 rfl (lv_at hl 0 rfl) ?_
      refine lv_aload_n hx hb dL_law_19 rfl (lv_at hl 3 rfl) ?_
      refine va_slen hx hb hX hbl hbA hS dL_law_20 ?_
      refine lk_i (y := 6) rfl ?_
      refine lv_bipush (v := 6) hx hb dL_law_21 (by decide) ?_
      refine lv_isub hx hb dL_law_23 ?_
      refine lk_i (y := 0) (by decide) ?_
      refine iicmp_gtT (a := 6) (b := 0) (tgt := 884) hx hb (by decide) (by decide) dL_law_24 (by decide) (by decide) ?_
      refine lv_iconst (v := 1) hx hb dL_law_884 (by decide) ?_
      refine va_forget (fun q hq => hA2 _ (hS.2.2 q hq)) ?_
      refine W.widen (k := 600000) (n := 7302249) (by omega) (by omega) ?_
      exact lw_ret hx hb hr hlocks dL_law_885
