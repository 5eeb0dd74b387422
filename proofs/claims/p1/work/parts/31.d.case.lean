set_option maxHeartbeats 4000000 in
set_option maxRecDepth 100000 in
theorem law_case_12 {p : Program} {l : Launch} {e : Env} {s : State} {m : MethodId} {below : List Frame} {meth : Method} {cd : Code} {D : va_G} {c : Nat → ClassId} {ts : Nat × Nat} {b : Nat} {xs : Nat → Int32} {A : Nat → Prop} (C0 : lw_At p s m meth cd b 6 xs) (hA : ∀ q : Nat, s.heap.size ≤ q → A q) (hA2 : ∀ q : Nat, A q → s.heap.size ≤ q) (hAm : Amb D c s) (hSt : Stt ts A s s.heap) {x0 m0 : Nat} {q6 q7 : Nat → Nat} {H : Heap} {locs : List Loc} (hP : va_P D vwCl (wL c x0 m0 q6 q7) H) (hD : va_D A (wL c x0 m0 q6 q7)) (hS : va_S A s.heap H locs) {ls : Array Slot} (hl : lv_has ls 4 [(3, .int 0), (2, .ref m0), (1, .ref x0), (0, .ref b)]) : W p l e room_1 s m #[Value.ref b] below meth cd H locs 65 64699 (lw_Z below #[Value.ref b] s) (F0 m 530 ls []) := by
  obtain ⟨hx, hb, hr, hml, hown0, hts0, hX, hbl, hlocks, hgv⟩ := id C0
  have hown : s.vm.findClass RL = some m.cls := hown0
  have hts : ∀ w ∈ wsL_law, w.before #[Value.ref b] s = true := fun w h => hts0 w (wsL_law_in w h)
  have hK := hAm.1
  have hbA : ¬ A b := fun h => absurd (hA2 _ h) (Nat.not_le.mpr hbl)
  refine lv_aload_n hx hb dL_law_530 rfl (lv_at hl 2 rfl) ?_
  refine lv_aload_n hx hb dL_law_531 rfl (lv_at hl 3 rfl) ?_
  refine lv_iload_n hx hb dL_law_532 rfl (lv_at hl 0 rfl) ?_
  refine lv_iconst (v := 1) hx hb dL_law_533 (by decide) ?_
  refine lv_iadd hx hb dL_law_534 ?_
  refine lk_i (y := 1) (by decide) ?_
  refine va_sld hx hb hX hbl hbA hS (vin (a := 1) (by decide) (by decide) (by decide)) dL_law_535 ?_
  refine lk_i (y := xs 1) rfl ?_
  refine lv_aload_n hx hb dL_law_536 rfl (lv_at hl 3 rfl) ?_
  refine lv_iload_n hx hb dL_law_537 rfl (lv_at hl 0 rfl) ?_
  refine lv_iconst (v := 2) hx hb dL_law_538 (by decide) ?_
  refine lv_iadd hx hb dL_law_539 ?_
  refine lk_i (y := 2) (by decide) ?_
  refine va_sld hx hb hX hbl hbA hS (vin (a := 2) (by decide) (by decide) (by decide)) dL_law_540 ?_
  refine lk_i (y := xs 2) rfl ?_
  have hPc := hP.sub (ws' := [(x0, .inr (6, o6 q6 0 0 0 0)), (q6 14, .inl (c 2, 16, .inr (.inl (fun _ => 0)))), (q6 19, .inr (2, [.int 7, .int 400, .ref (q6 20), .int 0]))]) [0, 15, 20] rfl
  have hDc := hD.sub (ws' := [(x0, .inr (6, o6 q6 0 0 0 0)), (q6 14, .inl (c 2, 16, .inr (.inl (fun _ => 0)))), (q6 19, .inr (2, [.int 7, .int 400, .ref (q6 20), .int 0]))]) [0, 15, 20] (by decide) rfl
  have hFc := va_free (wc := [(x0, .inr (6, o6 q6 0 0 0 0)), (q6 14, .inl (c 2, 16, .inr (.inl (fun _ => 0)))), (q6 19, .inr (2, [.int 7, .int 400, .ref (q6 20), .int 0]))]) hD hS hA [0, 15, 20] rfl
  refine va_calli (va_runV (As := [.int (xs 1), .int (xs 2)]) (rest := []) ⟨hx, hb, hml, hown, hts⟩ (c_X6_heir l D c ts H.size q6 x0 (xs 1) ((xs 1).toInt) rfl (xs 2) ((xs 2).toInt) rfl) (cwV 2 hts gL_law_X6_heir rfl rfl rfl ⟨rfl, hdX6_heir⟩ ⟨(show 1 + 1 ≤ 12 by decide), (show 8 + (5 + 11) + 20 ≤ 436 by decide)⟩) ⟨Pre0.blind, va_recv hK hPc (ci := 6) (q0 := 0) rfl rfl, Pre0.at hPc hDc hAm hSt hS hFc⟩ rfl rfl hl.1 rfl (lv_room (Nat.le_of_ble_eq_true rfl)) dL_law_541 ⟨(show 65 + 0 ≤ 600000 by decide), (show 64699 + 0 ≤ 7302249 by decide)⟩) hS (fun q _ h => hFc q h) hFc (fun r_2 u_3 t1 H locs ht hvm hw_1 hB hz1 hk1 hS => ?_)
  obtain ⟨hP, hD⟩ := va_join (wr := [(q6 0, .inr (3, [.ref (q6 1), .int 0])), (q6 1, .inl (c 0, 800, .inl (fun _ => 0))), (q6 2, .inr (1, [.ref (q6 0), .int 0, .int 0, .int 0, .int 0, .int 0, .int 0, .int 0, .int 0, .ref (q6 3), .int 0, .ref (q6 4), .ref (q6 5), .ref (q6 6), .int 0, .ref (q6 7), .int 0])), (q6 3, .inl (c 1, 64, .inl (fun _ => 0))), (q6 4, .inl (c 1, 40, .inl (fun _ => 0))), (q6 5, .inl (c 1, 40, .inl (fun _ => 0))), (q6 6, .inl (c 1, 40, .inl (fun _ => 0))), (q6 7, .inl (c 1, 800, .inl (fun _ => 0))), (q6 8, .inr (5, [.ref (q6 9), .ref (q6 10), .int 0])), (q6 9, .inl (c 2, 10, .inr (.inl (fun _ => 0)))), (q6 10, .inl (c 2, 64, .inr (.inl (fun _ => 0)))), (q6 11, .inl (c 4, 10, .inr (.inr (.inr (.inr (fun _ => none)))))), (q6 12, .inr (2, [.int 2, .int 40, .ref (q6 13), .int 0])), (q6 13, .inl (c 1, 32, .inl (fun _ => 0))), (q6 15, .inl (c 3, 16, .inl (fun _ => 0))), (q6 16, .inl (c 1, 16, .inl (fun _ => (-1)))), (q6 17, .inl (c 1, 8, .inl (fun _ => 0))), (q6 18, .inl (c 1, 8, .inl (fun _ => (-1)))), (q6 20, .inl (c 1, 112, .inl (fun _ => 0))), (q6 21, .inr (2, [.int 8, .int 4000, .ref (q6 22), .int 0])), (q6 22, .inl (c 1, 128, .inl (fun _ => 0))), (q6 23, .inr (2, [.int 1, .int 2000, .ref (q6 24), .int 0])), (q6 24, .inl (c 1, 16, .inl (fun _ => 0))), (q6 25, .inr (0, [.ref (q6 26)])), (q6 26, .inl (c 1, 6, .inl (fun _ => 0))), (m0, .inr (7, o7 q7 v0 w0)), (q7 1, .inl (c 0, 800, .inl (fun _ => 0))), (q7 9, .inl (c 1, 10, .inl (fun _ => 0))), (q7 10, .inl (c 1, 400, .inl (fun _ => 0))), (q7 11, .inl (c 1, 400, .inl (fun _ => 0))), (q7 12, .inl (c 1, 400, .inl (fun _ => 0))), (q7 13, .inl (c 1, 400, .inl (fun _ => 0))), (q7 14, .inl (c 1, 9000, .inl (fun _ => 0))), (q7 15, .inl (c 1, 9000, .inl (fun _ => 0))), (q7 18, .inl (c 1, 200, .inl (fun _ => 0))), (q7 22, .inl (c 1, 40, .inl (fun _ => 0))), (q7 23, .inl (c 1, 40, .inl (fun _ => 0))), (q7 25, .inl (c 1, 8, .inl (fun _ => 0))), (q7 26, .inl (c 1, 8, .inl (fun _ => (-1)))), (q7 28, .inl (c 1, 400, .inl (fun _ => 0))), (q7 29, .inl (c 1, 400, .inl (fun _ => 0))), (q7 30, .inl (c 1, 400, .inl (fun _ => 0))), (q7 31, .inl (c 1, 400, .inl (fun _ => 0))), (q7 32, .inl (c 1, 400, .inl (fun _ => 0))), (q7 33, .inl (c 1, 400, .inl (fun _ => 0))), (q7 34, .inl (c 1, 400, .inl (fun _ => 0))), (q7 35, .inl (c 2, 16, .inr (.inl (fun _ => 0)))), (q7 36, .inl (c 3, 16, .inl (fun _ => 0))), (q7 37, .inl (c 1, 16, .inl (fun _ => (-1)))), (q7 40, .inl (c 2, 400, .inr (.inl (fun _ => 0)))), (q7 43, .inl (c 1, 4000, .inl (fun _ => 0))), (q7 44, .inl (c 1, 4000, .inl (fun _ => 0))), (q7 45, .inl (c 1, 4000, .inl (fun _ => 0))), (q7 46, .inl (c 1, 4000, .inl (fun _ => 0))), (q7 47, .inl (c 1, 4000, .inl (fun _ => 0))), (q7 48, .inl (c 1, 4000, .inl (fun _ => 0))), (q7 49, .inl (c 1, 4000, .inl (fun _ => 0))), (q7 50, .inl (c 1, 4000, .inl (fun _ => 0))), (q7 51, .inl (c 1, 4000, .inl (fun _ => 0))), (q7 53, .inl (c 1, 2000, .inl (fun _ => 0))), (q7 54, .inl (c 3, 400, .inl (fun _ => 0))), (q7 55, .inl (c 1, 6, .inl (fun _ => 0)))]) (w1 := []) hP hD [0, 15, 20] [1, 2, 3, 4, 5, 6, 7, 8, 9, 10, 11, 12, 13, 14, 16, 17, 18, 19, 21, 22, 23, 24, 25, 26, 27, 28, 29, 30, 31, 32, 33, 34, 35, 36, 37, 38, 39, 40, 41, 42, 43, 44, 45, 46, 47, 48, 49, 50, 51, 52, 53, 54, 55, 56, 57, 58, 59, 60, 61, 62, 63, 64] rfl rfl (by decide) (by decide) hk1 hFc (fun k q h => by simp at h) ⟨fun i j p q h => by simp at h, fun k q h => by simp at h⟩
  have hP : va_P D vwCl [(q6 0, .inr (3, [.ref (q6 1), .int 0])), (q6 1, .inl (c 0, 800, .inl (fun _ => 0))), (q6 2, .inr (1, [.ref (q6 0), .int 0, .int 0, .int 0, .int 0, .int 0, .int 0, .int 0, .int 0, .ref (q6 3), .int 0, .ref (q6 4), .ref (q6 5), .ref (q6 6), .int 0, .ref (q6 7), .int 0])), (q6 3, .inl (c 1, 64, .inl (fun _ => 0))), (q6 4, .inl (c 1, 40, .inl (fun _ => 0))), (q6 5, .inl (c 1, 40, .inl (fun _ => 0))), (q6 6, .inl (c 1, 40, .inl (fun _ => 0))), (q6 7, .inl (c 1, 800, .inl (fun _ => 0))), (q6 8, .inr (5, [.ref (q6 9), .ref (q6 10), .int 0])), (q6 9, .inl (c 2, 10, .inr (.inl (fun _ => 0)))), (q6 10, .inl (c 2, 64, .inr (.inl (fun _ => 0)))), (q6 11, .inl (c 4, 10, .inr (.inr (.inr (.inr (fun _ => none)))))), (q6 12, .inr (2, [.int 2, .int 40, .ref (q6 13), .int 0])), (q6 13, .inl (c 1, 32, .inl (fun _ => 0))), (q6 15, .inl (c 3, 16, .inl (fun _ => 0))), (q6 16, .inl (c 1, 16, .inl (fun _ => (-1)))), (q6 17, .inl (c 1, 8, .inl (fun _ => 0))), (q6 18, .inl (c 1, 8, .inl (fun _ => (-1)))), (q6 20, .inl (c 1, 112, .inl (fun _ => 0))), (q6 21, .inr (2, [.int 8, .int 4000, .ref (q6 22), .int 0])), (q6 22, .inl (c 1, 128, .inl (fun _ => 0))), (q6 23, .inr (2, [.int 1, .int 2000, .ref (q6 24), .int 0])), (q6 24, .inl (c 1, 16, .inl (fun _ => 0))), (q6 25, .inr (0, [.ref (q6 26)])), (q6 26, .inl (c 1, 6, .inl (fun _ => 0))), (m0, .inr (7, o7 q7 v0 w0)), (q7 1, .inl (c 0, 800, .inl (fun _ => 0))), (q7 9, .inl (c 1, 10, .inl (fun _ => 0))), (q7 10, .inl (c 1, 400, .inl (fun _ => 0))), (q7 11, .inl (c 1, 400, .inl (fun _ => 0))), (q7 12, .inl (c 1, 400, .inl (fun _ => 0))), (q7 13, .inl (c 1, 400, .inl (fun _ => 0))), (q7 14, .inl (c 1, 9000, .inl (fun _ => 0))), (q7 15, .inl (c 1, 9000, .inl (fun _ => 0))), (q7 18, .inl (c 1, 200, .inl (fun _ => 0))), (q7 22, .inl (c 1, 40, .inl (fun _ => 0))), (q7 23, .inl (c 1, 40, .inl (fun _ => 0))), (q7 25, .inl (c 1, 8, .inl (fun _ => 0))), (q7 26, .inl (c 1, 8, .inl (fun _ => (-1)))), (q7 28, .inl (c 1, 400, .inl (fun _ => 0))), (q7 29, .inl (c 1, 400, .inl (fun _ => 0))), (q7 30, .inl (c 1, 400, .inl (fun _ => 0))), (q7 31, .inl (c 1, 400, .inl (fun _ => 0))), (q7 32, .inl (c 1, 400, .inl (fun _ => 0))), (q7 33, .inl (c 1, 400, .inl (fun _ => 0))), (q7 34, .inl (c 1, 400, .inl (fun _ => 0))), (q7 35, .inl (c 2, 16, .inr (.inl (fun _ => 0)))), (q7 36, .inl (c 3, 16, .inl (fun _ => 0))), (q7 37, .inl (c 1, 16, .inl (fun _ => (-1)))), (q7 40, .inl (c 2, 400, .inr (.inl (fun _ => 0)))), (q7 43, .inl (c 1, 4000, .inl (fun _ => 0))), (q7 44, .inl (c 1, 4000, .inl (fun _ => 0))), (q7 45, .inl (c 1, 4000, .inl (fun _ => 0))), (q7 46, .inl (c 1, 4000, .inl (fun _ => 0))), (q7 47, .inl (c 1, 4000, .inl (fun _ => 0))), (q7 48, .inl (c 1, 4000, .inl (fun _ => 0))), (q7 49, .inl (c 1, 4000, .inl (fun _ => 0))), (q7 50, .inl (c 1, 4000, .inl (fun _ => 0))), (q7 51, .inl (c 1, 4000, .inl (fun _ => 0))), (q7 53, .inl (c 1, 2000, .inl (fun _ => 0))), (q7 54, .inl (c 3, 400, .inl (fun _ => 0))), (q7 55, .inl (c 1, 6, .inl (fun _ => 0)))] H := hP
  have hD : va_D A [(q6 0, .inr (3, [.ref (q6 1), .int 0])), (q6 1, .inl (c 0, 800, .inl (fun _ => 0))), (q6 2, .inr (1, [.ref (q6 0), .int 0, .int 0, .int 0, .int 0, .int 0, .int 0, .int 0, .int 0, .ref (q6 3), .int 0, .ref (q6 4), .ref (q6 5), .ref (q6 6), .int 0, .ref (q6 7), .int 0])), (q6 3, .inl (c 1, 64, .inl (fun _ => 0))), (q6 4, .inl (c 1, 40, .inl (fun _ => 0))), (q6 5, .inl (c 1, 40, .inl (fun _ => 0))), (q6 6, .inl (c 1, 40, .inl (fun _ => 0))), (q6 7, .inl (c 1, 800, .inl (fun _ => 0))), (q6 8, .inr (5, [.ref (q6 9), .ref (q6 10), .int 0])), (q6 9, .inl (c 2, 10, .inr (.inl (fun _ => 0)))), (q6 10, .inl (c 2, 64, .inr (.inl (fun _ => 0)))), (q6 11, .inl (c 4, 10, .inr (.inr (.inr (.inr (fun _ => none)))))), (q6 12, .inr (2, [.int 2, .int 40, .ref (q6 13), .int 0])), (q6 13, .inl (c 1, 32, .inl (fun _ => 0))), (q6 15, .inl (c 3, 16, .inl (fun _ => 0))), (q6 16, .inl (c 1, 16, .inl (fun _ => (-1)))), (q6 17, .inl (c 1, 8, .inl (fun _ => 0))), (q6 18, .inl (c 1, 8, .inl (fun _ => (-1)))), (q6 20, .inl (c 1, 112, .inl (fun _ => 0))), (q6 21, .inr (2, [.int 8, .int 4000, .ref (q6 22), .int 0])), (q6 22, .inl (c 1, 128, .inl (fun _ => 0))), (q6 23, .inr (2, [.int 1, .int 2000, .ref (q6 24), .int 0])), (q6 24, .inl (c 1, 16, .inl (fun _ => 0))), (q6 25, .inr (0, [.ref (q6 26)])), (q6 26, .inl (c 1, 6, .inl (fun _ => 0))), (m0, .inr (7, o7 q7 v0 w0)), (q7 1, .inl (c 0, 800, .inl (fun _ => 0))), (q7 9, .inl (c 1, 10, .inl (fun _ => 0))), (q7 10, .inl (c 1, 400, .inl (fun _ => 0))), (q7 11, .inl (c 1, 400, .inl (fun _ => 0))), (q7 12, .inl (c 1, 400, .inl (fun _ => 0))), (q7 13, .inl (c 1, 400, .inl (fun _ => 0))), (q7 14, .inl (c 1, 9000, .inl (fun _ => 0))), (q7 15, .inl (c 1, 9000, .inl (fun _ => 0))), (q7 18, .inl (c 1, 200, .inl (fun _ => 0))), (q7 22, .inl (c 1, 40, .inl (fun _ => 0))), (q7 23, .inl (c 1, 40, .inl (fun _ => 0))), (q7 25, .inl (c 1, 8, .inl (fun _ => 0))), (q7 26, .inl (c 1, 8, .inl (fun _ => (-1)))), (q7 28, .inl (c 1, 400, .inl (fun _ => 0))), (q7 29, .inl (c 1, 400, .inl (fun _ => 0))), (q7 30, .inl (c 1, 400, .inl (fun _ => 0))), (q7 31, .inl (c 1, 400, .inl (fun _ => 0))), (q7 32, .inl (c 1, 400, .inl (fun _ => 0))), (q7 33, .inl (c 1, 400, .inl (fun _ => 0))), (q7 34, .inl (c 1, 400, .inl (fun _ => 0))), (q7 35, .inl (c 2, 16, .inr (.inl (fun _ => 0)))), (q7 36, .inl (c 3, 16, .inl (fun _ => 0))), (q7 37, .inl (c 1, 16, .inl (fun _ => (-1)))), (q7 40, .inl (c 2, 400, .inr (.inl (fun _ => 0)))), (q7 43, .inl (c 1, 4000, .inl (fun _ => 0))), (q7 44, .inl (c 1, 4000, .inl (fun _ => 0))), (q7 45, .inl (c 1, 4000, .inl (fun _ => 0))), (q7 46, .inl (c 1, 4000, .inl (fun _ => 0))), (q7 47, .inl (c 1, 4000, .inl (fun _ => 0))), (q7 48, .inl (c 1, 4000, .inl (fun _ => 0))), (q7 49, .inl (c 1, 4000, .inl (fun _ => 0))), (q7 50, .inl (c 1, 4000, .inl (fun _ => 0))), (q7 51, .inl (c 1, 4000, .inl (fun _ => 0))), (q7 53, .inl (c 1, 2000, .inl (fun _ => 0))), (q7 54, .inl (c 3, 400, .inl (fun _ => 0))), (q7 55, .inl (c 1, 6, .inl (fun _ => 0)))] := hD
  refine W.widen (k := 65) (n := 64699) (by omega) (by omega) ?_
  rcases hw_1 with ⟨hw_1, rfl⟩ | ⟨hw_1, rfl⟩
  · skip
    refine lv_aload_n hx hb dL_law_544 rfl (lv_at hl 1 rfl) ?_
    refine lv_aload_n hx hb dL_law_545 rfl (lv_at hl 3 rfl) ?_
    refine lv_iload_n hx hb dL_law_546 rfl (lv_at hl 0 rfl) ?_
    refine lv_iconst (v := 1) hx hb dL_law_547 (by decide) ?_
    refine lv_iadd hx hb dL_law_548 ?_
    refine lk_i (y := 1) (by decide) ?_
    refine va_sld hx hb hX hbl hbA hS (vin (a := 1) (by decide) (by decide) (by decide)) dL_law_549 ?_
    refine lk_i (y := xs 1) rfl ?_
    refine lv_aload_n hx hb dL_law_550 rfl (lv_at hl 3 rfl) ?_
    refine lv_iload_n hx hb dL_law_551 rfl (lv_at hl 0 rfl) ?_
    refine lv_iconst (v := 2) hx hb dL_law_552 (by decide) ?_
    refine lv_iadd hx hb dL_law_553 ?_
    refine lk_i (y := 2) (by decide) ?_
    refine va_sld hx hb hX hbl hbA hS (vin (a := 2) (by decide) (by decide) (by decide)) dL_law_554 ?_
    refine lk_i (y := xs 2) rfl ?_
    have hPc := hP.sub (ws' := [(m0, .inr (7, o7 q7 v0 w0)), (q7 35, .inl (c 2, 16, .inr (.inl (fun _ => 0))))]) [25, 46] rfl
    have hDc := hD.sub (ws' := [(m0, .inr (7, o7 q7 v0 w0)), (q7 35, .inl (c 2, 16, .inr (.inl (fun _ => 0))))]) [25, 46] (by decide) rfl
    have hFc := va_free (wc := [(m0, .inr (7, o7 q7 v0 w0)), (q7 35, .inl (c 2, 16, .inr (.inl (fun _ => 0))))]) hD hS hA [25, 46] rfl
    refine va_calli (va_runV (As := [.int (xs 1), .int (xs 2)]) (rest := [.int 0]) ⟨hx, hb, hml, hown, hts⟩ (c_X7_heir l D c ts H.size q7 m0 (xs 1) ((xs 1).toInt) rfl (xs 2) ((xs 2).toInt) rfl) (cwV 2 hts gL_law_X7_heir rfl rfl rfl ⟨rfl, hdX7_heir⟩ ⟨(show 2 + 1 ≤ 12 by decide), (show 8 + (5 + 11) + 42 ≤ 436 by decide)⟩) ⟨Pre0.blind, va_recv hK hPc (ci := 7) (q0 := 0) rfl rfl, Pre0.at hPc hDc hAm hSt hS hFc⟩ rfl rfl hl.1 rfl (lv_room (Nat.le_of_ble_eq_true rfl)) dL_law_555 ⟨(show 65 + 0 ≤ 600000 by decide), (show 64699 + 0 ≤ 7302249 by decide)⟩) hS (fun q _ h => hFc q h) hFc (fun r_5 u_6 t1 H locs ht hvm hw_4 hB hz1 hk1 hS => ?_)
    obtain ⟨hP, hD⟩ := va_join (wr := [(q6 0, .inr (3, [.ref (q6 1), .int 0])), (q6 1, .inl (c 0, 800, .inl (fun _ => 0))), (q6 2, .inr (1, [.ref (q6 0), .int 0, .int 0, .int 0, .int 0, .int 0, .int 0, .int 0, .int 0, .ref (q6 3), .int 0, .ref (q6 4), .ref (q6 5), .ref (q6 6), .int 0, .ref (q6 7), .int 0])), (q6 3, .inl (c 1, 64, .inl (fun _ => 0))), (q6 4, .inl (c 1, 40, .inl (fun _ => 0))), (q6 5, .inl (c 1, 40, .inl (fun _ => 0))), (q6 6, .inl (c 1, 40, .inl (fun _ => 0))), (q6 7, .inl (c 1, 800, .inl (fun _ => 0))), (q6 8, .inr (5, [.ref (q6 9), .ref (q6 10), .int 0])), (q6 9, .inl (c 2, 10, .inr (.inl (fun _ => 0)))), (q6 10, .inl (c 2, 64, .inr (.inl (fun _ => 0)))), (q6 11, .inl (c 4, 10, .inr (.inr (.inr (.inr (fun _ => none)))))), (q6 12, .inr (2, [.int 2, .int 40, .ref (q6 13), .int 0])), (q6 13, .inl (c 1, 32, .inl (fun _ => 0))), (q6 15, .inl (c 3, 16, .inl (fun _ => 0))), (q6 16, .inl (c 1, 16, .inl (fun _ => (-1)))), (q6 17, .inl (c 1, 8, .inl (fun _ => 0))), (q6 18, .inl (c 1, 8, .inl (fun _ => (-1)))), (q6 20, .inl (c 1, 112, .inl (fun _ => 0))), (q6 21, .inr (2, [.int 8, .int 4000, .ref (q6 22), .int 0])), (q6 22, .inl (c 1, 128, .inl (fun _ => 0))), (q6 23, .inr (2, [.int 1, .int 2000, .ref (q6 24), .int 0])), (q6 24, .inl (c 1, 16, .inl (fun _ => 0))), (q6 25, .inr (0, [.ref (q6 26)])), (q6 26, .inl (c 1, 6, .inl (fun _ => 0))), (q7 1, .inl (c 0, 800, .inl (fun _ => 0))), (q7 9, .inl (c 1, 10, .inl (fun _ => 0))), (q7 10, .inl (c 1, 400, .inl (fun _ => 0))), (q7 11, .inl (c 1, 400, .inl (fun _ => 0))), (q7 12, .inl (c 1, 400, .inl (fun _ => 0))), (q7 13, .inl (c 1, 400, .inl (fun _ => 0))), (q7 14, .inl (c 1, 9000, .inl (fun _ => 0))), (q7 15, .inl (c 1, 9000, .inl (fun _ => 0))), (q7 18, .inl (c 1, 200, .inl (fun _ => 0))), (q7 22, .inl (c 1, 40, .inl (fun _ => 0))), (q7 23, .inl (c 1, 40, .inl (fun _ => 0))), (q7 25, .inl (c 1, 8, .inl (fun _ => 0))), (q7 26, .inl (c 1, 8, .inl (fun _ => (-1)))), (q7 28, .inl (c 1, 400, .inl (fun _ => 0))), (q7 29, .inl (c 1, 400, .inl (fun _ => 0))), (q7 30, .inl (c 1, 400, .inl (fun _ => 0))), (q7 31, .inl (c 1, 400, .inl (fun _ => 0))), (q7 32, .inl (c 1, 400, .inl (fun _ => 0))), (q7 33, .inl (c 1, 400, .inl (fun _ => 0))), (q7 34, .inl (c 1, 400, .inl (fun _ => 0))), (q7 36, .inl (c 3, 16, .inl (fun _ => 0))), (q7 37, .inl (c 1, 16, .inl (fun _ => (-1)))), (q7 40, .inl (c 2, 400, .inr (.inl (fun _ => 0)))), (q7 43, .inl (c 1, 4000, .inl (fun _ => 0))), (q7 44, .inl (c 1, 4000, .inl (fun _ => 0))), (q7 45, .inl (c 1, 4000, .inl (fun _ => 0))), (q7 46, .inl (c 1, 4000, .inl (fun _ => 0))), (q7 47, .inl (c 1, 4000, .inl (fun _ => 0))), (q7 48, .inl (c 1, 4000, .inl (fun _ => 0))), (q7 49, .inl (c 1, 4000, .inl (fun _ => 0))), (q7 50, .inl (c 1, 4000, .inl (fun _ => 0))), (q7 51, .inl (c 1, 4000, .inl (fun _ => 0))), (q7 53, .inl (c 1, 2000, .inl (fun _ => 0))), (q7 54, .inl (c 3, 400, .inl (fun _ => 0))), (q7 55, .inl (c 1, 6, .inl (fun _ => 0)))]) (w1 := []) hP hD [25, 46] [0, 1, 2, 3, 4, 5, 6, 7, 8, 9, 10, 11, 12, 13, 14, 15, 16, 17, 18, 19, 20, 21, 22, 23, 24, 26, 27, 28, 29, 30, 31, 32, 33, 34, 35, 36, 37, 38, 39, 40, 41, 42, 43, 44, 45, 47, 48, 49, 50, 51, 52, 53, 54, 55, 56, 57, 58, 59, 60, 61] rfl rfl (by decide) (by decide) hk1 hFc (fun k q h => by simp at h) ⟨fun i j p q h => by simp at h, fun k q h => by simp at h⟩
    have hP : va_P D vwCl [(q6 0, .inr (3, [.ref (q6 1), .int 0])), (q6 1, .inl (c 0, 800, .inl (fun _ => 0))), (q6 2, .inr (1, [.ref (q6 0), .int 0, .int 0, .int 0, .int 0, .int 0, .int 0, .int 0, .int 0, .ref (q6 3), .int 0, .ref (q6 4), .ref (q6 5), .ref (q6 6), .int 0, .ref (q6 7), .int 0])), (q6 3, .inl (c 1, 64, .inl (fun _ => 0))), (q6 4, .inl (c 1, 40, .inl (fun _ => 0))), (q6 5, .inl (c 1, 40, .inl (fun _ => 0))), (q6 6, .inl (c 1, 40, .inl (fun _ => 0))), (q6 7, .inl (c 1, 800, .inl (fun _ => 0))), (q6 8, .inr (5, [.ref (q6 9), .ref (q6 10), .int 0])), (q6 9, .inl (c 2, 10, .inr (.inl (fun _ => 0)))), (q6 10, .inl (c 2, 64, .inr (.inl (fun _ => 0)))), (q6 11, .inl (c 4, 10, .inr (.inr (.inr (.inr (fun _ => none)))))), (q6 12, .inr (2, [.int 2, .int 40, .ref (q6 13), .int 0])), (q6 13, .inl (c 1, 32, .inl (fun _ => 0))), (q6 15, .inl (c 3, 16, .inl (fun _ => 0))), (q6 16, .inl (c 1, 16, .inl (fun _ => (-1)))), (q6 17, .inl (c 1, 8, .inl (fun _ => 0))), (q6 18, .inl (c 1, 8, .inl (fun _ => (-1)))), (q6 20, .inl (c 1, 112, .inl (fun _ => 0))), (q6 21, .inr (2, [.int 8, .int 4000, .ref (q6 22), .int 0])), (q6 22, .inl (c 1, 128, .inl (fun _ => 0))), (q6 23, .inr (2, [.int 1, .int 2000, .ref (q6 24), .int 0])), (q6 24, .inl (c 1, 16, .inl (fun _ => 0))), (q6 25, .inr (0, [.ref (q6 26)])), (q6 26, .inl (c 1, 6, .inl (fun _ => 0))), (q7 1, .inl (c 0, 800, .inl (fun _ => 0))), (q7 9, .inl (c 1, 10, .inl (fun _ => 0))), (q7 10, .inl (c 1, 400, .inl (fun _ => 0))), (q7 11, .inl (c 1, 400, .inl (fun _ => 0))), (q7 12, .inl (c 1, 400, .inl (fun _ => 0))), (q7 13, .inl (c 1, 400, .inl (fun _ => 0))), (q7 14, .inl (c 1, 9000, .inl (fun _ => 0))), (q7 15, .inl (c 1, 9000, .inl (fun _ => 0))), (q7 18, .inl (c 1, 200, .inl (fun _ => 0))), (q7 22, .inl (c 1, 40, .inl (fun _ => 0))), (q7 23, .inl (c 1, 40, .inl (fun _ => 0))), (q7 25, .inl (c 1, 8, .inl (fun _ => 0))), (q7 26, .inl (c 1, 8, .inl (fun _ => (-1)))), (q7 28, .inl (c 1, 400, .inl (fun _ => 0))), (q7 29, .inl (c 1, 400, .inl (fun _ => 0))), (q7 30, .inl (c 1, 400, .inl (fun _ => 0))), (q7 31, .inl (c 1, 400, .inl (fun _ => 0))), (q7 32, .inl (c 1, 400, .inl (fun _ => 0))), (q7 33, .inl (c 1, 400, .inl (fun _ => 0))), (q7 34, .inl (c 1, 400, .inl (fun _ => 0))), (q7 36, .inl (c 3, 16, .inl (fun _ => 0))), (q7 37, .inl (c 1, 16, .inl (fun _ => (-1)))), (q7 40, .inl (c 2, 400, .inr (.inl (fun _ => 0)))), (q7 43, .inl (c 1, 4000, .inl (fun _ => 0))), (q7 44, .inl (c 1, 4000, .inl (fun _ => 0))), (q7 45, .inl (c 1, 4000, .inl (fun _ => 0))), (q7 46, .inl (c 1, 4000, .inl (fun _ => 0))), (q7 47, .inl (c 1, 4000, .inl (fun _ => 0))), (q7 48, .inl (c 1, 4000, .inl (fun _ => 0))), (q7 49, .inl (c 1, 4000, .inl (fun _ => 0))), (q7 50, .inl (c 1, 4000, .inl (fun _ => 0))), (q7 51, .inl (c 1, 4000, .inl (fun _ => 0))), (q7 53, .inl (c 1, 2000, .inl (fun _ => 0))), (q7 54, .inl (c 3, 400, .inl (fun _ => 0))), (q7 55, .inl (c 1, 6, .inl (fun _ => 0)))] H := hP
    have hD : va_D A [(q6 0, .inr (3, [.ref (q6 1), .int 0])), (q6 1, .inl (c 0, 800, .inl (fun _ => 0))), (q6 2, .inr (1, [.ref (q6 0), .int 0, .int 0, .int 0, .int 0, .int 0, .int 0, .int 0, .int 0, .ref (q6 3), .int 0, .ref (q6 4), .ref (q6 5), .ref (q6 6), .int 0, .ref (q6 7), .int 0])), (q6 3, .inl (c 1, 64, .inl (fun _ => 0))), (q6 4, .inl (c 1, 40, .inl (fun _ => 0))), (q6 5, .inl (c 1, 40, .inl (fun _ => 0))), (q6 6, .inl (c 1, 40, .inl (fun _ => 0))), (q6 7, .inl (c 1, 800, .inl (fun _ => 0))), (q6 8, .inr (5, [.ref (q6 9), .ref (q6 10), .int 0])), (q6 9, .inl (c 2, 10, .inr (.inl (fun _ => 0)))), (q6 10, .inl (c 2, 64, .inr (.inl (fun _ => 0)))), (q6 11, .inl (c 4, 10, .inr (.inr (.inr (.inr (fun _ => none)))))), (q6 12, .inr (2, [.int 2, .int 40, .ref (q6 13), .int 0])), (q6 13, .inl (c 1, 32, .inl (fun _ => 0))), (q6 15, .inl (c 3, 16, .inl (fun _ => 0))), (q6 16, .inl (c 1, 16, .inl (fun _ => (-1)))), (q6 17, .inl (c 1, 8, .inl (fun _ => 0))), (q6 18, .inl (c 1, 8, .inl (fun _ => (-1)))), (q6 20, .inl (c 1, 112, .inl (fun _ => 0))), (q6 21, .inr (2, [.int 8, .int 4000, .ref (q6 22), .int 0])), (q6 22, .inl (c 1, 128, .inl (fun _ => 0))), (q6 23, .inr (2, [.int 1, .int 2000, .ref (q6 24), .int 0])), (q6 24, .inl (c 1, 16, .inl (fun _ => 0))), (q6 25, .inr (0, [.ref (q6 26)])), (q6 26, .inl (c 1, 6, .inl (fun _ => 0))), (q7 1, .inl (c 0, 800, .inl (fun _ => 0))), (q7 9, .inl (c 1, 10, .inl (fun _ => 0))), (q7 10, .inl (c 1, 400, .inl (fun _ => 0))), (q7 11, .inl (c 1, 400, .inl (fun _ => 0))), (q7 12, .inl (c 1, 400, .inl (fun _ => 0))), (q7 13, .inl (c 1, 400, .inl (fun _ => 0))), (q7 14, .inl (c 1, 9000, .inl (fun _ => 0))), (q7 15, .inl (c 1, 9000, .inl (fun _ => 0))), (q7 18, .inl (c 1, 200, .inl (fun _ => 0))), (q7 22, .inl (c 1, 40, .inl (fun _ => 0))), (q7 23, .inl (c 1, 40, .inl (fun _ => 0))), (q7 25, .inl (c 1, 8, .inl (fun _ => 0))), (q7 26, .inl (c 1, 8, .inl (fun _ => (-1)))), (q7 28, .inl (c 1, 400, .inl (fun _ => 0))), (q7 29, .inl (c 1, 400, .inl (fun _ => 0))), (q7 30, .inl (c 1, 400, .inl (fun _ => 0))), (q7 31, .inl (c 1, 400, .inl (fun _ => 0))), (q7 32, .inl (c 1, 400, .inl (fun _ => 0))), (q7 33, .inl (c 1, 400, .inl (fun _ => 0))), (q7 34, .inl (c 1, 400, .inl (fun _ => 0))), (q7 36, .inl (c 3, 16, .inl (fun _ => 0))), (q7 37, .inl (c 1, 16, .inl (fun _ => (-1)))), (q7 40, .inl (c 2, 400, .inr (.inl (fun _ => 0)))), (q7 43, .inl (c 1, 4000, .inl (fun _ => 0))), (q7 44, .inl (c 1, 4000, .inl (fun _ => 0))), (q7 45, .inl (c 1, 4000, .inl (fun _ => 0))), (q7 46, .inl (c 1, 4000, .inl (fun _ => 0))), (q7 47, .inl (c 1, 4000, .inl (fun _ => 0))), (q7 48, .inl (c 1, 4000, .inl (fun _ => 0))), (q7 49, .inl (c 1, 4000, .inl (fun _ => 0))), (q7 50, .inl (c 1, 4000, .inl (fun _ => 0))), (q7 51, .inl (c 1, 4000, .inl (fun _ => 0))), (q7 53, .inl (c 1, 2000, .inl (fun _ => 0))), (q7 54, .inl (c 3, 400, .inl (fun _ => 0))), (q7 55, .inl (c 1, 6, .inl (fun _ => 0)))] := hD
    refine W.widen (k := 65) (n := 64699) (by omega) (by omega) ?_
    rcases hw_4 with ⟨hw_4, rfl⟩ | ⟨hw_4, rfl⟩
    · skip
      refine iicmp_eqT (a := 0) (b := 0) (tgt := 878) hx hb (by decide) (by decide) dL_law_558 (by decide) (by decide) ?_
      refine lv_iinc (v := 6) (lv' := [(3, .int 6), (2, .ref m0), (1, .ref x0), (0, .ref b)]) hx hb dL_law_878 hl (k := 0) rfl (by decide) (by decide) rfl (fun ls hl => ?_)
      refine lv_goto (tgt := 18) hx hb dL_law_881 (by decide) ?_
      refine lv_iload_n hx hb dL_law_18 rfl (lv_at hl 0 rfl) ?_
      refine lv_aload_n hx hb dL_law_19 rfl (lv_at hl 3 rfl) ?_
      refine va_slen hx hb hX hbl hbA hS dL_law_20 ?_
      refine lk_i (y := 6) rfl ?_
      refine lv_bipush (v := 6) hx hb dL_law_21 (by decide) ?_
      refine lv_isub hx hb dL_law_23 ?_
      refine lk_i (y := 0) (by decide) ?_
      refine iicmp_gtT (a := 6) (b := 0) (tgt := 884) hx hb (by decide) (by decide) dL_law_24 (by decide) (by decide) ?_
      refine lv_iconst (v := 1) hx hb dL_law_884 (by decide) ?_
      refine va_forget (fun q hq => hA2 _ (hS.2.2 q hq)) ?_
      refine W.widen (k := 600000) (n := 7302249) (by omega) (by omega) ?_
      exact lw_ret hx hb hr hlocks dL_law_885
    · skip
      exfalso; omega
  · skip
    refine lv_aload_n hx hb dL_law_544 rfl (lv_at hl 1 rfl) ?_
    refine lv_aload_n hx hb dL_law_545 rfl (lv_at hl 3 rfl) ?_
    refine lv_iload_n hx hb dL_law_546 rfl (lv_at hl 0 rfl) ?_
    refine lv_iconst (v := 1) hx hb dL_law_547 (by decide) ?_
    refine lv_iadd hx hb dL_law_548 ?_
    refine lk_i (y := 1) (by decide) ?_
    refine va_sld hx hb hX hbl hbA hS (vin (a := 1) (by decide) (by decide) (by decide)) dL_law_549 ?_
    refine lk_i (y := xs 1) rfl ?_
    refine lv_aload_n hx hb dL_law_550 rfl (lv_at hl 3 rfl) ?_
    refine lv_iload_n hx hb dL_law_551 rfl (lv_at hl 0 rfl) ?_
    refine lv_iconst (v := 2) hx hb dL_law_552 (by decide) ?_
    refine lv_iadd hx hb dL_law_553 ?_
    refine lk_i (y := 2) (by decide) ?_
    refine va_sld hx hb hX hbl hbA hS (vin (a := 2) (by decide) (by decide) (by decide)) dL_law_554 ?_
    refine lk_i (y := xs 2) rfl ?_
    have hPc := hP.sub (ws' := [(m0, .inr (7, o7 q7 v0 w0)), (q7 35, .inl (c 2, 16, .inr (.inl (fun _ => 0))))]) [25, 46] rfl
    have hDc := hD.sub (ws' := [(m0, .inr (7, o7 q7 v0 w0)), (q7 35, .inl (c 2, 16, .inr (.inl (fun _ => 0))))]) [25, 46] (by decide) rfl
    have hFc := va_free (wc := [(m0, .inr (7, o7 q7 v0 w0)), (q7 35, .inl (c 2, 16, .inr (.inl (fun _ => 0))))]) hD hS hA [25, 46] rfl
    refine va_calli (va_runV (As := [.int (xs 1), .int (xs 2)]) (rest := [.int (-1)]) ⟨hx, hb, hml, hown, hts⟩ (c_X7_heir l D c ts H.size q7 m0 (xs 1) ((xs 1).toInt) rfl (xs 2) ((xs 2).toInt) rfl) (cwV 2 hts gL_law_X7_heir rfl rfl rfl ⟨rfl, hdX7_heir⟩ ⟨(show 2 + 1 ≤ 12 by decide), (show 8 + (5 + 11) + 42 ≤ 436 by decide)⟩) ⟨Pre0.blind, va_recv hK hPc (ci := 7) (q0 := 0) rfl rfl, Pre0.at hPc hDc hAm hSt hS hFc⟩ rfl rfl hl.1 rfl (lv_room (Nat.le_of_ble_eq_true rfl)) dL_law_555 ⟨(show 65 + 0 ≤ 600000 by decide), (show 64699 + 0 ≤ 7302249 by decide)⟩) hS (fun q _ h => hFc q h) hFc (fun r_8 u_9 t1 H locs ht hvm hw_7 hB hz1 hk1 hS => ?_)
    obtain ⟨hP, hD⟩ := va_join (wr := [(q6 0, .inr (3, [.ref (q6 1), .int 0])), (q6 1, .inl (c 0, 800, .inl (fun _ => 0))), (q6 2, .inr (1, [.ref (q6 0), .int 0, .int 0, .int 0, .int 0, .int 0, .int 0, .int 0, .int 0, .ref (q6 3), .int 0, .ref (q6 4), .ref (q6 5), .ref (q6 6), .int 0, .ref (q6 7), .int 0])), (q6 3, .inl (c 1, 64, .inl (fun _ => 0))), (q6 4, .inl (c 1, 40, .inl (fun _ => 0))), (q6 5, .inl (c 1, 40, .inl (fun _ => 0))), (q6 6, .inl (c 1, 40, .inl (fun _ => 0))), (q6 7, .inl (c 1, 800, .inl (fun _ => 0))), (q6 8, .inr (5, [.ref (q6 9), .ref (q6 10), .int 0])), (q6 9, .inl (c 2, 10, .inr (.inl (fun _ => 0)))), (q6 10, .inl (c 2, 64, .inr (.inl (fun _ => 0)))), (q6 11, .inl (c 4, 10, .inr (.inr (.inr (.inr (fun _ => none)))))), (q6 12, .inr (2, [.int 2, .int 40, .ref (q6 13), .int 0])), (q6 13, .inl (c 1, 32, .inl (fun _ => 0))), (q6 15, .inl (c 3, 16, .inl (fun _ => 0))), (q6 16, .inl (c 1, 16, .inl (fun _ => (-1)))), (q6 17, .inl (c 1, 8, .inl (fun _ => 0))), (q6 18, .inl (c 1, 8, .inl (fun _ => (-1)))), (q6 20, .inl (c 1, 112, .inl (fun _ => 0))), (q6 21, .inr (2, [.int 8, .int 4000, .ref (q6 22), .int 0])), (q6 22, .inl (c 1, 128, .inl (fun _ => 0))), (q6 23, .inr (2, [.int 1, .int 2000, .ref (q6 24), .int 0])), (q6 24, .inl (c 1, 16, .inl (fun _ => 0))), (q6 25, .inr (0, [.ref (q6 26)])), (q6 26, .inl (c 1, 6, .inl (fun _ => 0))), (q7 1, .inl (c 0, 800, .inl (fun _ => 0))), (q7 9, .inl (c 1, 10, .inl (fun _ => 0))), (q7 10, .inl (c 1, 400, .inl (fun _ => 0))), (q7 11, .inl (c 1, 400, .inl (fun _ => 0))), (q7 12, .inl (c 1, 400, .inl (fun _ => 0))), (q7 13, .inl (c 1, 400, .inl (fun _ => 0))), (q7 14, .inl (c 1, 9000, .inl (fun _ => 0))), (q7 15, .inl (c 1, 9000, .inl (fun _ => 0))), (q7 18, .inl (c 1, 200, .inl (fun _ => 0))), (q7 22, .inl (c 1, 40, .inl (fun _ => 0))), (q7 23, .inl (c 1, 40, .inl (fun _ => 0))), (q7 25, .inl (c 1, 8, .inl (fun _ => 0))), (q7 26, .inl (c 1, 8, .inl (fun _ => (-1)))), (q7 28, .inl (c 1, 400, .inl (fun _ => 0))), (q7 29, .inl (c 1, 400, .inl (fun _ => 0))), (q7 30, .inl (c 1, 400, .inl (fun _ => 0))), (q7 31, .inl (c 1, 400, .inl (fun _ => 0))), (q7 32, .inl (c 1, 400, .inl (fun _ => 0))), (q7 33, .inl (c 1, 400, .inl (fun _ => 0))), (q7 34, .inl (c 1, 400, .inl (fun _ => 0))), (q7 36, .inl (c 3, 16, .inl (fun _ => 0))), (q7 37, .inl (c 1, 16, .inl (fun _ => (-1)))), (q7 40, .inl (c 2, 400, .inr (.inl (fun _ => 0)))), (q7 43, .inl (c 1, 4000, .inl (fun _ => 0))), (q7 44, .inl (c 1, 4000, .inl (fun _ => 0))), (q7 45, .inl (c 1, 4000, .inl (fun _ => 0))), (q7 46, .inl (c 1, 4000, .inl (fun _ => 0))), (q7 47, .inl (c 1, 4000, .inl (fun _ => 0))), (q7 48, .inl (c 1, 4000, .inl (fun _ => 0))), (q7 49, .inl (c 1, 4000, .inl (fun _ => 0))), (q7 50, .inl (c 1, 4000, .inl (fun _ => 0))), (q7 51, .inl (c 1, 4000, .inl (fun _ => 0))), (q7 53, .inl (c 1, 2000, .inl (fun _ => 0))), (q7 54, .inl (c 3, 400, .inl (fun _ => 0))), (q7 55, .inl (c 1, 6, .inl (fun _ => 0)))]) (w1 := []) hP hD [25, 46] [0, 1, 2, 3, 4, 5, 6, 7, 8, 9, 10, 11, 12, 13, 14, 15, 16, 17, 18, 19, 20, 21, 22, 23, 24, 26, 27, 28, 29, 30, 31, 32, 33, 34, 35, 36, 37, 38, 39, 40, 41, 42, 43, 44, 45, 47, 48, 49, 50, 51, 52, 53, 54, 55, 56, 57, 58, 59, 60, 61] rfl rfl (by decide) (by decide) hk1 hFc (fun k q h => by simp at h) ⟨fun i j p q h => by simp at h, fun k q h => by simp at h⟩
    have hP : va_P D vwCl [(q6 0, .inr (3, [.ref (q6 1), .int 0])), (q6 1, .inl (c 0, 800, .inl (fun _ => 0))), (q6 2, .inr (1, [.ref (q6 0), .int 0, .int 0, .int 0, .int 0, .int 0, .int 0, .int 0, .int 0, .ref (q6 3), .int 0, .ref (q6 4), .ref (q6 5), .ref (q6 6), .int 0, .ref (q6 7), .int 0])), (q6 3, .inl (c 1, 64, .inl (fun _ => 0))), (q6 4, .inl (c 1, 40, .inl (fun _ => 0))), (q6 5, .inl (c 1, 40, .inl (fun _ => 0))), (q6 6, .inl (c 1, 40, .inl (fun _ => 0))), (q6 7, .inl (c 1, 800, .inl (fun _ => 0))), (q6 8, .inr (5, [.ref (q6 9), .ref (q6 10), .int 0])), (q6 9, .inl (c 2, 10, .inr (.inl (fun _ => 0)))), (q6 10, .inl (c 2, 64, .inr (.inl (fun _ => 0)))), (q6 11, .inl (c 4, 10, .inr (.inr (.inr (.inr (fun _ => none)))))), (q6 12, .inr (2, [.int 2, .int 40, .ref (q6 13), .int 0])), (q6 13, .inl (c 1, 32, .inl (fun _ => 0))), (q6 15, .inl (c 3, 16, .inl (fun _ => 0))), (q6 16, .inl (c 1, 16, .inl (fun _ => (-1)))), (q6 17, .inl (c 1, 8, .inl (fun _ => 0))), (q6 18, .inl (c 1, 8, .inl (fun _ => (-1)))), (q6 20, .inl (c 1, 112, .inl (fun _ => 0))), (q6 21, .inr (2, [.int 8, .int 4000, .ref (q6 22), .int 0])), (q6 22, .inl (c 1, 128, .inl (fun _ => 0))), (q6 23, .inr (2, [.int 1, .int 2000, .ref (q6 24), .int 0])), (q6 24, .inl (c 1, 16, .inl (fun _ => 0))), (q6 25, .inr (0, [.ref (q6 26)])), (q6 26, .inl (c 1, 6, .inl (fun _ => 0))), (q7 1, .inl (c 0, 800, .inl (fun _ => 0))), (q7 9, .inl (c 1, 10, .inl (fun _ => 0))), (q7 10, .inl (c 1, 400, .inl (fun _ => 0))), (q7 11, .inl (c 1, 400, .inl (fun _ => 0))), (q7 12, .inl (c 1, 400, .inl (fun _ => 0))), (q7 13, .inl (c 1, 400, .inl (fun _ => 0))), (q7 14, .inl (c 1, 9000, .inl (fun _ => 0))), (q7 15, .inl (c 1, 9000, .inl (fun _ => 0))), (q7 18, .inl (c 1, 200, .inl (fun _ => 0))), (q7 22, .inl (c 1, 40, .inl (fun _ => 0))), (q7 23, .inl (c 1, 40, .inl (fun _ => 0))), (q7 25, .inl (c 1, 8, .inl (fun _ => 0))), (q7 26, .inl (c 1, 8, .inl (fun _ => (-1)))), (q7 28, .inl (c 1, 400, .inl (fun _ => 0))), (q7 29, .inl (c 1, 400, .inl (fun _ => 0))), (q7 30, .inl (c 1, 400, .inl (fun _ => 0))), (q7 31, .inl (c 1, 400, .inl (fun _ => 0))), (q7 32, .inl (c 1, 400, .inl (fun _ => 0))), (q7 33, .inl (c 1, 400, .inl (fun _ => 0))), (q7 34, .inl (c 1, 400, .inl (fun _ => 0))), (q7 36, .inl (c 3, 16, .inl (fun _ => 0))), (q7 37, .inl (c 1, 16, .inl (fun _ => (-1)))), (q7 40, .inl (c 2, 400, .inr (.inl (fun _ => 0)))), (q7 43, .inl (c 1, 4000, .inl (fun _ => 0))), (q7 44, .inl (c 1, 4000, .inl (fun _ => 0))), (q7 45, .inl (c 1, 4000, .inl (fun _ => 0))), (q7 46, .inl (c 1, 4000, .inl (fun _ => 0))), (q7 47, .inl (c 1, 4000, .inl (fun _ => 0))), (q7 48, .inl (c 1, 4000, .inl (fun _ => 0))), (q7 49, .inl (c 1, 4000, .inl (fun _ => 0))), (q7 50, .inl (c 1, 4000, .inl (fun _ => 0))), (q7 51, .inl (c 1, 4000, .inl (fun _ => 0))), (q7 53, .inl (c 1, 2000, .inl (fun _ => 0))), (q7 54, .inl (c 3, 400, .inl (fun _ => 0))), (q7 55, .inl (c 1, 6, .inl (fun _ => 0)))] H := hP
    have hD : va_D A [(q6 0, .inr (3, [.ref (q6 1), .int 0])), (q6 1, .inl (c 0, 800, .inl (fun _ => 0))), (q6 2, .inr (1, [.ref (q6 0), .int 0, .int 0, .int 0, .int 0, .int 0, .int 0, .int 0, .int 0, .ref (q6 3), .int 0, .ref (q6 4), .ref (q6 5), .ref (q6 6), .int 0, .ref (q6 7), .int 0])), (q6 3, .inl (c 1, 64, .inl (fun _ => 0))), (q6 4, .inl (c 1, 40, .inl (fun _ => 0))), (q6 5, .inl (c 1, 40, .inl (fun _ => 0))), (q6 6, .inl (c 1, 40, .inl (fun _ => 0))), (q6 7, .inl (c 1, 800, .inl (fun _ => 0))), (q6 8, .inr (5, [.ref (q6 9), .ref (q6 10), .int 0])), (q6 9, .inl (c 2, 10, .inr (.inl (fun _ => 0)))), (q6 10, .inl (c 2, 64, .inr (.inl (fun _ => 0)))), (q6 11, .inl (c 4, 10, .inr (.inr (.inr (.inr (fun _ => none)))))), (q6 12, .inr (2, [.int 2, .int 40, .ref (q6 13), .int 0])), (q6 13, .inl (c 1, 32, .inl (fun _ => 0))), (q6 15, .inl (c 3, 16, .inl (fun _ => 0))), (q6 16, .inl (c 1, 16, .inl (fun _ => (-1)))), (q6 17, .inl (c 1, 8, .inl (fun _ => 0))), (q6 18, .inl (c 1, 8, .inl (fun _ => (-1)))), (q6 20, .inl (c 1, 112, .inl (fun _ => 0))), (q6 21, .inr (2, [.int 8, .int 4000, .ref (q6 22), .int 0])), (q6 22, .inl (c 1, 128, .inl (fun _ => 0))), (q6 23, .inr (2, [.int 1, .int 2000, .ref (q6 24), .int 0])), (q6 24, .inl (c 1, 16, .inl (fun _ => 0))), (q6 25, .inr (0, [.ref (q6 26)])), (q6 26, .inl (c 1, 6, .inl (fun _ => 0))), (q7 1, .inl (c 0, 800, .inl (fun _ => 0))), (q7 9, .inl (c 1, 10, .inl (fun _ => 0))), (q7 10, .inl (c 1, 400, .inl (fun _ => 0))), (q7 11, .inl (c 1, 400, .inl (fun _ => 0))), (q7 12, .inl (c 1, 400, .inl (fun _ => 0))), (q7 13, .inl (c 1, 400, .inl (fun _ => 0))), (q7 14, .inl (c 1, 9000, .inl (fun _ => 0))), (q7 15, .inl (c 1, 9000, .inl (fun _ => 0))), (q7 18, .inl (c 1, 200, .inl (fun _ => 0))), (q7 22, .inl (c 1, 40, .inl (fun _ => 0))), (q7 23, .inl (c 1, 40, .inl (fun _ => 0))), (q7 25, .inl (c 1, 8, .inl (fun _ => 0))), (q7 26, .inl (c 1, 8, .inl (fun _ => (-1)))), (q7 28, .inl (c 1, 400, .inl (fun _ => 0))), (q7 29, .inl (c 1, 400, .inl (fun _ => 0))), (q7 30, .inl (c 1, 400, .inl (fun _ => 0))), (q7 31, .inl (c 1, 400, .inl (fun _ => 0))), (q7 32, .inl (c 1, 400, .inl (fun _ => 0))), (q7 33, .inl (c 1, 400, .inl (fun _ => 0))), (q7 34, .inl (c 1, 400, .inl (fun _ => 0))), (q7 36, .inl (c 3, 16, .inl (fun _ => 0))), (q7 37, .inl (c 1, 16, .inl (fun _ => (-1)))), (q7 40, .inl (c 2, 400, .inr (.inl (fun _ => 0)))), (q7 43, .inl (c 1, 4000, .inl (fun _ => 0))), (q7 44, .inl (c 1, 4000, .inl (fun _ => 0))), (q7 45, .inl (c 1, 4000, .inl (fun _ => 0))), (q7 46, .inl (c 1, 4000, .inl (fun _ => 0))), (q7 47, .inl (c 1, 4000, .inl (fun _ => 0))), (q7 48, .inl (c 1, 4000, .inl (fun _ => 0))), (q7 49, .inl (c 1, 4000, .inl (fun _ => 0))), (q7 50, .inl (c 1, 4000, .inl (fun _ => 0))), (q7 51, .inl (c 1, 4000, .inl (fun _ => 0))), (q7 53, .inl (c 1, 2000, .inl (fun _ => 0))), (q7 54, .inl (c 3, 400, .inl (fun _ => 0))), (q7 55, .inl (c 1, 6, .inl (fun _ => 0)))] := hD
    refine W.widen (k := 65) (n := 64699) (by omega) (by omega) ?_
    rcases hw_7 with ⟨hw_7, rfl⟩ | ⟨hw_7, rfl⟩
    · skip
      exfalso; omega
    · skip
      refine iicmp_eqT (a := (-1)) (b := (-1)) (tgt := 878) hx hb (by decide) (by decide) dL_law_558 (by decide) (by decide) ?_
      refine lv_iinc (v := 6) (lv' := [(3, .int 6), (2, .ref m0), (1, .ref x0), (0, .ref b)]) hx hb dL_law_878 hl (k := 0) rfl (by decide) (by decide) rfl (fun ls hl => ?_)
      refine lv_goto (tgt := 18) hx hb dL_law_881 (by decide) ?_
      refine lv_iload_n hx hb dL_law_18 rfl (lv_at hl 0 rfl) ?_
      refine lv_aload_n hx hb dL_law_19 rfl (lv_at hl 3 rfl) ?_
      refine va_slen hx hb hX hbl hbA hS dL_law_20 ?_
      refine lk_i (y := 6) rfl ?_
      refine lv_bipush (v := 6) hx hb dL_law_21 (by decide) ?_
      refine lv_isub hx hb dL_law_23 ?_
      refine lk_i (y := 0) (by decide) ?_
      refine iicmp_gtT (a := 6) (b := 0) (tgt := 884) hx hb (by decide) (by decide) dL_law_24 (by decide) (by decide) ?_
      refine lv_iconst (v := 1) hx hb dL_law_884 (by decide) ?_
      refine va_forget (fun q hq => hA2 _ (hS.2.2 q hq)) ?_
      refine W.widen (k := 600000) (n := 7302249) (by omega) (by omega) ?_
      exact lw_ret hx hb hr hlocks dL_law_885

set_option maxHeartbeats 4000000 in
set_option maxRecDepth 100000 in
theorem law_case_13 {p : Program} {l : Launch} {e : Env} {s : State} {m : MethodId} {below : List Frame} {meth : Method} {cd : Code} {D : va_G} {c : Nat → ClassId} {ts : Nat × Nat} {b : Nat} {xs : Nat → Int32} {A : Nat → Prop} (C0 : lw_At p s m meth cd b 6 xs) (hA : ∀ q : Nat, s.heap.size ≤ q → A q) (hA2 : ∀ q : Nat, A q → s.heap.size ≤ q) (hAm : Amb D c s) (hSt : Stt ts A s s.heap) {x0 m0 : Nat} {q6 q7 : Nat → Nat} {H : Heap} {locs : List Loc} (hP : va_P D vwCl (wL c x0 m0 q6 q7) H) (hD : va_D A (wL c x0 m0 q6 q7)) (hS : va_S A s.heap H locs) {ls : Array Slot} (hl : lv_has ls 4 [(3, .int 0), (2, .ref m0), (1, .ref x0), (0, .ref b)]) : W p l e room_1 s m #[Value.ref b] below meth cd H locs 65 64699 (lw_Z below #[Value.ref b] s) (F0 m 563 ls []) := by
  obtain ⟨hx, hb, hr, hml, hown0, hts0, hX, hbl, hlocks, hgv⟩ := id C0
  have hown : s.vm.findClass RL = some m.cls := hown0
  have hts : ∀ w ∈ wsL_law, w.before #[Value.ref b] s = true := fun w h => hts0 w (wsL_law_in w h)
  have hK := hAm.1
  have hbA : ¬ A b := fun h => absurd (hA2 _ h) (Nat.not_le.mpr hbl)
  refine lv_aload_n hx hb dL_law_563 rfl (lv_at hl 2 rfl) ?_
  refine lv_aload_n hx hb dL_law_564 rfl (lv_at hl 3 rfl) ?_
  refine lv_iload_n hx hb dL_law_565 rfl (lv_at hl 0 rfl) ?_
  refine lv_iconst (v := 1) hx hb dL_law_566 (by decide) ?_
  refine lv_iadd hx hb dL_law_567 ?_
  refine lk_i (y := 1) (by decide) ?_
  refine va_sld hx hb hX hbl hbA hS (vin (a := 1) (by decide) (by decide) (by decide)) dL_law_568 ?_
  refine lk_i (y := xs 1) rfl ?_
  refine lv_aload_n hx hb dL_law_569 rfl (lv_at hl 3 rfl) ?_
  refine lv_iload_n hx hb dL_law_570 rfl (lv_at hl 0 rfl) ?_
  refine lv_iconst (v := 2) hx hb dL_law_571 (by decide) ?_
  refine lv_iadd hx hb dL_law_572 ?_
  refine lk_i (y := 2) (by decide) ?_
  refine va_sld hx hb hX hbl hbA hS (vin (a := 2) (by decide) (by decide) (by decide)) dL_law_573 ?_
  refine lk_i (y := xs 2) rfl ?_
  have hPc := hP.sub (ws' := [(x0, .inr (6, o6 q6 0 0 0 0)), (q6 19, .inr (2, [.int 7, .int 400, .ref (q6 20), .int 0]))]) [0, 20] rfl
  have hDc := hD.sub (ws' := [(x0, .inr (6, o6 q6 0 0 0 0)), (q6 19, .inr (2, [.int 7, .int 400, .ref (q6 20), .int 0]))]) [0, 20] (by decide) rfl
  have hFc := va_free (wc := [(x0, .inr (6, o6 q6 0 0 0 0)), (q6 19, .inr (2, [.int 7, .int 400, .ref (q6 20), .int 0]))]) hD hS hA [0, 20] rfl
  refine va_csi (va_runV (As := [.int (xs 1), .int (xs 2)]) (rest := []) ⟨hx, hb, hml, hown, hts⟩ (c_X6_about l D c ts H.size q6 x0 (xs 1) ((xs 1).toInt) rfl (xs 2) ((xs 2).toInt) rfl) (cwV 2 hts gL_law_X6_about rfl rfl rfl ⟨rfl, hdX6_about⟩ ⟨(show 1 + 1 ≤ 12 by decide), (show 8 + (3 + 11) + 22 ≤ 436 by decide)⟩) ⟨Pre0.blind, va_recv hK hPc (ci := 6) (q0 := 0) rfl rfl, Pre0.at hPc hDc hAm hSt hS hFc⟩ rfl rfl hl.1 rfl (lv_room (Nat.le_of_ble_eq_true rfl)) dL_law_574 ⟨(show 65 + 0 ≤ 600000 by decide), (show 64699 + 0 ≤ 7302249 by decide)⟩) (fun r_2 hw_1 => ?_)
  refine lk_i (y := (-2)) hw_1 ?_
  refine lv_aload_n hx hb dL_law_577 rfl (lv_at hl 1 rfl) ?_
  refine lv_aload_n hx hb dL_law_578 rfl (lv_at hl 3 rfl) ?_
  refine lv_iload_n hx hb dL_law_579 rfl (lv_at hl 0 rfl) ?_
  refine lv_iconst (v := 1) hx hb dL_law_580 (by decide) ?_
  refine lv_iadd hx hb dL_law_581 ?_
  refine lk_i (y := 1) (by decide) ?_
  refine va_sld hx hb hX hbl hbA hS (vin (a := 1) (by decide) (by decide) (by decide)) dL_law_582 ?_
  refine lk_i (y := xs 1) rfl ?_
  refine lv_aload_n hx hb dL_law_583 rfl (lv_at hl 3 rfl) ?_
  refine lv_iload_n hx hb dL_law_584 rfl (lv_at hl 0 rfl) ?_
  refine lv_iconst (v := 2) hx hb dL_law_585 (by decide) ?_
  refine lv_iadd hx hb dL_law_586 ?_
  refine lk_i (y := 2) (by decide) ?_
  refine va_sld hx hb hX hbl hbA hS (vin (a := 2) (by decide) (by decide) (by decide)) dL_law_587 ?_
  refine lk_i (y := xs 2) rfl ?_
  have hPc := hP.sub (ws' := [(m0, .inr (7, o7 q7 v0 w0))]) [28] rfl
  have hDc := hD.sub (ws' := [(m0, .inr (7, o7 q7 v0 w0))]) [28] (by decide) rfl
  have hFc := va_free (wc := [(m0, .inr (7, o7 q7 v0 w0))]) hD hS hA [28] rfl
  refine va_csi (va_runV (As := [.int (xs 1), .int (xs 2)]) (rest := [.int (-2)]) ⟨hx, hb, hml, hown, hts⟩ (c_X7_about l D c ts H.size q7 m0 (xs 1) ((xs 1).toInt) rfl (xs 2) ((xs 2).toInt) rfl) (cwV 2 hts gL_law_X7_about rfl rfl rfl ⟨rfl, hdX7_about⟩ ⟨(show 2 + 1 ≤ 12 by decide), (show 8 + (3 + 11) + 43 ≤ 436 by decide)⟩) ⟨Pre0.blind, va_recv hK hPc (ci := 7) (q0 := 0) rfl rfl, Pre0.at hPc hDc hAm hSt hS hFc⟩ rfl rfl hl.1 rfl (lv_room (Nat.le_of_ble_eq_true rfl)) dL_law_588 ⟨(show 65 + 0 ≤ 600000 by decide), (show 64699 + 0 ≤ 7302249 by decide)⟩) (fun r_4 hw_3 => ?_)
  refine lk_i (y := (-2)) hw_3 ?_
  refine iicmp_eqT (a := (-2)) (b := (-2)) (tgt := 878) hx hb (by decide) (by decide) dL_law_591 (by decide) (by decide) ?_
  refine lv_iinc (v := 6) (lv' := [(3, .int 6), (2, .ref m0), (1, .ref x0), (0, .ref b)]) hx hb dL_law_878 hl (k := 0) rfl (by decide) (by decide) rfl (fun ls hl => ?_)
  refine lv_goto (tgt := 18) hx hb dL_law_881 (by decide) ?_
  refine lv_iload_n hx hb dL_law_18 rfl (lv_at hl 0 rfl) ?_
  refine lv_aload_n hx hb dL_law_19 rfl (lv_at hl 3 rfl) ?_
  refine va_slen hx hb hX hbl hbA hS dL_law_20 ?_
  refine lk_i (y := 6) rfl ?_
  refine lv_bipush (v := 6) hx hb dL_law_21 (by decide) ?_
  refine lv_isub hx hb dL_law_23 ?_
  refine lk_i (y := 0) (by decide) ?_
  refine iicmp_gtT (a := 6) (b := 0) (tgt := 884) hx hb (by decide) (by decide) dL_law_24 (by decide) (by decide) ?_
  refine lv_iconst (v := 1) hx hb dL_law_884 (by decide) ?_
  refine va_forget (fun q hq => hA2 _ (hS.2.2 q hq)) ?_
  refine W.widen (k := 600000) (n := 7302249) (by omega) (by omega) ?_
  exact lw_ret hx hb hr hlocks dL_law_885

set_option maxHeartbeats 4000000 in
set_option maxRecDepth 100000 in
theorem law_case_14 {p : Program} {l : Launch} {e : Env} {s : State} {m : MethodId} {below : List Frame} {meth : Method} {cd : Code} {D : va_G} {c : Nat → ClassId} {ts : Nat × Nat} {b : Nat} {xs : Nat → Int32} {A : Nat → Prop} (C0 : lw_At p s m meth cd b 6 xs) (hA : ∀ q : Nat, s.heap.size ≤ q → A q) (hA2 : ∀ q : Nat, A q → s.heap.size ≤ q) (hAm : Amb D c s) (hSt : Stt ts A s s.heap) {x0 m0 : Nat} {q6 q7 : Nat → Nat} {H : Heap} {locs : List Loc} (hP : va_P D vwCl (wL c x0 m0 q6 q7) H) (hD : va_D A (wL c x0 m0 q6 q7)) (hS : va_S A s.heap H locs) {ls : Array Slot} (hl : lv_has ls 4 [(3, .int 0), (2, .ref m0), (1, .ref x0), (0, .ref b)]) : W p l e room_1 s m #[Value.ref b] below meth cd H locs 65 64699 (lw_Z below #[Value.ref b] s) (F0 m 596 ls []) := by
  obtain ⟨hx, hb, hr, hml, hown0, hts0, hX, hbl, hlocks, hgv⟩ := id C0
  have hown : s.vm.findClass RL = some m.cls := hown0
  have hts : ∀ w ∈ wsL_law, w.before #[Value.ref b] s = true := fun w h => hts0 w (wsL_law_in w h)
  have hK := hAm.1
  have hbA : ¬ A b := fun h => absurd (hA2 _ h) (Nat.not_le.mpr hbl)
  refine lv_aload_n hx hb dL_law_596 rfl (lv_at hl 2 rfl) ?_
  refine lv_aload_n hx hb dL_law_597 rfl (lv_at hl 3 rfl) ?_
  refine lv_iload_n hx hb dL_law_598 rfl (lv_at hl 0 rfl) ?_
  refine lv_iconst (v := 1) hx hb dL_law_599 (by decide) ?_
  refine lv_iadd hx hb dL_law_600 ?_
  refine lk_i (y := 1) (by decide) ?_
  refine va_sld hx hb hX hbl hbA hS (vin (a := 1) (by decide) (by decide) (by decide)) dL_law_601 ?_
  refine lk_i (y := xs 1) rfl ?_
  refine lv_aload_n hx hb dL_law_602 rfl (lv_at hl 3 rfl) ?_
  refine lv_iload_n hx hb dL_law_603 rfl (lv_at hl 0 rfl) ?_
  refine lv_iconst (v := 2) hx hb dL_law_604 (by decide) ?_
  refine lv_iadd hx hb dL_law_605 ?_
  refine lk_i (y := 2) (by decide) ?_
  refine va_sld hx hb hX hbl hbA hS (vin (a := 2) (by decide) (by decide) (by decide)) dL_law_606 ?_
  refine lk_i (y := xs 2) rfl ?_
  have hPc := hP.sub (ws' := [(x0, .inr (6, o6 q6 0 0 0 0)), (q6 14, .inl (c 2, 16, .inr (.inl (fun _ => 0)))), (q6 15, .inl (c 3, 16, .inl (fun _ => 0))), (q6 16, .inl (c 1, 16, .inl (fun _ => (-1)))), (q6 19, .inr (2, [.int 7, .int 400, .ref (q6 20), .int 0]))]) [0, 15, 16, 17, 20] rfl
  have hDc := hD.sub (ws' := [(x0, .inr (6, o6 q6 0 0 0 0)), (q6 14, .inl (c 2, 16, .inr (.inl (fun _ => 0)))), (q6 15, .inl (c 3, 16, .inl (fun _ => 0))), (q6 16, .inl (c 1, 16, .inl (fun _ => (-1)))), (q6 19, .inr (2, [.int 7, .int 400, .ref (q6 20), .int 0]))]) [0, 15, 16, 17, 20] (by decide) rfl
  have hFc := va_free (wc := [(x0, .inr (6, o6 q6 0 0 0 0)), (q6 14, .inl (c 2, 16, .inr (.inl (fun _ => 0)))), (q6 15, .inl (c 3, 16, .inl (fun _ => 0))), (q6 16, .inl (c 1, 16, .inl (fun _ => (-1)))), (q6 19, .inr (2, [.int 7, .int 400, .ref (q6 20), .int 0]))]) hD hS hA [0, 15, 16, 17, 20] rfl
  refine va_csl (va_runV (As := [.int (xs 1), .int (xs 2)]) (rest := []) ⟨hx, hb, hml, hown, hts⟩ (c_X6_owe l D c ts H.size q6 x0 (xs 1) ((xs 1).toInt) rfl (xs 2) ((xs 2).toInt) rfl) (cwV 2 hts gL_law_X6_owe rfl rfl rfl ⟨rfl, hdX6_owe⟩ ⟨(show 1 + 1 ≤ 12 by decide), (show 8 + (3 + 11) + 24 ≤ 436 by decide)⟩) ⟨Pre0.blind, va_recv hK hPc (ci := 6) (q0 := 0) rfl rfl, Pre0.at hPc hDc hAm hSt hS hFc⟩ rfl rfl hl.1 rfl (lv_room (Nat.le_of_ble_eq_true rfl)) dL_law_607 ⟨(show 65 + 0 ≤ 600000 by decide), (show 64699 + 0 ≤ 7302249 by decide)⟩) (fun r_2 hw_1 => ?_)
  rcases hw_1 with ⟨hw_1, rfl⟩ | ⟨hw_1, rfl⟩
  · skip
    refine lv_aload_n hx hb dL_law_610 rfl (lv_at hl 1 rfl) ?_
    refine lv_aload_n hx hb dL_law_611 rfl (lv_at hl 3 rfl) ?_
    refine lv_iload_n hx hb dL_law_612 rfl (lv_at hl 0 rfl) ?_
    refine lv_iconst (v := 1) hx hb dL_law_613 (by decide) ?_
    refine lv_iadd hx hb dL_law_614 ?_
    refine lk_i (y := 1) (by decide) ?_
    refine va_sld hx hb hX hbl hbA hS (vin (a := 1) (by decide) (by decide) (by decide)) dL_law_615 ?_
    refine lk_i (y := xs 1) rfl ?_
    refine lv_aload_n hx hb dL_law_616 rfl (lv_at hl 3 rfl) ?_
    refine lv_iload_n hx hb dL_law_617 rfl (lv_at hl 0 rfl) ?_
    refine lv_iconst (v := 2) hx hb dL_law_618 (by decide) ?_
    refine lv_iadd hx hb dL_law_619 ?_
    refine lk_i (y := 2) (by decide) ?_
    refine va_sld hx hb hX hbl hbA hS (vin (a := 2) (by decide) (by decide) (by decide)) dL_law_620 ?_
    refine lk_i (y := xs 2) rfl ?_
    have hPc := hP.sub (ws' := [(m0, .inr (7, o7 q7 v0 w0)), (q7 35, .inl (c 2, 16, .inr (.inl (fun _ => 0)))), (q7 36, .inl (c 3, 16, .inl (fun _ => 0))), (q7 37, .inl (c 1, 16, .inl (fun _ => (-1))))]) [28, 49, 50, 51] rfl
    have hDc := hD.sub (ws' := [(m0, .inr (7, o7 q7 v0 w0)), (q7 35, .inl (c 2, 16, .inr (.inl (fun _ => 0)))), (q7 36, .inl (c 3, 16, .inl (fun _ => 0))), (q7 37, .inl (c 1, 16, .inl (fun _ => (-1))))]) [28, 49, 50, 51] (by decide) rfl
    have hFc := va_free (wc := [(m0, .inr (7, o7 q7 v0 w0)), (q7 35, .inl (c 2, 16, .inr (.inl (fun _ => 0)))), (q7 36, .inl (c 3, 16, .inl (fun _ => 0))), (q7 37, .inl (c 1, 16, .inl (fun _ => (-1))))]) hD hS hA [28, 49, 50, 51] rfl
    refine va_csl (va_runV (As := [.int (xs 1), .int (xs 2)]) (rest := [.long 0]) ⟨hx, hb, hml, hown, hts⟩ (c_X7_owe l D c ts H.size q7 m0 (xs 1) ((xs 1).toInt) rfl (xs 2) ((xs 2).toInt) rfl) (cwV 2 hts gL_law_X7_owe rfl rfl rfl ⟨rfl, hdX7_owe⟩ ⟨(show 2 + 1 ≤ 12 by decide), (show 8 + (3 + 11) + 42 ≤ 436 by decide)⟩) ⟨Pre0.blind, va_recv hK hPc (ci := 7) (q0 := 0) rfl rfl, Pre0.at hPc hDc hAm hSt hS hFc⟩ rfl rfl hl.1 rfl (lv_room (Nat.le_of_ble_eq_true rfl)) dL_law_621 ⟨(show 65 + 0 ≤ 600000 by decide), (show 64699 + 0 ≤ 7302249 by decide)⟩) (fun r_4 hw_3 => ?_)
    rcases hw_3 with ⟨hw_3, rfl⟩ | ⟨hw_3, rfl⟩
    · skip
      refine W.lcmp hx hb dL_law_624 ?_
      refine lk_i (y := 0) (by decide) ?_
      refine iif_eqT (a := 0) (tgt := 878) hx hb (by decide) dL_law_625 (by decide) (by decide) ?_
      refine lv_iinc (v := 6) (lv' := [(3, .int 6), (2, .ref m0), (1, .ref x0), (0, .ref b)]) hx hb dL_law_878 hl (k := 0) rfl (by decide) (by decide) rfl (fun ls hl => ?_)
      refine lv_goto (tgt := 18) hx hb dL_law_881 (by decide) ?_
      refine lv_iload_n hx hb dL_law_18 rfl (lv_at hl 0 rfl) ?_
      refine lv_aload_n hx hb dL_law_19 rfl (lv_at hl 3 rfl) ?_
      refine va_slen hx hb hX hbl hbA hS dL_law_20 ?_
      refine lk_i (y := 6) rfl ?_
      refine lv_bipush (v := 6) hx hb dL_law_21 (by decide) ?_
      refine lv_isub hx hb dL_law_23 ?_
      refine lk_i (y := 0) (by decide) ?_
      refine iicmp_gtT (a := 6) (b := 0) (tgt := 884) hx hb (by decide) (by decide) dL_law_24 (by decide) (by decide) ?_
      refine lv_iconst (v := 1) hx hb dL_law_884 (by decide) ?_
      refine va_forget (fun q hq => hA2 _ (hS.2.2 q hq)) ?_
      refine W.widen (k := 600000) (n := 7302249) (by omega) (by omega) ?_
      exact lw_ret hx hb hr hlocks dL_law_885
    · skip
      exfalso; omega
  · skip
    refine lv_aload_n hx hb dL_law_610 rfl (lv_at hl 1 rfl) ?_
    refine lv_aload_n hx hb dL_law_611 rfl (lv_at hl 3 rfl) ?_
    refine lv_iload_n hx hb dL_law_612 rfl (lv_at hl 0 rfl) ?_
    refine lv_iconst (v := 1) hx hb dL_law_613 (by decide) ?_
    refine lv_iadd hx hb dL_law_614 ?_
    refine lk_i (y := 1) (by decide) ?_
    refine va_sld hx hb hX hbl hbA hS (vin (a := 1) (by decide) (by decide) (by decide)) dL_law_615 ?_
    refine lk_i (y := xs 1) rfl ?_
    refine lv_aload_n hx hb dL_law_616 rfl (lv_at hl 3 rfl) ?_
    refine lv_iload_n hx hb dL_law_617 rfl (lv_at hl 0 rfl) ?_
    refine lv_iconst (v := 2) hx hb dL_law_618 (by decide) ?_
    refine lv_iadd hx hb dL_law_619 ?_
    refine lk_i (y := 2) (by decide) ?_
    refine va_sld hx hb hX hbl hbA hS (vin (a := 2) (by decide) (by decide) (by decide)) dL_law_620 ?_
    refine lk_i (y := xs 2) rfl ?_
    have hPc := hP.sub (ws' := [(m0, .inr (7, o7 q7 v0 w0)), (q7 35, .inl (c 2, 16, .inr (.inl (fun _ => 0)))), (q7 36, .inl (c 3, 16, .inl (fun _ => 0))), (q7 37, .inl (c 1, 16, .inl (fun _ => (-1))))]) [28, 49, 50, 51] rfl
    have hDc := hD.sub (ws' := [(m0, .inr (7, o7 q7 v0 w0)), (q7 35, .inl (c 2, 16, .inr (.inl (fun _ => 0)))), (q7 36, .inl (c 3, 16, .inl (fun _ => 0))), (q7 37, .inl (c 1, 16, .inl (fun _ => (-1))))]) [28, 49, 50, 51] (by decide) rfl
    have hFc := va_free (wc := [(m0, .inr (7, o7 q7 v0 w0)), (q7 35, .inl (c 2, 16, .inr (.inl (fun _ => 0)))), (q7 36, .inl (c 3, 16, .inl (fun _ => 0))), (q7 37, .inl (c 1, 16, .inl (fun _ => (-1))))]) hD hS hA [28, 49, 50, 51] rfl
    refine va_csl (va_runV (As := [.int (xs 1), .int (xs 2)]) (rest := [.long (-1)]) ⟨hx, hb, hml, hown, hts⟩ (c_X7_owe l D c ts H.size q7 m0 (xs 1) ((xs 1).toInt) rfl (xs 2) ((xs 2).toInt) rfl) (cwV 2 hts gL_law_X7_owe rfl rfl rfl ⟨rfl, hdX7_owe⟩ ⟨(show 2 + 1 ≤ 12 by decide), (show 8 + (3 + 11) + 42 ≤ 436 by decide)⟩) ⟨Pre0.blind, va_recv hK hPc (ci := 7) (q0 := 0) rfl rfl, Pre0.at hPc hDc hAm hSt hS hFc⟩ rfl rfl hl.1 rfl (lv_room (Nat.le_of_ble_eq_true rfl)) dL_law_621 ⟨(show 65 + 0 ≤ 600000 by decide), (show 64699 + 0 ≤ 7302249 by decide)⟩) (fun r_6 hw_5 => ?_)
    rcases hw_5 with ⟨hw_5, rfl⟩ | ⟨hw_5, rfl⟩
    · skip
      exfalso; omega
    · skip
      refine W.lcmp hx hb dL_law_624 ?_
      refine lk_i (y := 0) (by decide) ?_
      refine iif_eqT (a := 0) (tgt := 878) hx hb (by decide) dL_law_625 (by decide) (by decide) ?_
      refine lv_iinc (v := 6) (lv' := [(3, .int 6), (2, .ref m0), (1, .ref x0), (0, .ref b)]) hx hb dL_law_878 hl (k := 0) rfl (by decide) (by decide) rfl (fun ls hl => ?_)
      refine lv_goto (tgt := 18) hx hb dL_law_881 (by decide) ?_
      refine lv_iload_n hx hb dL_law_18 rfl (lv_at hl 0 rfl) ?_
      refine lv_aload_n hx hb dL_law_19 rfl (lv_at hl 3 rfl) ?_
      refine va_slen hx hb hX hbl hbA hS dL_law_20 ?_
      refine lk_i (y := 6) rfl ?_
      refine lv_bipush (v := 6) hx hb dL_law_21 (by decide) ?_
      refine lv_isub hx hb dL_law_23 ?_
      refine lk_i (y := 0) (by decide) ?_
      refine iicmp_gtT (a := 6) (b := 0) (tgt := 884) hx hb (by decide) (by decide) dL_law_24 (by decide) (by decide) ?_
      refine lv_iconst (v := 1) hx hb dL_law_884 (by decide) ?_
      refine va_forget (fun q hq => hA2 _ (hS.2.2 q hq)) ?_
      refine W.widen (k := 600000) (n := 7302249) (by omega) (by omega) ?_
      exact lw_ret hx hb hr hlocks dL_law_885

set_option maxHeartbeats 4000000 in
set_option maxRecDepth 100000 in
theorem law_case_15 {p : Program} {l : Launch} {e : Env} {s : State} {m : MethodId} {below : List Frame} {meth : Method} {cd : Code} {D : va_G} {c : Nat → ClassId} {ts : Nat × Nat} {b : Nat} {xs : Nat → Int32} {A : Nat → Prop} (C0 : lw_At p s m meth cd b 6 xs) (hA : ∀ q : Nat, s.heap.size ≤ q → A q) (hA2 : ∀ q : Nat, A q → s.heap.size ≤ q) (hAm : Amb D c s) (hSt : Stt ts A s s.heap) {x0 m0 : Nat} {q6 q7 : Nat → Nat} {H : Heap} {locs : List Loc} (hP : va_P D vwCl (wL c x0 m0 q6 q7) H) (hD : va_D A (wL c x0 m0 q6 q7)) (hS : va_S A s.heap H locs) {ls : Array Slot} (hl : lv_has ls 4 [(3, .int 0), (2, .ref m0), (1, .ref x0), (0, .ref b)]) : W p l e room_1 s m #[Value.ref b] below meth cd H locs 65 64699 (lw_Z below #[Value.ref b] s) (F0 m 630 ls []) := by
  obtain ⟨hx, hb, hr, hml, hown0, hts0, hX, hbl, hlocks, hgv⟩ := id C0
  have hown : s.vm.findClass RL = some m.cls := hown0
  have hts : ∀ w ∈ wsL_law, w.before #[Value.ref b] s = true := fun w h => hts0 w (wsL_law_in w h)
  have hK := hAm.1
  have hbA : ¬ A b := fun h => absurd (hA2 _ h) (Nat.not_le.mpr hbl)
  refine lv_aload_n hx hb dL_law_630 rfl (lv_at hl 2 rfl) ?_
  refine lv_aload_n hx hb dL_law_631 rfl (lv_at hl 3 rfl) ?_
  refine lv_iload_n hx hb dL_law_632 rfl (lv_at hl 0 rfl) ?_
  refine lv_iconst (v := 1) hx hb dL_law_633 (by decide) ?_
  refine lv_iadd hx hb dL_law_634 ?_
  refine lk_i (y := 1) (by decide) ?_
  refine va_sld hx hb hX hbl hbA hS (vin (a := 1) (by decide) (by decide) (by decide)) dL_law_635 ?_
  refine lk_i (y := xs 1) rfl ?_
  refine lv_aload_n hx hb dL_law_636 rfl (lv_at hl 3 rfl) ?_
  refine lv_iload_n hx hb dL_law_637 rfl (lv_at hl 0 rfl) ?_
  refine lv_iconst (v := 2) hx hb dL_law_638 (by decide) ?_
  refine lv_iadd hx hb dL_law_639 ?_
  refine lk_i (y := 2) (by decide) ?_
  refine va_sld hx hb hX hbl hbA hS (vin (a := 2) (by decide) (by decide) (by decide)) dL_law_640 ?_
  refine lk_i (y := xs 2) rfl ?_
  have hPc := hP.sub (ws' := [(x0, .inr (6, o6 q6 0 0 0 0)), (q6 21, .inr (2, [.int 8, .int 4000, .ref (q6 22), .int 0]))]) [0, 22] rfl
  have hDc := hD.sub (ws' := [(x0, .inr (6, o6 q6 0 0 0 0)), (q6 21, .inr (2, [.int 8, .int 4000, .ref (q6 22), .int 0]))]) [0, 22] (by decide) rfl
  have hFc := va_free (wc := [(x0, .inr (6, o6 q6 0 0 0 0)), (q6 21, .inr (2, [.int 8, .int 4000, .ref (q6 22), .int 0]))]) hD hS hA [0, 22] rfl
  refine va_csi (va_runV (As := [.int (xs 1), .int (xs 2)]) (rest := []) ⟨hx, hb, hml, hown, hts⟩ (c_X6_line l D c ts H.size q6 x0 (xs 1) ((xs 1).toInt) rfl (xs 2) ((xs 2).toInt) rfl) (cwV 2 hts gL_law_X6_line rfl rfl rfl ⟨rfl, hdX6_line⟩ ⟨(show 1 + 1 ≤ 12 by decide), (show 8 + (3 + 11) + 22 ≤ 436 by decide)⟩) ⟨Pre0.blind, va_recv hK hPc (ci := 6) (q0 := 0) rfl rfl, Pre0.at hPc hDc hAm hSt hS hFc⟩ rfl rfl hl.1 rfl (lv_room (Nat.le_of_ble_eq_true rfl)) dL_law_641 ⟨(show 65 + 0 ≤ 600000 by decide), (show 64699 + 0 ≤ 7302249 by decide)⟩) (fun r_2 hw_1 => ?_)
  refine lk_i (y := (-2)) hw_1 ?_
  refine lv_aload_n hx hb dL_law_644 rfl (lv_at hl 1 rfl) ?_
  refine lv_aload_n hx hb dL_law_645 rfl (lv_at hl 3 rfl) ?_
  refine lv_iload_n hx hb dL_law_646 rfl (lv_at hl 0 rfl) ?_
  refine lv_iconst (v := 1) hx hb dL_law_647 (by decide) ?_
  refine lv_iadd hx hb dL_law_648 ?_
  refine lk_i (y := 1) (by decide) ?_
  refine va_sld hx hb hX hbl hbA hS (vin (a := 1) (by decide) (by decide) (by decide)) dL_law_649 ?_
  refine lk_i (y := xs 1) rfl ?_
  refine lv_aload_n hx hb dL_law_650 rfl (lv_at hl 3 rfl) ?_
  refine lv_iload_n hx hb dL_law_651 rfl (lv_at hl 0 rfl) ?_
  refine lv_iconst (v := 2) hx hb dL_law_652 (by decide) ?_
  refine lv_iadd hx hb dL_law_653 ?_
  refine lk_i (y := 2) (by decide) ?_
  refine va_sld hx hb hX hbl hbA hS (vin (a := 2) (by decide) (by decide) (by decide)) dL_law_654 ?_
  refine lk_i (y := xs 2) rfl ?_
  have hPc := hP.sub (ws' := [(m0, .inr (7, o7 q7 v0 w0))]) [28] rfl
  have hDc := hD.sub (ws' := [(m0, .inr (7, o7 q7 v0 w0))]) [28] (by decide) rfl
  have hFc := va_free (wc := [(m0, .inr (7, o7 q7 v0 w0))]) hD hS hA [28] rfl
  refine va_csi (va_runV (As := [.int (xs 1), .int (xs 2)]) (rest := [.int (-2)]) ⟨hx, hb, hml, hown, hts⟩ (c_X7_line l D c ts H.size q7 m0 (xs 1) ((xs 1).toInt) rfl (xs 2) ((xs 2).toInt) rfl) (cwV 2 hts gL_law_X7_line rfl rfl rfl ⟨rfl, hdX7_line⟩ ⟨(show 1 + 1 ≤ 12 by decide), (show 8 + (3 + 11) + 22 ≤ 436 by decide)⟩) ⟨Pre0.blind, va_recv hK hPc (ci := 7) (q0 := 0) rfl rfl, Pre0.at hPc hDc hAm hSt hS hFc⟩ rfl rfl hl.1 rfl (lv_room (Nat.le_of_ble_eq_true rfl)) dL_law_655 ⟨(show 65 + 0 ≤ 600000 by decide), (show 64699 + 0 ≤ 7302249 by decide)⟩) (fun r_4 hw_3 => ?_)
  refine lk_i (y := (-2)) hw_3 ?_
  refine iicmp_eqT (a := (-2)) (b := (-2)) (tgt := 878) hx hb (by decide) (by decide) dL_law_658 (by decide) (by decide) ?_
  refine lv_iinc (v := 6) (lv' := [(3, .int 6), (2, .ref m0), (1, .ref x0), (0, .ref b)]) hx hb dL_law_878 hl (k := 0) rfl (by decide) (by decide) rfl (fun ls hl => ?_)
  refine lv_goto (tgt := 18) hx hb dL_law_881 (by decide) ?_
  refine lv_iload_n hx hb dL_law_18 rfl (lv_at hl 0 rfl) ?_
  refine lv_aload_n hx hb dL_law_19 rfl (lv_at hl 3 rfl) ?_
  refine va_slen hx hb hX hbl hbA hS dL_law_20 ?_
  refine lk_i (y := 6) rfl ?_
  refine lv_bipush (v := 6) hx hb dL_law_21 (by decide) ?_
  refine lv_isub hx hb dL_law_23 ?_
  refine lk_i (y := 0) (by decide) ?_
  refine iicmp_gtT (a := 6) (b := 0) (tgt := 884) hx hb (by decide) (by decide) dL_law_24 (by decide) (by decide) ?_
  refine lv_iconst (v := 1) hx hb dL_law_884 (by decide) ?_
  refine va_forget (fun q hq => hA2 _ (hS.2.2 q hq)) ?_
  refine W.widen (k := 600000) (n := 7302249) (by omega) (by omega) ?_
  exact lw_ret hx hb hr hlocks dL_law_885
