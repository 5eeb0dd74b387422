set_option maxHeartbeats 4000000 in
set_option maxRecDepth 100000 in
theorem whole_start {p : Program} {e : Env} {s : State} {m : MethodId} {below : List Frame} {meth : Method} {cd : Code} (l : Launch) {b L : Nat} {xs : Nat → Int32} (hL : L ≤ 6) (C0 : lw_At p s m meth cd b L xs) : W p l e room_1 s m #[Value.ref b] below meth cd s.heap [] 0 0 (lw_Z below #[Value.ref b] s) (entryFrame m ([Value.ref b] : List Value).toArray 4) := by
  obtain ⟨D, c, ts, hAm, hSt⟩ := law_amb C0
  obtain ⟨A, hAe⟩ : ∃ A : Nat → Prop, A = fun q : Nat => s.heap.size ≤ q := ⟨_, rfl⟩
  rw [← hAe] at hSt
  have hA : ∀ q : Nat, s.heap.size ≤ q → A q := fun q h => by rw [hAe]; exact h
  have hA2 : ∀ q : Nat, A q → s.heap.size ≤ q := fun q h => by rw [hAe] at h; exact h
  obtain ⟨hx, hb, hr, hml, hown0, hts0, hX, hbl, hlocks, hgv⟩ := id C0
  have hown : s.vm.findClass RL = some m.cls := hown0
  have hts : ∀ w ∈ wsL_law, w.before #[Value.ref b] s = true := fun w h => hts0 w (wsL_law_in w h)
  have hK := hAm.1
  have hbA : ¬ A b := fun h => absurd (hA2 _ h) (Nat.not_le.mpr hbl)
  have hS : va_S A s.heap s.heap [] := va_S.rf
  have hP : va_P D vwCl [] s.heap := fun k q h => by simp at h
  have hD : va_D A [] := ⟨fun i j p q h => by simp at h, fun k q h => by simp at h⟩
  have hl := lv_entry ([.ref b]) (n := 4) (Nat.le_of_ble_eq_true rfl)
  rw [lg_entry_eq]
  generalize (lg_sl ([.ref b]) ++ List.replicate (4 - (lg_sl ([.ref b])).length) Slot.unset).toArray = ls at hl ⊢
  have hl : lv_has ls 4 [(0, .ref b)] := hl
  refine va_new (ci := 6) (fs := [.null, .null, .null, .null, .int 0, .null, .null, .null, .null, .null, .null, .null, .null, .null, .null, .int 0, .long 0, .long 0]) (C := RX6) (T := TX6) (N := 18) hx hb hts inlX6 tyX6 tyX6_ok hown (hts (.classLink RL 7 RX6) (mem_i 0 rfl)) (hts (.instantiable RX6 18) (mem_i 1 rfl)) (hts (.initialized RX6) (mem_i 2 rfl)) hK hP hD hS hA rfl (fun j hj => by rcases (show j = 0 ∨ j = 1 ∨ j = 2 ∨ j = 3 ∨ j = 4 ∨ j = 5 ∨ j = 6 ∨ j = 7 ∨ j = 8 ∨ j = 9 ∨ j = 10 ∨ j = 11 ∨ j = 12 ∨ j = 13 ∨ j = 14 ∨ j = 15 ∨ j = 16 ∨ j = 17 by omega) with rfl | rfl | rfl | rfl | rfl | rfl | rfl | rfl | rfl | rfl | rfl | rfl | rfl | rfl | rfl | rfl | rfl | rfl <;> rfl) (show 0 + 1 ≤ 600000 by decide) (show 0 + 18 ≤ 7302249 by decide) dL_law_0 (fun q_1 H hP hD hS => ?_)
  have hP : va_P D vwCl [(q_1, .inr (6, [.null, .null, .null, .null, .int 0, .null, .null, .null, .null, .null, .null, .null, .null, .null, .null, .int 0, .long 0, .long 0]))] H := hP
  have hD : va_D A [(q_1, .inr (6, [.null, .null, .null, .null, .int 0, .null, .null, .null, .null, .null, .null, .null, .null, .null, .null, .int 0, .long 0, .long 0]))] := hD
  refine W.widen (k := 1) (n := 18) (by omega) (by omega) ?_
  refine lv_dup hx hb dL_law_3 rfl ?_
  have hPc := hP.sub (ws' := [(q_1, .inr (6, [.null, .null, .null, .null, .int 0, .null, .null, .null, .null, .null, .null, .null, .null, .null, .null, .int 0, .long 0, .long 0]))]) [0] rfl
  have hDc := hD.sub (ws' := [(q_1, .inr (6, [.null, .null, .null, .null, .int 0, .null, .null, .null, .null, .null, .null, .null, .null, .null, .null, .int 0, .long 0, .long 0]))]) [0] (by decide) rfl
  have hFc := va_free (wc := [(q_1, .inr (6, [.null, .null, .null, .null, .int 0, .null, .null, .null, .null, .null, .null, .null, .null, .null, .null, .int 0, .long 0, .long 0]))]) hD hS hA [0] rfl
  refine va_callv (va_runI (As := []) (rest := [.ref q_1]) ⟨hx, hb, hml, hown, hts⟩ (c_X6_init l D c ts H.size q_1) (cwI 0 hts gL_law_X6_init rfl rfl rfl (hts (.initialized RX6) (mem_i 2 rfl)) (hts (.methodLink RL 9 yX6_init) (mem_i 6 rfl)) (hts (.instanceMethod yX6_init) (mem_i 7 rfl)) rfl hdX6_init ⟨(show 2 + 1 ≤ 12 by decide), (show 8 + (1 + 11) + 36 ≤ 436 by decide)⟩) ⟨Pre0.blind, Pre0.at hPc hDc hAm hSt hS hFc⟩ rfl rfl hl.1 rfl (lv_room (Nat.le_of_ble_eq_true rfl)) dL_law_4 ⟨(show 1 + 27 ≤ 600000 by decide), (show 18 + 2265 ≤ 7302249 by decide)⟩) hS (fun q _ h => hFc q h) hFc (fun u_4 t1 H locs ht hvm hw_2 hB hz1 hk1 hS => ?_)
  obtain ⟨hP1, hD1⟩ := hB
  rw [ht] at hP1
  obtain ⟨hP, hD⟩ := va_join (wr := []) (w1 := [(q_1, .inr (6, o6 u_4 0 0 0 0)), (u_4 0, .inr (3, [.ref (u_4 1), .int 0])), (u_4 1, .inl (c 0, 800, .inl (fun _ => 0))), (u_4 2, .inr (1, [.ref (u_4 0), .int 0, .int 0, .int 0, .int 0, .int 0, .int 0, .int 0, .int 0, .ref (u_4 3), .int 0, .ref (u_4 4), .ref (u_4 5), .ref (u_4 6), .int 0, .ref (u_4 7), .int 0])), (u_4 3, .inl (c 1, 64, .inl (fun _ => 0))), (u_4 4, .inl (c 1, 40, .inl (fun _ => 0))), (u_4 5, .inl (c 1, 40, .inl (fun _ => 0))), (u_4 6, .inl (c 1, 40, .inl (fun _ => 0))), (u_4 7, .inl (c 1, 800, .inl (fun _ => 0))), (u_4 8, .inr (5, [.ref (u_4 9), .ref (u_4 10), .int 0])), (u_4 9, .inl (c 2, 10, .inr (.inl (fun _ => 0)))), (u_4 10, .inl (c 2, 64, .inr (.inl (fun _ => 0)))), (u_4 11, .inl (c 4, 10, .inr (.inr (.inr (.inr (fun _ => none)))))), (u_4 12, .inr (2, [.int 2, .int 40, .ref (u_4 13), .int 0])), (u_4 13, .inl (c 1, 32, .inl (fun _ => 0))), (u_4 14, .inl (c 2, 16, .inr (.inl (fun _ => 0)))), (u_4 15, .inl (c 3, 16, .inl (fun _ => 0))), (u_4 16, .inl (c 1, 16, .inl (fun _ => (-1)))), (u_4 17, .inl (c 1, 8, .inl (fun _ => 0))), (u_4 18, .inl (c 1, 8, .inl (fun _ => (-1)))), (u_4 19, .inr (2, [.int 7, .int 400, .ref (u_4 20), .int 0])), (u_4 20, .inl (c 1, 112, .inl (fun _ => 0))), (u_4 21, .inr (2, [.int 8, .int 4000, .ref (u_4 22), .int 0])), (u_4 22, .inl (c 1, 128, .inl (fun _ => 0))), (u_4 23, .inr (2, [.int 1, .int 2000, .ref (u_4 24), .int 0])), (u_4 24, .inl (c 1, 16, .inl (fun _ => 0))), (u_4 25, .inr (0, [.ref (u_4 26)])), (u_4 26, .inl (c 1, 6, .inl (fun _ => 0)))]) hP hD [0] [] rfl rfl (by decide) (by decide) hk1 hFc hP1 hD1
  have hP : va_P D vwCl [(q_1, .inr (6, o6 u_4 0 0 0 0)), (u_4 0, .inr (3, [.ref (u_4 1), .int 0])), (u_4 1, .inl (c 0, 800, .inl (fun _ => 0))), (u_4 2, .inr (1, [.ref (u_4 0), .int 0, .int 0, .int 0, .int 0, .int 0, .int 0, .int 0, .int 0, .ref (u_4 3), .int 0, .ref (u_4 4), .ref (u_4 5), .ref (u_4 6), .int 0, .ref (u_4 7), .int 0])), (u_4 3, .inl (c 1, 64, .inl (fun _ => 0))), (u_4 4, .inl (c 1, 40, .inl (fun _ => 0))), (u_4 5, .inl (c 1, 40, .inl (fun _ => 0))), (u_4 6, .inl (c 1, 40, .inl (fun _ => 0))), (u_4 7, .inl (c 1, 800, .inl (fun _ => 0))), (u_4 8, .inr (5, [.ref (u_4 9), .ref (u_4 10), .int 0])), (u_4 9, .inl (c 2, 10, .inr (.inl (fun _ => 0)))), (u_4 10, .inl (c 2, 64, .inr (.inl (fun _ => 0)))), (u_4 11, .inl (c 4, 10, .inr (.inr (.inr (.inr (fun _ => none)))))), (u_4 12, .inr (2, [.int 2, .int 40, .ref (u_4 13), .int 0])), (u_4 13, .inl (c 1, 32, .inl (fun _ => 0))), (u_4 14, .inl (c 2, 16, .inr (.inl (fun _ => 0)))), (u_4 15, .inl (c 3, 16, .inl (fun _ => 0))), (u_4 16, .inl (c 1, 16, .inl (fun _ => (-1)))), (u_4 17, .inl (c 1, 8, .inl (fun _ => 0))), (u_4 18, .inl (c 1, 8, .inl (fun _ => (-1)))), (u_4 19, .inr (2, [.int 7, .int 400, .ref (u_4 20), .int 0])), (u_4 20, .inl (c 1, 112, .inl (fun _ => 0))), (u_4 21, .inr (2, [.int 8, .int 4000, .ref (u_4 22), .int 0])), (u_4 22, .inl (c 1, 128, .inl (fun _ => 0))), (u_4 23, .inr (2, [.int 1, .int 2000, .ref (u_4 24), .int 0])), (u_4 24, .inl (c 1, 16, .inl (fun _ => 0))), (u_4 25, .inr (0, [.ref (u_4 26)])), (u_4 26, .inl (c 1, 6, .inl (fun _ => 0)))] H := hP
  have hD : va_D A [(q_1, .inr (6, o6 u_4 0 0 0 0)), (u_4 0, .inr (3, [.ref (u_4 1), .int 0])), (u_4 1, .inl (c 0, 800, .inl (fun _ => 0))), (u_4 2, .inr (1, [.ref (u_4 0), .int 0, .int 0, .int 0, .int 0, .int 0, .int 0, .int 0, .int 0, .ref (u_4 3), .int 0, .ref (u_4 4), .ref (u_4 5), .ref (u_4 6), .int 0, .ref (u_4 7), .int 0])), (u_4 3, .inl (c 1, 64, .inl (fun _ => 0))), (u_4 4, .inl (c 1, 40, .inl (fun _ => 0))), (u_4 5, .inl (c 1, 40, .inl (fun _ => 0))), (u_4 6, .inl (c 1, 40, .inl (fun _ => 0))), (u_4 7, .inl (c 1, 800, .inl (fun _ => 0))), (u_4 8, .inr (5, [.ref (u_4 9), .ref (u_4 10), .int 0])), (u_4 9, .inl (c 2, 10, .inr (.inl (fun _ => 0)))), (u_4 10, .inl (c 2, 64, .inr (.inl (fun _ => 0)))), (u_4 11, .inl (c 4, 10, .inr (.inr (.inr (.inr (fun _ => none)))))), (u_4 12, .inr (2, [.int 2, .int 40, .ref (u_4 13), .int 0])), (u_4 13, .inl (c 1, 32, .inl (fun _ => 0))), (u_4 14, .inl (c 2, 16, .inr (.inl (fun _ => 0)))), (u_4 15, .inl (c 3, 16, .inl (fun _ => 0))), (u_4 16, .inl (c 1, 16, .inl (fun _ => (-1)))), (u_4 17, .inl (c 1, 8, .inl (fun _ => 0))), (u_4 18, .inl (c 1, 8, .inl (fun _ => (-1)))), (u_4 19, .inr (2, [.int 7, .int 400, .ref (u_4 20), .int 0])), (u_4 20, .inl (c 1, 112, .inl (fun _ => 0))), (u_4 21, .inr (2, [.int 8, .int 4000, .ref (u_4 22), .int 0])), (u_4 22, .inl (c 1, 128, .inl (fun _ => 0))), (u_4 23, .inr (2, [.int 1, .int 2000, .ref (u_4 24), .int 0])), (u_4 24, .inl (c 1, 16, .inl (fun _ => 0))), (u_4 25, .inr (0, [.ref (u_4 26)])), (u_4 26, .inl (c 1, 6, .inl (fun _ => 0)))] := hD
  refine W.widen (k := 28) (n := 2283) (by omega) (by omega) ?_
  refine lv_astore_n (lv' := [(1, .ref q_1), (0, .ref b)]) hx hb dL_law_7 rfl hl (by decide) rfl (fun ls hl => ?_)
  refine va_new (ci := 7) (fs := [.int 0, .null, .int 0, .int 0, .int 0, .int 0, .int 0, .int 0, .int 0, .null, .null, .null, .null, .null, .null, .null, .int 0, .int 0, .null, .int 0, .int 0, .int 0, .null, .null, .int 0, .null, .null, .int 0, .null, .null, .null, .null, .null, .null, .null, .null, .null, .null, .long 0, .long 0, .null, .int 0, .int 0, .null, .null, .null, .null, .null, .null, .null, .null, .null, .int 0, .null, .null, .null]) (C := RX7) (T := TX7) (N := 56) hx hb hts inlX7 tyX7 tyX7_ok hown (hts (.classLink RL 10 RX7) (mem_i 3 rfl)) (hts (.instantiable RX7 56) (mem_i 4 rfl)) (hts (.initialized RX7) (mem_i 5 rfl)) hK hP hD hS hA rfl (fun j hj => by rcases (show j = 0 ∨ j = 1 ∨ j = 2 ∨ j = 3 ∨ j = 4 ∨ j = 5 ∨ j = 6 ∨ j = 7 ∨ j = 8 ∨ j = 9 ∨ j = 10 ∨ j = 11 ∨ j = 12 ∨ j = 13 ∨ j = 14 ∨ j = 15 ∨ j = 16 ∨ j = 17 ∨ j = 18 ∨ j = 19 ∨ j = 20 ∨ j = 21 ∨ j = 22 ∨ j = 23 ∨ j = 24 ∨ j = 25 ∨ j = 26 ∨ j = 27 ∨ j = 28 ∨ j = 29 ∨ j = 30 ∨ j = 31 ∨ j = 32 ∨ j = 33 ∨ j = 34 ∨ j = 35 ∨ j = 36 ∨ j = 37 ∨ j = 38 ∨ j = 39 ∨ j = 40 ∨ j = 41 ∨ j = 42 ∨ j = 43 ∨ j = 44 ∨ j = 45 ∨ j = 46 ∨ j = 47 ∨ j = 48 ∨ j = 49 ∨ j = 50 ∨ j = 51 ∨ j = 52 ∨ j = 53 ∨ j = 54 ∨ j = 55 by omega) with rfl | rfl | rfl | rfl | rfl | rfl | rfl | rfl | rfl | rfl | rfl | rfl | rfl | rfl | rfl | rfl | rfl | rfl | rfl | rfl | rfl | rfl | rfl | rfl | rfl | rfl | rfl | rfl | rfl | rfl | rfl | rfl | rfl | rfl | rfl | rfl | rfl | rfl | rfl | rfl | rfl | rfl | rfl | rfl | rfl | rfl | rfl | rfl | rfl | rfl | rfl | rfl | rfl | rfl | rfl | rfl <;> rfl) (show 28 + 1 ≤ 600000 by decide) (show 2283 + 56 ≤ 7302249 by decide) dL_law_8 (fun q_5 H hP hD hS => ?_)
  have hP : va_P D vwCl [(q_1, .inr (6, o6 u_4 0 0 0 0)), (u_4 0, .inr (3, [.ref (u_4 1), .int 0])), (u_4 1, .inl (c 0, 800, .inl (fun _ => 0))), (u_4 2, .inr (1, [.ref (u_4 0), .int 0, .int 0, .int 0, .int 0, .int 0, .int 0, .int 0, .int 0, .ref (u_4 3), .int 0, .ref (u_4 4), .ref (u_4 5), .ref (u_4 6), .int 0, .ref (u_4 7), .int 0])), (u_4 3, .inl (c 1, 64, .inl (fun _ => 0))), (u_4 4, .inl (c 1, 40, .inl (fun _ => 0))), (u_4 5, .inl (c 1, 40, .inl (fun _ => 0))), (u_4 6, .inl (c 1, 40, .inl (fun _ => 0))), (u_4 7, .inl (c 1, 800, .inl (fun _ => 0))), (u_4 8, .inr (5, [.ref (u_4 9), .ref (u_4 10), .int 0])), (u_4 9, .inl (c 2, 10, .inr (.inl (fun _ => 0)))), (u_4 10, .inl (c 2, 64, .inr (.inl (fun _ => 0)))), (u_4 11, .inl (c 4, 10, .inr (.inr (.inr (.inr (fun _ => none)))))), (u_4 12, .inr (2, [.int 2, .int 40, .ref (u_4 13), .int 0])), (u_4 13, .inl (c 1, 32, .inl (fun _ => 0))), (u_4 14, .inl (c 2, 16, .inr (.inl (fun _ => 0)))), (u_4 15, .inl (c 3, 16, .inl (fun _ => 0))), (u_4 16, .inl (c 1, 16, .inl (fun _ => (-1)))), (u_4 17, .inl (c 1, 8, .inl (fun _ => 0))), (u_4 18, .inl (c 1, 8, .inl (fun _ => (-1)))), (u_4 19, .inr (2, [.int 7, .int 400, .ref (u_4 20), .int 0])), (u_4 20, .inl (c 1, 112, .inl (fun _ => 0))), (u_4 21, .inr (2, [.int 8, .int 4000, .ref (u_4 22), .int 0])), (u_4 22, .inl (c 1, 128, .inl (fun _ => 0))), (u_4 23, .inr (2, [.int 1, .int 2000, .ref (u_4 24), .int 0])), (u_4 24, .inl (c 1, 16, .inl (fun _ => 0))), (u_4 25, .inr (0, [.ref (u_4 26)])), (u_4 26, .inl (c 1, 6, .inl (fun _ => 0))), (q_5, .inr (7, [.int 0, .null, .int 0, .int 0, .int 0, .int 0, .int 0, .int 0, .int 0, .null, .null, .null, .null, .null, .null, .null, .int 0, .int 0, .null, .int 0, .int 0, .int 0, .null, .null, .int 0, .null, .null, .int 0, .null, .null, .null, .null, .null, .null, .null, .null, .null, .null, .long 0, .long 0, .null, .int 0, .int 0, .null, .null, .null, .null, .null, .null, .null, .null, .null, .int 0, .null, .null, .null]))] H := hP
  have hD : va_D A [(q_1, .inr (6, o6 u_4 0 0 0 0)), (u_4 0, .inr (3, [.ref (u_4 1), .int 0])), (u_4 1, .inl (c 0, 800, .inl (fun _ => 0))), (u_4 2, .inr (1, [.ref (u_4 0), .int 0, .int 0, .int 0, .int 0, .int 0, .int 0, .int 0, .int 0, .ref (u_4 3), .int 0, .ref (u_4 4), .ref (u_4 5), .ref (u_4 6), .int 0, .ref (u_4 7), .int 0])), (u_4 3, .inl (c 1, 64, .inl (fun _ => 0))), (u_4 4, .inl (c 1, 40, .inl (fun _ => 0))), (u_4 5, .inl (c 1, 40, .inl (fun _ => 0))), (u_4 6, .inl (c 1, 40, .inl (fun _ => 0))), (u_4 7, .inl (c 1, 800, .inl (fun _ => 0))), (u_4 8, .inr (5, [.ref (u_4 9), .ref (u_4 10), .int 0])), (u_4 9, .inl (c 2, 10, .inr (.inl (fun _ => 0)))), (u_4 10, .inl (c 2, 64, .inr (.inl (fun _ => 0)))), (u_4 11, .inl (c 4, 10, .inr (.inr (.inr (.inr (fun _ => none)))))), (u_4 12, .inr (2, [.int 2, .int 40, .ref (u_4 13), .int 0])), (u_4 13, .inl (c 1, 32, .inl (fun _ => 0))), (u_4 14, .inl (c 2, 16, .inr (.inl (fun _ => 0)))), (u_4 15, .inl (c 3, 16, .inl (fun _ => 0))), (u_4 16, .inl (c 1, 16, .inl (fun _ => (-1)))), (u_4 17, .inl (c 1, 8, .inl (fun _ => 0))), (u_4 18, .inl (c 1, 8, .inl (fun _ => (-1)))), (u_4 19, .inr (2, [.int 7, .int 400, .ref (u_4 20), .int 0])), (u_4 20, .inl (c 1, 112, .inl (fun _ => 0))), (u_4 21, .inr (2, [.int 8, .int 4000, .ref (u_4 22), .int 0])), (u_4 22, .inl (c 1, 128, .inl (fun _ => 0))), (u_4 23, .inr (2, [.int 1, .int 2000, .ref (u_4 24), .int 0])), (u_4 24, .inl (c 1, 16, .inl (fun _ => 0))), (u_4 25, .inr (0, [.ref (u_4 26)])), (u_4 26, .inl (c 1, 6, .inl (fun _ => 0))), (q_5, .inr (7, [.int 0, .null, .int 0, .int 0, .int 0, .int 0, .int 0, .int 0, .int 0, .null, .null, .null, .null, .null, .null, .null, .int 0, .int 0, .null, .int 0, .int 0, .int 0, .null, .null, .int 0, .null, .null, .int 0, .null, .null, .null, .null, .null, .null, .null, .null, .null, .null, .long 0, .long 0, .null, .int 0, .int 0, .null, .null, .null, .null, .null, .null, .null, .null, .null, .int 0, .null, .null, .null]))] := hD
  refine W.widen (k := 29) (n := 2339) (by omega) (by omega) ?_
  refine lv_dup hx hb dL_law_11 rfl ?_
  have hPc := hP.sub (ws' := [(q_5, .inr (7, [.int 0, .null, .int 0, .int 0, .int 0, .int 0, .int 0, .int 0, .int 0, .null, .null, .null, .null, .null, .null, .null, .int 0, .int 0, .null, .int 0, .int 0, .int 0, .null, .null, .int 0, .null, .null, .int 0, .null, .null, .null, .null, .null, .null, .null, .null, .null, .null, .long 0, .long 0, .null, .int 0, .int 0, .null, .null, .null, .null, .null, .null, .null, .null, .null, .int 0, .null, .null, .null]))]) [28] rfl
  have hDc := hD.sub (ws' := [(q_5, .inr (7, [.int 0, .null, .int 0, .int 0, .int 0, .int 0, .int 0, .int 0, .int 0, .null, .null, .null, .null, .null, .null, .null, .int 0, .int 0, .null, .int 0, .int 0, .int 0, .null, .null, .int 0, .null, .null, .int 0, .null, .null, .null, .null, .null, .null, .null, .null, .null, .null, .long 0, .long 0, .null, .int 0, .int 0, .null, .null, .null, .null, .null, .null, .null, .null, .null, .int 0, .null, .null, .null]))]) [28] (by decide) rfl
  have hFc := va_free (wc := [(q_5, .inr (7, [.int 0, .null, .int 0, .int 0, .int 0, .int 0, .int 0, .int 0, .int 0, .null, .null, .null, .null, .null, .null, .null, .int 0, .int 0, .null, .int 0, .int 0, .int 0, .null, .null, .int 0, .null, .null, .int 0, .null, .null, .null, .null, .null, .null, .null, .null, .null, .null, .long 0, .long 0, .null, .int 0, .int 0, .null, .null, .null, .null, .null, .null, .null, .null, .null, .int 0, .null, .null, .null]))]) hD hS hA [28] rfl
  refine va_callv (va_runI (As := []) (rest := [.ref q_5]) ⟨hx, hb, hml, hown, hts⟩ (c_X7_init l D c ts H.size q_5) (cwI 0 hts gL_law_X7_init rfl rfl rfl (hts (.initialized RX7) (mem_i 5 rfl)) (hts (.methodLink RL 12 yX7_init) (mem_i 82 rfl)) (hts (.instanceMethod yX7_init) (mem_i 83 rfl)) rfl hdX7_init ⟨(show 1 + 1 ≤ 12 by decide), (show 8 + (1 + 11) + 12 ≤ 436 by decide)⟩) ⟨Pre0.blind, Pre0.at hPc hDc hAm hSt hS hFc⟩ rfl rfl hl.1 rfl (lv_room (Nat.le_of_ble_eq_true rfl)) dL_law_12 ⟨(show 29 + 36 ≤ 600000 by decide), (show 2339 + 62360 ≤ 7302249 by decide)⟩) hS (fun q _ h => hFc q h) hFc (fun u_8 t1 H locs ht hvm hw_6 hB hz1 hk1 hS => ?_)
  obtain ⟨hP1, hD1⟩ := hB
  rw [ht] at hP1
  obtain ⟨hP, hD⟩ := va_join (wr := [(q_1, .inr (6, o6 u_4 0 0 0 0)), (u_4 0, .inr (3, [.ref (u_4 1), .int 0])), (u_4 1, .inl (c 0, 800, .inl (fun _ => 0))), (u_4 2, .inr (1, [.ref (u_4 0), .int 0, .int 0, .int 0, .int 0, .int 0, .int 0, .int 0, .int 0, .ref (u_4 3), .int 0, .ref (u_4 4), .ref (u_4 5), .ref (u_4 6), .int 0, .ref (u_4 7), .int 0])), (u_4 3, .inl (c 1, 64, .inl (fun _ => 0))), (u_4 4, .inl (c 1, 40, .inl (fun _ => 0))), (u_4 5, .inl (c 1, 40, .inl (fun _ => 0))), (u_4 6, .inl (c 1, 40, .inl (fun _ => 0))), (u_4 7, .inl (c 1, 800, .inl (fun _ => 0))), (u_4 8, .inr (5, [.ref (u_4 9), .ref (u_4 10), .int 0])), (u_4 9, .inl (c 2, 10, .inr (.inl (fun _ => 0)))), (u_4 10, .inl (c 2, 64, .inr (.inl (fun _ => 0)))), (u_4 11, .inl (c 4, 10, .inr (.inr (.inr (.inr (fun _ => none)))))), (u_4 12, .inr (2, [.int 2, .int 40, .ref (u_4 13), .int 0])), (u_4 13, .inl (c 1, 32, .inl (fun _ => 0))), (u_4 14, .inl (c 2, 16, .inr (.inl (fun _ => 0)))), (u_4 15, .inl (c 3, 16, .inl (fun _ => 0))), (u_4 16, .inl (c 1, 16, .inl (fun _ => (-1)))), (u_4 17, .inl (c 1, 8, .inl (fun _ => 0))), (u_4 18, .inl (c 1, 8, .inl (fun _ => (-1)))), (u_4 19, .inr (2, [.int 7, .int 400, .ref (u_4 20), .int 0])), (u_4 20, .inl (c 1, 112, .inl (fun _ => 0))), (u_4 21, .inr (2, [.int 8, .int 4000, .ref (u_4 22), .int 0])), (u_4 22, .inl (c 1, 128, .inl (fun _ => 0))), (u_4 23, .inr (2, [.int 1, .int 2000, .ref (u_4 24), .int 0])), (u_4 24, .inl (c 1, 16, .inl (fun _ => 0))), (u_4 25, .inr (0, [.ref (u_4 26)])), (u_4 26, .inl (c 1, 6, .inl (fun _ => 0)))]) (w1 := [(q_5, .inr (7, o7 u_8 v0 w0)), (u_8 1, .inl (c 0, 800, .inl (fun _ => 0))), (u_8 9, .inl (c 1, 10, .inl (fun _ => 0))), (u_8 10, .inl (c 1, 400, .inl (fun _ => 0))), (u_8 11, .inl (c 1, 400, .inl (fun _ => 0))), (u_8 12, .inl (c 1, 400, .inl (fun _ => 0))), (u_8 13, .inl (c 1, 400, .inl (fun _ => 0))), (u_8 14, .inl (c 1, 9000, .inl (fun _ => 0))), (u_8 15, .inl (c 1, 9000, .inl (fun _ => 0))), (u_8 18, .inl (c 1, 200, .inl (fun _ => 0))), (u_8 22, .inl (c 1, 40, .inl (fun _ => 0))), (u_8 23, .inl (c 1, 40, .inl (fun _ => 0))), (u_8 25, .inl (c 1, 8, .inl (fun _ => 0))), (u_8 26, .inl (c 1, 8, .inl (fun _ => (-1)))), (u_8 28, .inl (c 1, 400, .inl (fun _ => 0))), (u_8 29, .inl (c 1, 400, .inl (fun _ => 0))), (u_8 30, .inl (c 1, 400, .inl (fun _ => 0))), (u_8 31, .inl (c 1, 400, .inl (fun _ => 0))), (u_8 32, .inl (c 1, 400, .inl (fun _ => 0))), (u_8 33, .inl (c 1, 400, .inl (fun _ => 0))), (u_8 34, .inl (c 1, 400, .inl (fun _ => 0))), (u_8 35, .inl (c 2, 16, .inr (.inl (fun _ => 0)))), (u_8 36, .inl (c 3, 16, .inl (fun _ => 0))), (u_8 37, .inl (c 1, 16, .inl (fun _ => (-1)))), (u_8 40, .inl (c 2, 400, .inr (.inl (fun _ => 0)))), (u_8 43, .inl (c 1, 4000, .inl (fun _ => 0))), (u_8 44, .inl (c 1, 4000, .inl (fun _ => 0))), (u_8 45, .inl (c 1, 4000, .inl (fun _ => 0))), (u_8 46, .inl (c 1, 4000, .inl (fun _ => 0))), (u_8 47, .inl (c 1, 4000, .inl (fun _ => 0))), (u_8 48, .inl (c 1, 4000, .inl (fun _ => 0))), (u_8 49, .inl (c 1, 4000, .inl (fun _ => 0))), (u_8 50, .inl (c 1, 4000, .inl (fun _ => 0))), (u_8 51, .inl (c 1, 4000, .inl (fun _ => 0))), (u_8 53, .inl (c 1, 2000, .inl (fun _ => 0))), (u_8 54, .inl (c 3, 400, .inl (fun _ => 0))), (u_8 55, .inl (c 1, 6, .inl (fun _ => 0)))]) hP hD [28] [0, 1, 2, 3, 4, 5, 6, 7, 8, 9, 10, 11, 12, 13, 14, 15, 16, 17, 18, 19, 20, 21, 22, 23, 24, 25, 26, 27] rfl rfl (by decide) (by decide) hk1 hFc hP1 hD1
  have hP : va_P D vwCl [(q_1, .inr (6, o6 u_4 0 0 0 0)), (u_4 0, .inr (3, [.ref (u_4 1), .int 0])), (u_4 1, .inl (c 0, 800, .inl (fun _ => 0))), (u_4 2, .inr (1, [.ref (u_4 0), .int 0, .int 0, .int 0, .int 0, .int 0, .int 0, .int 0, .int 0, .ref (u_4 3), .int 0, .ref (u_4 4), .ref (u_4 5), .ref (u_4 6), .int 0, .ref (u_4 7), .int 0])), (u_4 3, .inl (c 1, 64, .inl (fun _ => 0))), (u_4 4, .inl (c 1, 40, .inl (fun _ => 0))), (u_4 5, .inl (c 1, 40, .inl (fun _ => 0))), (u_4 6, .inl (c 1, 40, .inl (fun _ => 0))), (u_4 7, .inl (c 1, 800, .inl (fun _ => 0))), (u_4 8, .inr (5, [.ref (u_4 9), .ref (u_4 10), .int 0])), (u_4 9, .inl (c 2, 10, .inr (.inl (fun _ => 0)))), (u_4 10, .inl (c 2, 64, .inr (.inl (fun _ => 0)))), (u_4 11, .inl (c 4, 10, .inr (.inr (.inr (.inr (fun _ => none)))))), (u_4 12, .inr (2, [.int 2, .int 40, .ref (u_4 13), .int 0])), (u_4 13, .inl (c 1, 32, .inl (fun _ => 0))), (u_4 14, .inl (c 2, 16, .inr (.inl (fun _ => 0)))), (u_4 15, .inl (c 3, 16, .inl (fun _ => 0))), (u_4 16, .inl (c 1, 16, .inl (fun _ => (-1)))), (u_4 17, .inl (c 1, 8, .inl (fun _ => 0))), (u_4 18, .inl (c 1, 8, .inl (fun _ => (-1)))), (u_4 19, .inr (2, [.int 7, .int 400, .ref (u_4 20), .int 0])), (u_4 20, .inl (c 1, 112, .inl (fun _ => 0))), (u_4 21, .inr (2, [.int 8, .int 4000, .ref (u_4 22), .int 0])), (u_4 22, .inl (c 1, 128, .inl (fun _ => 0))), (u_4 23, .inr (2, [.int 1, .int 2000, .ref (u_4 24), .int 0])), (u_4 24, .inl (c 1, 16, .inl (fun _ => 0))), (u_4 25, .inr (0, [.ref (u_4 26)])), (u_4 26, .inl (c 1, 6, .inl (fun _ => 0))), (q_5, .inr (7, o7 u_8 v0 w0)), (u_8 1, .inl (c 0, 800, .inl (fun _ => 0))), (u_8 9, .inl (c 1, 10, .inl (fun _ => 0))), (u_8 10, .inl (c 1, 400, .inl (fun _ => 0))), (u_8 11, .inl (c 1, 400, .inl (fun _ => 0))), (u_8 12, .inl (c 1, 400, .inl (fun _ => 0))), (u_8 13, .inl (c 1, 400, .inl (fun _ => 0))), (u_8 14, .inl (c 1, 9000, .inl (fun _ => 0))), (u_8 15, .inl (c 1, 9000, .inl (fun _ => 0))), (u_8 18, .inl (c 1, 200, .inl (fun _ => 0))), (u_8 22, .inl (c 1, 40, .inl (fun _ => 0))), (u_8 23, .inl (c 1, 40, .inl (fun _ => 0))), (u_8 25, .inl (c 1, 8, .inl (fun _ => 0))), (u_8 26, .inl (c 1, 8, .inl (fun _ => (-1)))), (u_8 28, .inl (c 1, 400, .inl (fun _ => 0))), (u_8 29, .inl (c 1, 400, .inl (fun _ => 0))), (u_8 30, .inl (c 1, 400, .inl (fun _ => 0))), (u_8 31, .inl (c 1, 400, .inl (fun _ => 0))), (u_8 32, .inl (c 1, 400, .inl (fun _ => 0))), (u_8 33, .inl (c 1, 400, .inl (fun _ => 0))), (u_8 34, .inl (c 1, 400, .inl (fun _ => 0))), (u_8 35, .inl (c 2, 16, .inr (.inl (fun _ => 0)))), (u_8 36, .inl (c 3, 16, .inl (fun _ => 0))), (u_8 37, .inl (c 1, 16, .inl (fun _ => (-1)))), (u_8 40, .inl (c 2, 400, .inr (.inl (fun _ => 0)))), (u_8 43, .inl (c 1, 4000, .inl (fun _ => 0))), (u_8 44, .inl (c 1, 4000, .inl (fun _ => 0))), (u_8 45, .inl (c 1, 4000, .inl (fun _ => 0))), (u_8 46, .inl (c 1, 4000, .inl (fun _ => 0))), (u_8 47, .inl (c 1, 4000, .inl (fun _ => 0))), (u_8 48, .inl (c 1, 4000, .inl (fun _ => 0))), (u_8 49, .inl (c 1, 4000, .inl (fun _ => 0))), (u_8 50, .inl (c 1, 4000, .inl (fun _ => 0))), (u_8 51, .inl (c 1, 4000, .inl (fun _ => 0))), (u_8 53, .inl (c 1, 2000, .inl (fun _ => 0))), (u_8 54, .inl (c 3, 400, .inl (fun _ => 0))), (u_8 55, .inl (c 1, 6, .inl (fun _ => 0)))] H := hP
  have hD : va_D A [(q_1, .inr (6, o6 u_4 0 0 0 0)), (u_4 0, .inr (3, [.ref (u_4 1), .int 0])), (u_4 1, .inl (c 0, 800, .inl (fun _ => 0))), (u_4 2, .inr (1, [.ref (u_4 0), .int 0, .int 0, .int 0, .int 0, .int 0, .int 0, .int 0, .int 0, .ref (u_4 3), .int 0, .ref (u_4 4), .ref (u_4 5), .ref (u_4 6), .int 0, .ref (u_4 7), .int 0])), (u_4 3, .inl (c 1, 64, .inl (fun _ => 0))), (u_4 4, .inl (c 1, 40, .inl (fun _ => 0))), (u_4 5, .inl (c 1, 40, .inl (fun _ => 0))), (u_4 6, .inl (c 1, 40, .inl (fun _ => 0))), (u_4 7, .inl (c 1, 800, .inl (fun _ => 0))), (u_4 8, .inr (5, [.ref (u_4 9), .ref (u_4 10), .int 0])), (u_4 9, .inl (c 2, 10, .inr (.inl (fun _ => 0)))), (u_4 10, .inl (c 2, 64, .inr (.inl (fun _ => 0)))), (u_4 11, .inl (c 4, 10, .inr (.inr (.inr (.inr (fun _ => none)))))), (u_4 12, .inr (2, [.int 2, .int 40, .ref (u_4 13), .int 0])), (u_4 13, .inl (c 1, 32, .inl (fun _ => 0))), (u_4 14, .inl (c 2, 16, .inr (.inl (fun _ => 0)))), (u_4 15, .inl (c 3, 16, .inl (fun _ => 0))), (u_4 16, .inl (c 1, 16, .inl (fun _ => (-1)))), (u_4 17, .inl (c 1, 8, .inl (fun _ => 0))), (u_4 18, .inl (c 1, 8, .inl (fun _ => (-1)))), (u_4 19, .inr (2, [.int 7, .int 400, .ref (u_4 20), .int 0])), (u_4 20, .inl (c 1, 112, .inl (fun _ => 0))), (u_4 21, .inr (2, [.int 8, .int 4000, .ref (u_4 22), .int 0])), (u_4 22, .inl (c 1, 128, .inl (fun _ => 0))), (u_4 23, .inr (2, [.int 1, .int 2000, .ref (u_4 24), .int 0])), (u_4 24, .inl (c 1, 16, .inl (fun _ => 0))), (u_4 25, .inr (0, [.ref (u_4 26)])), (u_4 26, .inl (c 1, 6, .inl (fun _ => 0))), (q_5, .inr (7, o7 u_8 v0 w0)), (u_8 1, .inl (c 0, 800, .inl (fun _ => 0))), (u_8 9, .inl (c 1, 10, .inl (fun _ => 0))), (u_8 10, .inl (c 1, 400, .inl (fun _ => 0))), (u_8 11, .inl (c 1, 400, .inl (fun _ => 0))), (u_8 12, .inl (c 1, 400, .inl (fun _ => 0))), (u_8 13, .inl (c 1, 400, .inl (fun _ => 0))), (u_8 14, .inl (c 1, 9000, .inl (fun _ => 0))), (u_8 15, .inl (c 1, 9000, .inl (fun _ => 0))), (u_8 18, .inl (c 1, 200, .inl (fun _ => 0))), (u_8 22, .inl (c 1, 40, .inl (fun _ => 0))), (u_8 23, .inl (c 1, 40, .inl (fun _ => 0))), (u_8 25, .inl (c 1, 8, .inl (fun _ => 0))), (u_8 26, .inl (c 1, 8, .inl (fun _ => (-1)))), (u_8 28, .inl (c 1, 400, .inl (fun _ => 0))), (u_8 29, .inl (c 1, 400, .inl (fun _ => 0))), (u_8 30, .inl (c 1, 400, .inl (fun _ => 0))), (u_8 31, .inl (c 1, 400, .inl (fun _ => 0))), (u_8 32, .inl (c 1, 400, .inl (fun _ => 0))), (u_8 33, .inl (c 1, 400, .inl (fun _ => 0))), (u_8 34, .inl (c 1, 400, .inl (fun _ => 0))), (u_8 35, .inl (c 2, 16, .inr (.inl (fun _ => 0)))), (u_8 36, .inl (c 3, 16, .inl (fun _ => 0))), (u_8 37, .inl (c 1, 16, .inl (fun _ => (-1)))), (u_8 40, .inl (c 2, 400, .inr (.inl (fun _ => 0)))), (u_8 43, .inl (c 1, 4000, .inl (fun _ => 0))), (u_8 44, .inl (c 1, 4000, .inl (fun _ => 0))), (u_8 45, .inl (c 1, 4000, .inl (fun _ => 0))), (u_8 46, .inl (c 1, 4000, .inl (fun _ => 0))), (u_8 47, .inl (c 1, 4000, .inl (fun _ => 0))), (u_8 48, .inl (c 1, 4000, .inl (fun _ => 0))), (u_8 49, .inl (c 1, 4000, .inl (fun _ => 0))), (u_8 50, .inl (c 1, 4000, .inl (fun _ => 0))), (u_8 51, .inl (c 1, 4000, .inl (fun _ => 0))), (u_8 53, .inl (c 1, 2000, .inl (fun _ => 0))), (u_8 54, .inl (c 3, 400, .inl (fun _ => 0))), (u_8 55, .inl (c 1, 6, .inl (fun _ => 0)))] := hD
  refine W.widen (k := 65) (n := 64699) (by omega) (by omega) ?_
  refine lv_astore_n (lv' := [(2, .ref q_5), (1, .ref q_1), (0, .ref b)]) hx hb dL_law_15 rfl hl (by decide) rfl (fun ls hl => ?_)
  refine lv_iconst (v := 0) hx hb dL_law_16 (by decide) ?_
  refine lv_istore_n (lv' := [(3, .int 0), (2, .ref q_5), (1, .ref q_1), (0, .ref b)]) hx hb dL_law_17 rfl hl (by decide) rfl (fun ls hl => ?_)
  rcases Nat.lt_or_ge L 6 with hlt | hge
  · skip
    refine lv_iload_n hx hb dL_law_18 rfl (lv_at hl 0 rfl) ?_
    refine lv_aload_n hx hb dL_law_19 rfl (lv_at hl 3 rfl) ?_
    refine va_slen hx hb hX hbl hbA hS dL_law_20 ?_
    refine lv_bipush (v := 6) hx hb dL_law_21 (by decide) ?_
    refine lv_isub hx hb dL_law_23 ?_
    refine lv_topi (fun x_9 ex_9 => ?_)
    have tx_9 : x_9.toInt = ((L : Int) - 6) := by rw [ex_9]; exact sub_ti (a := (L : Int)) (b := 6) (nI_toInt (by omega)) (by decide) (by omega) (by omega)
    refine iicmp_gtT (a := 0) (b := ((L : Int) - 6)) (tgt := 884) hx hb (by decide) tx_9 dL_law_24 (by decide) (by omega) ?_
    refine lv_iconst (v := 1) hx hb dL_law_884 (by decide) ?_
    refine va_forget (fun q hq => hA2 _ (hS.2.2 q hq)) ?_
    refine W.widen (k := 600000) (n := 7302249) (by omega) (by omega) ?_
    exact lw_ret hx hb hr hlocks dL_law_885
  · obtain rfl : L = 6 := by omega
    refine lv_iload_n hx hb dL_law_18 rfl (lv_at hl 0 rfl) ?_
    refine lv_aload_n hx hb dL_law_19 rfl (lv_at hl 3 rfl) ?_
    refine va_slen hx hb hX hbl hbA hS dL_law_20 ?_
    refine lk_i (y := 6) rfl ?_
    refine lv_bipush (v := 6) hx hb dL_law_21 (by decide) ?_
    refine lv_isub hx hb dL_law_23 ?_
    refine lk_i (y := 0) (by decide) ?_
    refine iicmp_gtF (a := 0) (b := 0) (tgt := 884) hx hb (by decide) (by decide) dL_law_24 (by decide) (by decide) ?_
    refine lv_aload_n hx hb dL_law_27 rfl (lv_at hl 3 rfl) ?_
    refine lv_iload_n hx hb dL_law_28 rfl (lv_at hl 0 rfl) ?_
    refine va_sld hx hb hX hbl hbA hS (vin (a := 0) (by decide) (by decide) (by decide)) dL_law_29 ?_
    refine lk_i (y := xs 0) rfl ?_
    refine lv_bipush (v := 31) hx hb dL_law_30 (by decide) ?_
    refine lv_iand hx hb dL_law_32 ?_
    obtain ⟨j, hj0, ej⟩ := pk_andE (xs 0) (m := 31) 5 rfl
    have hj : j < 32 := hj0
    refine lk_i (y := nI j) ej ?_
    by_cases k0 : j = 0
    · subst k0
      refine lv_tableIn (tgt := 144) hx hb dL_law_33 (by decide) (by decide) rfl (by decide) ?_
      exact law_case_0 (x0 := q_1) (m0 := q_5) (q6 := u_4) (q7 := u_8) C0 hA hA2 hAm hSt hP hD hS hl
    by_cases k1 : j = 1
    · subst k1
      refine lv_tableIn (tgt := 207) hx hb dL_law_33 (by decide) (by decide) rfl (by decide) ?_
      exact law_case_1 (x0 := q_1) (m0 := q_5) (q6 := u_4) (q7 := u_8) C0 hA hA2 hAm hSt hP hD hS hl
    by_cases k2 : j = 2
    · subst k2
      refine lv_tableIn (tgt := 230) hx hb dL_law_33 (by decide) (by decide) rfl (by decide) ?_
      exact law_case_2 (x0 := q_1) (m0 := q_5) (q6 := u_4) (q7 := u_8) C0 hA hA2 hAm hSt hP hD hS hl
    by_cases k3 : j = 3
    · subst k3
      refine lv_tableIn (tgt := 243) hx hb dL_law_33 (by decide) (by decide) rfl (by decide) ?_
      exact law_case_3 (x0 := q_1) (m0 := q_5) (q6 := u_4) (q7 := u_8) C0 hA hA2 hAm hSt hP hD hS hl
    by_cases k4 : j = 4
    · subst k4
      refine lv_tableIn (tgt := 266) hx hb dL_law_33 (by decide) (by decide) rfl (by decide) ?_
      exact law_case_4 (x0 := q_1) (m0 := q_5) (q6 := u_4) (q7 := u_8) C0 hA hA2 hAm hSt hP hD hS hl
    by_cases k5 : j = 5
    · subst k5
      refine lv_tableIn (tgt := 299) hx hb dL_law_33 (by decide) (by decide) rfl (by decide) ?_
      exact law_case_5 (x0 := q_1) (m0 := q_5) (q6 := u_4) (q7 := u_8) C0 hA hA2 hAm hSt hP hD hS hl
    by_cases k6 : j = 6
    · subst k6
      refine lv_tableIn (tgt := 322) hx hb dL_law_33 (by decide) (by decide) rfl (by decide) ?_
      exact law_case_6 (x0 := q_1) (m0 := q_5) (q6 := u_4) (q7 := u_8) C0 hA hA2 hAm hSt hP hD hS hl
    by_cases k7 : j = 7
    · subst k7
      refine lv_tableIn (tgt := 365) hx hb dL_law_33 (by decide) (by decide) rfl (by decide) ?_
      exact law_case_7 (x0 := q_1) (m0 := q_5) (q6 := u_4) (q7 := u_8) C0 hA hA2 hAm hSt hP hD hS hl
    by_cases k8 : j = 8
    · subst k8
      refine lv_tableIn (tgt := 408) hx hb dL_law_33 (by decide) (by decide) rfl (by decide) ?_
      exact law_case_8 (x0 := q_1) (m0 := q_5) (q6 := u_4) (q7 := u_8) C0 hA hA2 hAm hSt hP hD hS hl
    by_cases k9 : j = 9
    · subst k9
      refine lv_tableIn (tgt := 461) hx hb dL_law_33 (by decide) (by decide) rfl (by decide) ?_
      exact law_case_9 (x0 := q_1) (m0 := q_5) (q6 := u_4) (q7 := u_8) C0 hA hA2 hAm hSt hP hD hS hl
    by_cases k10 : j = 10
    · subst k10
      refine lv_tableIn (tgt := 474) hx hb dL_law_33 (by decide) (by decide) rfl (by decide) ?_
      exact law_case_10 (x0 := q_1) (m0 := q_5) (q6 := u_4) (q7 := u_8) C0 hA hA2 hAm hSt hP hD hS hl
    by_cases k11 : j = 11
    · subst k11
      refine lv_tableIn (tgt := 507) hx hb dL_law_33 (by decide) (by decide) rfl (by decide) ?_
      exact law_case_11 (x0 := q_1) (m0 := q_5) (q6 := u_4) (q7 := u_8) C0 hA hA2 hAm hSt hP hD hS hl
    by_cases k12 : j = 12
    · subst k12
      refine lv_tableIn (tgt := 530) hx hb dL_law_33 (by decide) (by decide) rfl (by decide) ?_
      exact law_case_12 (x0 := q_1) (m0 := q_5) (q6 := u_4) (q7 := u_8) C0 hA hA2 hAm hSt hP hD hS hl
    by_cases k13 : j = 13
    · subst k13
      refine lv_tableIn (tgt := 563) hx hb dL_law_33 (by decide) (by decide) rfl (by decide) ?_
      exact law_case_13 (x0 := q_1) (m0 := q_5) (q6 := u_4) (q7 := u_8) C0 hA hA2 hAm hSt hP hD hS hl
    by_cases k14 : j = 14
    · subst k14
      refine lv_tableIn (tgt := 596) hx hb dL_law_33 (by decide) (by decide) rfl (by decide) ?_
      exact law_case_14 (x0 := q_1) (m0 := q_5) (q6 := u_4) (q7 := u_8) C0 hA hA2 hAm hSt hP hD hS hl
    by_cases k15 : j = 15
    · subst k15
      refine lv_tableIn (tgt := 630) hx hb dL_law_33 (by decide) (by decide) rfl (by decide) ?_
      exact law_case_15 (x0 := q_1) (m0 := q_5) (q6 := u_4) (q7 := u_8) C0 hA hA2 hAm hSt hP hD hS hl
    by_cases k16 : j = 16
    · subst k16
      refine lv_tableIn (tgt := 663) hx hb dL_law_33 (by decide) (by decide) rfl (by decide) ?_
      exact law_case_16 (x0 := q_1) (m0 := q_5) (q6 := u_4) (q7 := u_8) C0 hA hA2 hAm hSt hP hD hS hl
    by_cases k17 : j = 17
    · subst k17
      refine lv_tableIn (tgt := 696) hx hb dL_law_33 (by decide) (by decide) rfl (by decide) ?_
      exact law_case_17 (x0 := q_1) (m0 := q_5) (q6 := u_4) (q7 := u_8) C0 hA hA2 hAm hSt hP hD hS hl
    by_cases k18 : j = 18
    · subst k18
      refine lv_tableIn (tgt := 729) hx hb dL_law_33 (by decide) (by decide) rfl (by decide) ?_
      exact law_case_18 (x0 := q_1) (m0 := q_5) (q6 := u_4) (q7 := u_8) C0 hA hA2 hAm hSt hP hD hS hl
    by_cases k19 : j = 19
    · subst k19
      refine lv_tableIn (tgt := 762) hx hb dL_law_33 (by decide) (by decide) rfl (by decide) ?_
      exact law_case_19 (x0 := q_1) (m0 := q_5) (q6 := u_4) (q7 := u_8) C0 hA hA2 hAm hSt hP hD hS hl
    by_cases k20 : j = 20
    · subst k20
      refine lv_tableIn (tgt := 785) hx hb dL_law_33 (by decide) (by decide) rfl (by decide) ?_
      exact law_case_20 (x0 := q_1) (m0 := q_5) (q6 := u_4) (q7 := u_8) C0 hA hA2 hAm hSt hP hD hS hl
    by_cases k21 : j = 21
    · subst k21
      refine lv_tableIn (tgt := 808) hx hb dL_law_33 (by decide) (by decide) rfl (by decide) ?_
      exact law_case_21 (x0 := q_1) (m0 := q_5) (q6 := u_4) (q7 := u_8) C0 hA hA2 hAm hSt hP hD hS hl
    by_cases k22 : j = 22
    · subst k22
      refine lv_tableIn (tgt := 831) hx hb dL_law_33 (by decide) (by decide) rfl (by decide) ?_
      exact law_case_22 (x0 := q_1) (m0 := q_5) (q6 := u_4) (q7 := u_8) C0 hA hA2 hAm hSt hP hD hS hl
    by_cases k23 : j = 23
    · subst k23
      refine lv_tableIn (tgt := 855) hx hb dL_law_33 (by decide) (by decide) rfl (by decide) ?_
      exact law_case_23 (x0 := q_1) (m0 := q_5) (q6 := u_4) (q7 := u_8) C0 hA hA2 hAm hSt hP hD hS hl
    refine lv_tableOut (tgt := 878) hx hb dL_law_33 (by rw [nI_toInt (by omega)]; omega) (by decide) ?_
    refine lv_iinc (v := 6) (lv' := [(3, .int 6), (2, .ref q_5), (1, .ref q_1), (0, .ref b)]) hx hb dL_law_878 hl (k := 0) rfl (by decide) (by decide) rfl (fun ls hl => ?_)
    refine lv_goto (tgt := 18) hx hb dL_law_881 (by decide) ?_
    refine lv_iload_n hx hb dL_law_18 rfl (lv_at hl 0 rfl) ?_
    refine lv_aload_n hx hb dL_law_19 rfl (lv_at hl 3 rfl) ?_
    refine va_slen hx hb hX hbl hbA hS dL_law_20 ?_
    refine lk_i (y := 6) rfl ?_
    refine lv_bipush (v := 6) hx hb dL_law_21 (by decide) ?_
    refine lv_isub hx hb dL_law_23 ?_
    refine lk_i (y := 0) (by decide) ?_
    refine iicmp_gtT (a := 6) (b := 0) (tgt := 884) hx hb (by decide) (by decide) dL_law_24 (by decide) (by decide) ?_
    refine lv_iconst (v := 1) hx hb dL_law_884 (by decide) ?_
    refine va_forget (fun q hq => hA2 _ (hS.2.2 q hq)) ?_
    refine W.widen (k := 600000) (n := 7302249) (by omega) (by omega) ?_
    exact lw_ret hx hb hr hlocks dL_law_885
