set_option maxHeartbeats 4000000 in
set_option maxRecDepth 100000 in
theorem c_X5_init (l : Launch) (D : va_G) (c : Nat → ClassId) (ts : Nat × Nat) (sz : Nat) (h0 : Nat) : Met l yX5_init wsX5_init ({ frames := 1, cells := 2, slots := 74, locals := 12 }) (va_Pc [.ref h0] (Pre0 D c ts [(h0, .inr (5, [.null, .null, .int 0]))] sz)) (va_Qv (fun (u : (Nat → Nat) × (Nat → Nat → Int32) × (Nat → Nat → Int64)) => True) (fun u t => va_P D vwCl [(h0, .inr (5, [.ref ((u.1 0)), .ref ((u.1 1)), .int 0])), ((u.1 0), .inl (c 2, 10, .inr (.inl (fun _ => 0)))), ((u.1 1), .inl (c 2, 64, .inr (.inl (fun _ => 0))))] t.heap ∧ va_D (va_A [(h0, .inr (5, [.null, .null, .int 0]))] sz) [(h0, .inr (5, [.ref ((u.1 0)), .ref ((u.1 1)), .int 0])), ((u.1 0), .inl (c 2, 10, .inr (.inl (fun _ => 0)))), ((u.1 1), .inl (c 2, 64, .inr (.inl (fun _ => 0))))]) (va_A [(h0, .inr (5, [.null, .null, .int 0]))] sz)) 2 74 (va_A [(h0, .inr (5, [.null, .null, .int 0]))] sz) := by
  refine Met.ofW (cc := cX5_init) (maxL := 1) (ret := none) (by decide) rfl ?_
  intro p e s m args below meth cd s₁ B hml hv
  obtain ⟨rfl, hsz, hP, hD0, hAm, hSt⟩ := hv
  have hx := B.exec
  have hb := B.bytes
  have hr := B.returns
  have hts := atoms_spec (ws := wsX5_init) B.pre
  have hown : s.vm.findClass RX5 = some m.cls := findClass_of_methodNamed B.named
  have hlocks := B.notSynchronized
  have hin : meth.name = "<init>" := (name_of_methodNamed B.named B.method).1
  subst hsz
  have hK := hAm.1
  have hD := hD0.self (sz := s.heap.size)
  generalize hAe : va_A [(h0, .inr (5, [.null, .null, .int 0]))] s.heap.size = A at hD hSt ⊢
  have hA : ∀ q : Nat, s.heap.size ≤ q → A q := fun q h => by rw [← hAe]; exact Or.inr h
  have hS : va_S A s.heap s.heap [] := va_S.rf
  clear hD0 hAe
  have hl := lv_entry ([.ref h0]) (n := 1) (Nat.le_of_ble_eq_true rfl)
  rw [lg_entry_eq]
  generalize (lg_sl ([.ref h0]) ++ List.replicate (1 - (lg_sl ([.ref h0])).length) Slot.unset).toArray = ls at hl ⊢
  have hl : lv_has ls 1 [(0, .ref h0)] := hl
  refine lv_aload_n hx hb dX5_init_0 rfl (lv_at hl 0 rfl) ?_
  refine W.objInit hx hb hown (hts (.methodLink RX5 3 objectInit) (mem_i 1 rfl)) (hts (.instanceMethod objectInit) (mem_i 2 rfl)) (hts (.code objectInit ⟨#[0xb1]⟩ 1 none) (mem_i 3 rfl)) rfl (by rw [hml]; exact hl.1) rfl dX5_init_1 (Nat.le_of_ble_eq_true rfl) (Nat.le_of_ble_eq_true rfl) ?_
  refine W.eq (g2 := F0 m 4 ls []) rfl ?_
  refine lv_aload_n hx hb dX5_init_4 rfl (lv_at hl 0 rfl) ?_
  refine lv_bipush (v := 10) hx hb dX5_init_5 (by decide) ?_
  refine va_newa (atype := .long) (ty := .long) (N' := 10) (a0 := (10, .inr (.inl (fun _ => 0)))) hx hb (hts (.arrayClass .long) (mem_i 4 rfl)) rfl hK hP hD hS hA (fun cA => vp_cell_l cA 10 (fun _ => 0)) (by decide) (by decide +kernel) (by decide +kernel) (show 0 + 1 ≤ 2 by decide) (show 0 + 10 ≤ 74 by decide) dX5_init_7 (fun q_1 cq_1 H hK1 hP hD hS => ?_)
  obtain rfl : cq_1 = c 2 := nk_id hK1 2 rfl
  have hP : va_P D vwCl [(h0, .inr (5, [.null, .null, .int 0])), (q_1, .inl (c 2, 10, .inr (.inl (fun _ => 0))))] H := hP
  have hD : va_D A [(h0, .inr (5, [.null, .null, .int 0])), (q_1, .inl (c 2, 10, .inr (.inl (fun _ => 0))))] := hD
  refine W.widen (k := 1) (n := 10) (by omega) (by omega) ?_
  refine va_putF (D := D) (ci := 5) (v := .ref q_1) (ty := (.array .long)) (C := RX5) (T := TX5) (N := 3) hx hb hts (fun _ h => List.mem_cons_of_mem _ (List.mem_append_right _ h)) tyX5 tyX5_ok nmX5 hown hK hP hD hS 0 rfl rfl 0 (by decide) (hts (.fieldLink RX5 9 "CrownTable$Weigher" "facts" "[J") (mem_i 5 rfl)) (fun _ h9 => h9) rfl hin rfl (by decide +kernel) rfl rfl (Nat.le_of_ble_eq_true rfl) dX5_init_9 (fun H locs hP hD hS => ?_)
  have hP : va_P D vwCl [(h0, .inr (5, [.ref q_1, .null, .int 0])), (q_1, .inl (c 2, 10, .inr (.inl (fun _ => 0))))] H := hP
  have hD : va_D A [(h0, .inr (5, [.ref q_1, .null, .int 0])), (q_1, .inl (c 2, 10, .inr (.inl (fun _ => 0))))] := hD
  refine lv_aload_n hx hb dX5_init_12 rfl (lv_at hl 0 rfl) ?_
  refine lv_bipush (v := 64) hx hb dX5_init_13 (by decide) ?_
  refine va_newa (atype := .long) (ty := .long) (N' := 64) (a0 := (64, .inr (.inl (fun _ => 0)))) hx hb (hts (.arrayClass .long) (mem_i 4 rfl)) rfl hK hP hD hS hA (fun cA => vp_cell_l cA 64 (fun _ => 0)) (by decide) (by decide +kernel) (by decide +kernel) (show 1 + 1 ≤ 2 by decide) (show 10 + 64 ≤ 74 by decide) dX5_init_15 (fun q_2 cq_2 H hK1 hP hD hS => ?_)
  obtain rfl : cq_2 = c 2 := nk_id hK1 2 rfl
  have hP : va_P D vwCl [(h0, .inr (5, [.ref q_1, .null, .int 0])), (q_1, .inl (c 2, 10, .inr (.inl (fun _ => 0)))), (q_2, .inl (c 2, 64, .inr (.inl (fun _ => 0))))] H := hP
  have hD : va_D A [(h0, .inr (5, [.ref q_1, .null, .int 0])), (q_1, .inl (c 2, 10, .inr (.inl (fun _ => 0)))), (q_2, .inl (c 2, 64, .inr (.inl (fun _ => 0))))] := hD
  refine W.widen (k := 2) (n := 74) (by omega) (by omega) ?_
  refine va_putF (D := D) (ci := 5) (v := .ref q_2) (ty := (.array .long)) (C := RX5) (T := TX5) (N := 3) hx hb hts (fun _ h => List.mem_cons_of_mem _ (List.mem_append_right _ h)) tyX5 tyX5_ok nmX5 hown hK hP hD hS 0 rfl rfl 1 (by decide) (hts (.fieldLink RX5 15 "CrownTable$Weigher" "pile" "[J") (mem_i 6 rfl)) (fun _ h9 => h9) rfl hin rfl (by decide +kernel) rfl rfl (Nat.le_of_ble_eq_true rfl) dX5_init_17 (fun H locs hP hD hS => ?_)
  have hP : va_P D vwCl [(h0, .inr (5, [.ref q_1, .ref q_2, .int 0])), (q_1, .inl (c 2, 10, .inr (.inl (fun _ => 0)))), (q_2, .inl (c 2, 64, .inr (.inl (fun _ => 0))))] H := hP
  have hD : va_D A [(h0, .inr (5, [.ref q_1, .ref q_2, .int 0])), (q_1, .inl (c 2, 10, .inr (.inl (fun _ => 0)))), (q_2, .inl (c 2, 64, .inr (.inl (fun _ => 0))))] := hD
  have hP9 := hP.sub (ws' := [(h0, .inr (5, [.ref q_1, .ref q_2, .int 0])), (q_1, .inl (c 2, 10, .inr (.inl (fun _ => 0)))), (q_2, .inl (c 2, 64, .inr (.inl (fun _ => 0))))]) [0, 1, 2] rfl
  have hD9 := hD.sub (ws' := [(h0, .inr (5, [.ref q_1, .ref q_2, .int 0])), (q_1, .inl (c 2, 10, .inr (.inl (fun _ => 0)))), (q_2, .inl (c 2, 64, .inr (.inl (fun _ => 0))))]) [0, 1, 2] (by decide) rfl
  refine W.widen (k := 2) (n := 74) (by omega) (by omega) ?_
  exact W.vret hx hb hr (fun t ht hW => ⟨⟨(fun k => [q_1, q_2].getD k 0, fun k => [].getD k (fun _ => 0), fun k => [].getD k (fun _ => 0)), rfl, trivial, ⟨by rw [ht]; exact hP9, hD9⟩⟩, hS.F ht⟩) hS.2.2 dX5_init_20
