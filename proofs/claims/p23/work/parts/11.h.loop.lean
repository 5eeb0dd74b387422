set_option maxHeartbeats 4000000 in
set_option maxRecDepth 100000 in
theorem law_loop {p : Program} {l : Launch} {e : Env} {s : State} {m : MethodId} {below : List Frame} {meth : Method} {cd : Code} {D : va_G} {c : Nat → ClassId} {ts : Nat × Nat} {b L : Nat} {xs : Nat → Int32} {A : Nat → Prop} (C0 : lw_At p s m meth cd b L xs) (hA : ∀ q : Nat, s.heap.size ≤ q → A q) (hA2 : ∀ q : Nat, A q → s.heap.size ≤ q) (hAm : Amb D c s) (hSt : Stt ts A s s.heap) (hL : L ≤ 3072) {x0 m0 : Nat} : ∀ (N : Nat) (kc : Nat), kc ≤ 512 → 513 - kc = N → ∀ (i : Int32) (n : Nat) (H : Heap) (locs : List Loc) (ls : Array Slot), i.toInt = 6 * (kc : Int) → LI D c A x0 m0 kc n H → va_S A s.heap H locs → lv_has ls 4 [(3, .int i), (2, .ref m0), (1, .ref x0), (0, .ref b)] → W p l e room_1 s m #[Value.ref b] below meth cd H locs (CE9 + 900 * kc) (SL9 + 11300 * kc + 2 * n) (lw_Z below #[Value.ref b] s) (F0 m 18 ls []) := by
  obtain ⟨hx, hb, hr, hml, hown0, hts0, hX, hbl, hlocks, hgv⟩ := id C0
  have hown : s.vm.findClass RL = some m.cls := hown0
  have hts : ∀ w ∈ wsL_law, w.before #[Value.ref b] s = true := fun w h => hts0 w (wsL_law_in w h)
  have hK := hAm.1
  have hbA : ¬ A b := fun h => absurd (hA2 _ h) (Nat.not_le.mpr hbl)
  refine st_ind (fun N ihN => ?_)
  intro kc hkc hN i n H locs ls hi hI hS hl
  refine lv_iload_n hx hb dL_law_18 rfl (lv_at hl 0 rfl) ?_
  refine lv_aload_n hx hb dL_law_19 rfl (lv_at hl 3 rfl) ?_
  refine va_slen hx hb hX hbl hbA hS dL_law_20 ?_
  refine lv_bipush (v := 6) hx hb dL_law_21 (by decide) ?_
  refine lv_isub hx hb dL_law_23 ?_
  refine lv_topi (fun d9 ed9 => ?_)
  have td9 : d9.toInt = (L : Int) - 6 := by rw [ed9]; exact sub_ti (a := (L : Int)) (b := 6) (nI_toInt (by omega)) (by decide) (by omega) (by omega)
  refine iicmp_gt (a := i.toInt) (b := (L : Int) - 6) (tgt := 882) hx hb rfl td9 dL_law_24 (by decide) (fun hg => ?_) (fun hg => ?_)
  · skip
    refine lv_iconst (v := 1) hx hb dL_law_882 (by decide) ?_
    refine va_forget (fun q hq => hA2 _ (hS.2.2 q hq)) ?_
    have h9 := LI.nr hI
    refine W.widen (k := 600000) (n := 7302250) (by unfold CE9; omega) (by unfold SL9; omega) ?_
    exact lw_ret hx hb hr hlocks dL_law_883
  · have hk : kc ≤ 511 := by omega
    have ih := ihN (513 - (kc + 1)) (by omega) (kc + 1) (by omega) rfl
    refine lv_aload_n hx hb dL_law_27 rfl (lv_at hl 3 rfl) ?_
    refine lv_iload_n hx hb dL_law_28 rfl (lv_at hl 0 rfl) ?_
    refine va_sld hx hb hX hbl hbA hS (vin (a := i.toInt) rfl (by omega) (by omega)) dL_law_29 ?_
    refine lv_bipush (v := 31) hx hb dL_law_30 (by decide) ?_
    refine lv_iand hx hb dL_law_32 ?_
    obtain ⟨j, hj0, ej⟩ := pk_andE (xs i.toNatClampNeg) (m := 31) 5 rfl
    have hj : j < 32 := hj0
    refine lk_i (y := nI j) ej ?_
    by_cases k0 : j = 0
    · subst k0
      refine lv_tableIn (tgt := 144) hx hb dL_law_33 (by decide) (by decide) rfl (by decide) ?_
      exact law_case_0 C0 hA hA2 hAm hSt hi hL (by omega) hI hS hl ih
    by_cases k1 : j = 1
    · subst k1
      refine lv_tableIn (tgt := 207) hx hb dL_law_33 (by decide) (by decide) rfl (by decide) ?_
      exact law_case_1 C0 hA hA2 hAm hSt hi hL (by omega) hI hS hl ih
    by_cases k2 : j = 2
    · subst k2
      refine lv_tableIn (tgt := 230) hx hb dL_law_33 (by decide) (by decide) rfl (by decide) ?_
      exact law_case_2 C0 hA hA2 hAm hSt hi hL (by omega) hI hS hl ih
    by_cases k3 : j = 3
    · subst k3
      refine lv_tableIn (tgt := 243) hx hb dL_law_33 (by decide) (by decide) rfl (by decide) ?_
      exact law_case_3 C0 hA hA2 hAm hSt hi hL (by omega) hI hS hl ih
    by_cases k4 : j = 4
    · subst k4
      refine lv_tableIn (tgt := 266) hx hb dL_law_33 (by decide) (by decide) rfl (by decide) ?_
      exact law_case_4 C0 hA hA2 hAm hSt hi hL (by omega) hI hS hl ih
    by_cases k5 : j = 5
    · subst k5
      refine lv_tableIn (tgt := 299) hx hb dL_law_33 (by decide) (by decide) rfl (by decide) ?_
      exact law_case_5 C0 hA hA2 hAm hSt hi hL (by omega) hI hS hl ih
    by_cases k6 : j = 6
    · subst k6
      refine lv_tableIn (tgt := 322) hx hb dL_law_33 (by decide) (by decide) rfl (by decide) ?_
      exact law_case_6 C0 hA hA2 hAm hSt hi hL (by omega) hI hS hl ih
    by_cases k7 : j = 7
    · subst k7
      refine lv_tableIn (tgt := 365) hx hb dL_law_33 (by decide) (by decide) rfl (by decide) ?_
      exact law_case_7 C0 hA hA2 hAm hSt hi hL (by omega) hI hS hl ih
    by_cases k8 : j = 8
    · subst k8
      refine lv_tableIn (tgt := 408) hx hb dL_law_33 (by decide) (by decide) rfl (by decide) ?_
      exact law_case_8 C0 hA hA2 hAm hSt hi hL (by omega) hI hS hl ih
    by_cases k9 : j = 9
    · subst k9
      refine lv_tableIn (tgt := 461) hx hb dL_law_33 (by decide) (by decide) rfl (by decide) ?_
      exact law_case_9 C0 hA hA2 hAm hSt hi hL (by omega) hI hS hl ih
    by_cases k10 : j = 10
    · subst k10
      refine lv_tableIn (tgt := 474) hx hb dL_law_33 (by decide) (by decide) rfl (by decide) ?_
      exact law_case_10 C0 hA hA2 hAm hSt hi hL (by omega) hI hS hl ih
    by_cases k11 : j = 11
    · subst k11
      refine lv_tableIn (tgt := 507) hx hb dL_law_33 (by decide) (by decide) rfl (by decide) ?_
      exact law_case_11 C0 hA hA2 hAm hSt hi hL (by omega) hI hS hl ih
    by_cases k12 : j = 12
    · subst k12
      refine lv_tableIn (tgt := 530) hx hb dL_law_33 (by decide) (by decide) rfl (by decide) ?_
      exact law_case_12 C0 hA hA2 hAm hSt hi hL (by omega) hI hS hl ih
    by_cases k13 : j = 13
    · subst k13
      refine lv_tableIn (tgt := 563) hx hb dL_law_33 (by decide) (by decide) rfl (by decide) ?_
      exact law_case_13 C0 hA hA2 hAm hSt hi hL (by omega) hI hS hl ih
    by_cases k14 : j = 14
    · subst k14
      refine lv_tableIn (tgt := 596) hx hb dL_law_33 (by decide) (by decide) rfl (by decide) ?_
      exact law_case_14 C0 hA hA2 hAm hSt hi hL (by omega) hI hS hl ih
    by_cases k15 : j = 15
    · subst k15
      refine lv_tableIn (tgt := 629) hx hb dL_law_33 (by decide) (by decide) rfl (by decide) ?_
      exact law_case_15 C0 hA hA2 hAm hSt hi hL (by omega) hI hS hl ih
    by_cases k16 : j = 16
    · subst k16
      refine lv_tableIn (tgt := 662) hx hb dL_law_33 (by decide) (by decide) rfl (by decide) ?_
      exact law_case_16 C0 hA hA2 hAm hSt hi hL (by omega) hI hS hl ih
    by_cases k17 : j = 17
    · subst k17
      refine lv_tableIn (tgt := 695) hx hb dL_law_33 (by decide) (by decide) rfl (by decide) ?_
      exact law_case_17 C0 hA hA2 hAm hSt hi hL (by omega) hI hS hl ih
    by_cases k18 : j = 18
    · subst k18
      refine lv_tableIn (tgt := 728) hx hb dL_law_33 (by decide) (by decide) rfl (by decide) ?_
      exact law_case_18 C0 hA hA2 hAm hSt hi hL (by omega) hI hS hl ih
    by_cases k19 : j = 19
    · subst k19
      refine lv_tableIn (tgt := 761) hx hb dL_law_33 (by decide) (by decide) rfl (by decide) ?_
      exact law_case_19 C0 hA hA2 hAm hSt hi hL (by omega) hI hS hl ih
    by_cases k20 : j = 20
    · subst k20
      refine lv_tableIn (tgt := 784) hx hb dL_law_33 (by decide) (by decide) rfl (by decide) ?_
      exact law_case_20 C0 hA hA2 hAm hSt hi hL (by omega) hI hS hl ih
    by_cases k21 : j = 21
    · subst k21
      refine lv_tableIn (tgt := 807) hx hb dL_law_33 (by decide) (by decide) rfl (by decide) ?_
      exact law_case_21 C0 hA hA2 hAm hSt hi hL (by omega) hI hS hl ih
    by_cases k22 : j = 22
    · subst k22
      refine lv_tableIn (tgt := 830) hx hb dL_law_33 (by decide) (by decide) rfl (by decide) ?_
      exact law_case_22 C0 hA hA2 hAm hSt hi hL (by omega) hI hS hl ih
    by_cases k23 : j = 23
    · subst k23
      refine lv_tableIn (tgt := 853) hx hb dL_law_33 (by decide) (by decide) rfl (by decide) ?_
      exact law_case_23 C0 hA hA2 hAm hSt hi hL (by omega) hI hS hl ih
    refine lv_tableOut (tgt := 876) hx hb dL_law_33 (by rw [nI_toInt (by omega)]; omega) (by decide) ?_
    obtain ⟨i1, ei1⟩ : ∃ y : Int32, y = i + 6 := ⟨_, rfl⟩
    have ti1 : i1.toInt = i.toInt + 6 := by rw [ei1]; exact add_ti (a := i.toInt) (b := 6) rfl (by decide) (by omega) (by omega)
    refine lv_iinc (v := i1) (lv' := [(3, .int i1), (2, .ref m0), (1, .ref x0), (0, .ref b)]) hx hb dL_law_876 hl (k := 0) rfl (by rw [ei1]; rfl) (by decide) rfl (fun ls hl => ?_)
    refine lv_goto (tgt := 18) hx hb dL_law_879 (by decide) ?_
    refine W.widen (k := CE9 + 900 * (kc + 1)) (n := SL9 + 11300 * (kc + 1) + 2 * n) (by omega) (by omega) ?_
    exact ih i1 n H locs ls (by omega) (LI.more hI) hS hl
