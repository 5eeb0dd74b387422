/-! THE CLAIM OUT OF ONE WALK OF THE LAW'S BODY. Your part is whole_start (and what it stands on); all else here is the same for every law, but numbers. -/
def R_law : String := "CrownTableLaw"
def lw_P (b : Addr) (xs : List Int32) (args : Array Value) (s : State) : Prop := args = #[.ref b] ∧ s.IntsAt b xs ∧ xs.length ≤ 3072 ∧ (Jvm.Cond.and given_1 narrow_1).before args s = true
def lw_Q (_ : Array Value) (s : State) (o : Outcome) (t : State) : Prop := o = .returned (some (.int 1)) ∧ Framed s o t [] 600000 7302250
def lw_Z (below : List Frame) (a : Array Value) (s : State) : State → Prop := fun t => ∃ o, t.status = .running ∧ Ended t below o ∧ lw_Q a s o t
/-- the law's own end, with 1 on the stack, nothing written that was there before, its room as the claim has it -/
theorem lw_ret {p : Program} {l : Launch} {e : Env} {s : State} {m : MethodId} {below : List Frame} {meth : Method} {c : Code} {b : Nat} (hx : p.tables.exec = Jvm.exec) (hb : c.code = code) (hr : meth.sig.returnType = ret) (hlocks : meth.locks = false) {pc : Nat} {H : Heap} {ls : Array Slot} (hdg : decode code pc = .ok (.ireturn, 1)) : W p l e room_1 s m #[Value.ref b] below meth c H [] 600000 7302250 (lw_Z below #[Value.ref b] s) (F0 m pc ls [.int 1]) := by
  intro T hT X
  obtain ⟨fs, hret, hrun, hended, hW, hframe⟩ := X.leave (v := some (.int 1)) (hlocks := hlocks) (fun h => by rw [hr] at h; cases h)
  have hmeth' : T.vm.method? m = some meth := X.method'
  refine ⟨T.setFrames fs, ?_, .returned (some (.int 1)), hrun, hended, rfl, ⟨_, rfl⟩, hW, hframe⟩
  jvm_step X.here [X.here.top, hx, hb, hdg, hmeth', hr, ret, narrow_b1]
  (try refine ⟨rfl, ?_⟩); (try refine ⟨rfl, ?_⟩)
  first | (intro acts; rw [hret _ acts rfl rfl rfl]) | rw [hret _ _ rfl rfl rfl]
  exact Steps.refl _
/-- what holds at the law's entry: the machine, the code, the tables' words (any of lw_tbl by 'hts w (by decide +kernel)'), the script of L ints xs at the cell b, what the Statement gives of the start (any of its parts by flat_of_before) -/
def lw_At (p : Program) (s : State) (m : MethodId) (meth : Method) (c : Code) (b L : Nat) (xs : Nat → Int32) : Prop :=
  p.tables.exec = Jvm.exec ∧ c.code = code ∧ meth.sig.returnType = ret ∧ c.maxLocals = 4 ∧ s.vm.findClass R_law = some m.cls ∧ (∀ w ∈ lw_tbl, w.before #[Value.ref b] s = true) ∧ va_X b L xs s s.heap ∧ b < s.heap.size ∧ meth.locks = false ∧ (Jvm.Cond.and given_1 narrow_1).before #[Value.ref b] s = true
theorem nwM_in : ∀ w ∈ nwM.map (fun q => Cond.methodLinkNest q.1 q.2.1 q.2.2.1 q.2.2.2), w ∈ lw_tbl := memIn_r _ [112, 128, 188, 207, 230, 302, 306, 319, 327, 473, 493, 524, 533, 549, 561, 575, 586, 594, 598, 630, 663, 667, 719, 731, 742, 748, 768] (by decide +kernel)
theorem nwF_in : ∀ w ∈ nwF.map (fun q => Cond.fieldLinkNest q.1 q.2.1 q.2.2.1 q.2.2.2.1 q.2.2.2.2.1 q.2.2.2.2.2), w ∈ lw_tbl := memIn_r _ [118, 119, 135, 218, 235, 498, 499] (by decide +kernel)
abbrev tS9 : Term := .string "CrownTable$Reader" 119
abbrev tV9 : Term := .field tS9 "java/lang/String" "value" "[B"
set_option maxRecDepth 100000 in
theorem tel9_0 : ∀ j : Nat, j < 12 → (flatC (Jvm.Cond.and given_1 narrow_1))[30 + j]? = some (Cond.eq (.elem tV9 (.int (Int32.ofNat (0 + j)))) (.int (wbt.getD (0 + j) 0))) := by decide +kernel
set_option maxRecDepth 100000 in
theorem tel9_1 : ∀ j : Nat, j < 12 → (flatC (Jvm.Cond.and given_1 narrow_1))[42 + j]? = some (Cond.eq (.elem tV9 (.int (Int32.ofNat (12 + j)))) (.int (wbt.getD (12 + j) 0))) := by decide +kernel
set_option maxRecDepth 100000 in
theorem tel9_2 : ∀ j : Nat, j < 12 → (flatC (Jvm.Cond.and given_1 narrow_1))[54 + j]? = some (Cond.eq (.elem tV9 (.int (Int32.ofNat (24 + j)))) (.int (wbt.getD (24 + j) 0))) := by decide +kernel
set_option maxRecDepth 100000 in
theorem tel9_3 : ∀ j : Nat, j < 12 → (flatC (Jvm.Cond.and given_1 narrow_1))[66 + j]? = some (Cond.eq (.elem tV9 (.int (Int32.ofNat (36 + j)))) (.int (wbt.getD (36 + j) 0))) := by decide +kernel
set_option maxRecDepth 100000 in
theorem tel9_4 : ∀ j : Nat, j < 12 → (flatC (Jvm.Cond.and given_1 narrow_1))[78 + j]? = some (Cond.eq (.elem tV9 (.int (Int32.ofNat (48 + j)))) (.int (wbt.getD (48 + j) 0))) := by decide +kernel
set_option maxRecDepth 100000 in
theorem tel9_5 : ∀ j : Nat, j < 12 → (flatC (Jvm.Cond.and given_1 narrow_1))[90 + j]? = some (Cond.eq (.elem tV9 (.int (Int32.ofNat (60 + j)))) (.int (wbt.getD (60 + j) 0))) := by decide +kernel
set_option maxRecDepth 100000 in
theorem tel9_6 : ∀ j : Nat, j < 12 → (flatC (Jvm.Cond.and given_1 narrow_1))[102 + j]? = some (Cond.eq (.elem tV9 (.int (Int32.ofNat (72 + j)))) (.int (wbt.getD (72 + j) 0))) := by decide +kernel
set_option maxRecDepth 100000 in
theorem tel9_7 : ∀ j : Nat, j < 12 → (flatC (Jvm.Cond.and given_1 narrow_1))[114 + j]? = some (Cond.eq (.elem tV9 (.int (Int32.ofNat (84 + j)))) (.int (wbt.getD (84 + j) 0))) := by decide +kernel
set_option maxRecDepth 100000 in
theorem tel9_8 : ∀ j : Nat, j < 12 → (flatC (Jvm.Cond.and given_1 narrow_1))[126 + j]? = some (Cond.eq (.elem tV9 (.int (Int32.ofNat (96 + j)))) (.int (wbt.getD (96 + j) 0))) := by decide +kernel
set_option maxRecDepth 100000 in
theorem tel9_9 : ∀ j : Nat, j < 12 → (flatC (Jvm.Cond.and given_1 narrow_1))[138 + j]? = some (Cond.eq (.elem tV9 (.int (Int32.ofNat (108 + j)))) (.int (wbt.getD (108 + j) 0))) := by decide +kernel
set_option maxRecDepth 100000 in
theorem tel9_10 : ∀ j : Nat, j < 12 → (flatC (Jvm.Cond.and given_1 narrow_1))[150 + j]? = some (Cond.eq (.elem tV9 (.int (Int32.ofNat (120 + j)))) (.int (wbt.getD (120 + j) 0))) := by decide +kernel
set_option maxRecDepth 100000 in
theorem tel9_11 : ∀ j : Nat, j < 12 → (flatC (Jvm.Cond.and given_1 narrow_1))[162 + j]? = some (Cond.eq (.elem tV9 (.int (Int32.ofNat (132 + j)))) (.int (wbt.getD (132 + j) 0))) := by decide +kernel
set_option maxRecDepth 100000 in
theorem tel9_12 : ∀ j : Nat, j < 12 → (flatC (Jvm.Cond.and given_1 narrow_1))[174 + j]? = some (Cond.eq (.elem tV9 (.int (Int32.ofNat (144 + j)))) (.int (wbt.getD (144 + j) 0))) := by decide +kernel
set_option maxRecDepth 100000 in
theorem tel9_13 : ∀ j : Nat, j < 12 → (flatC (Jvm.Cond.and given_1 narrow_1))[186 + j]? = some (Cond.eq (.elem tV9 (.int (Int32.ofNat (156 + j)))) (.int (wbt.getD (156 + j) 0))) := by decide +kernel
theorem tel9 : ∀ j : Nat, j < 168 → (Cond.eq (.elem tV9 (.int (Int32.ofNat j))) (.int (wbt.getD j 0))) ∈ (flatC (Jvm.Cond.and given_1 narrow_1)) := by
  intro j hj
  by_cases h0 : j < 12
  · have h := tel9_0 (j - 0) (by omega)
    rw [show 0 + (j - 0) = j by omega] at h
    exact List.mem_of_getElem? h
  by_cases h1 : j < 24
  · have h := tel9_1 (j - 12) (by omega)
    rw [show 12 + (j - 12) = j by omega] at h
    exact List.mem_of_getElem? h
  by_cases h2 : j < 36
  · have h := tel9_2 (j - 24) (by omega)
    rw [show 24 + (j - 24) = j by omega] at h
    exact List.mem_of_getElem? h
  by_cases h3 : j < 48
  · have h := tel9_3 (j - 36) (by omega)
    rw [show 36 + (j - 36) = j by omega] at h
    exact List.mem_of_getElem? h
  by_cases h4 : j < 60
  · have h := tel9_4 (j - 48) (by omega)
    rw [show 48 + (j - 48) = j by omega] at h
    exact List.mem_of_getElem? h
  by_cases h5 : j < 72
  · have h := tel9_5 (j - 60) (by omega)
    rw [show 60 + (j - 60) = j by omega] at h
    exact List.mem_of_getElem? h
  by_cases h6 : j < 84
  · have h := tel9_6 (j - 72) (by omega)
    rw [show 72 + (j - 72) = j by omega] at h
    exact List.mem_of_getElem? h
  by_cases h7 : j < 96
  · have h := tel9_7 (j - 84) (by omega)
    rw [show 84 + (j - 84) = j by omega] at h
    exact List.mem_of_getElem? h
  by_cases h8 : j < 108
  · have h := tel9_8 (j - 96) (by omega)
    rw [show 96 + (j - 96) = j by omega] at h
    exact List.mem_of_getElem? h
  by_cases h9 : j < 120
  · have h := tel9_9 (j - 108) (by omega)
    rw [show 108 + (j - 108) = j by omega] at h
    exact List.mem_of_getElem? h
  by_cases h10 : j < 132
  · have h := tel9_10 (j - 120) (by omega)
    rw [show 120 + (j - 120) = j by omega] at h
    exact List.mem_of_getElem? h
  by_cases h11 : j < 144
  · have h := tel9_11 (j - 132) (by omega)
    rw [show 132 + (j - 132) = j by omega] at h
    exact List.mem_of_getElem? h
  by_cases h12 : j < 156
  · have h := tel9_12 (j - 144) (by omega)
    rw [show 144 + (j - 144) = j by omega] at h
    exact List.mem_of_getElem? h
  by_cases h13 : j < 168
  · have h := tel9_13 (j - 156) (by omega)
    rw [show 156 + (j - 156) = j by omega] at h
    exact List.mem_of_getElem? h
  exfalso; omega
set_option maxHeartbeats 4000000 in
set_option maxRecDepth 100000 in
theorem law_amb {p : Program} {s : State} {m : MethodId} {meth : Method} {cd : Code} {b L : Nat} {xs : Nat → Int32} (C0 : lw_At p s m meth cd b L xs) : ∃ (D : va_G) (c : Nat → ClassId) (ts : Nat × Nat), Amb D c s ∧ Stt ts (fun q : Nat => s.heap.size ≤ q) s s.heap := by
  obtain ⟨hx, hb, hr, hml, hown0, hts0, hX, hbl, hlocks, hgv⟩ := C0
  have hts : ∀ w ∈ wsL_law, w.before #[Value.ref b] s = true := fun w h => hts0 w (wsL_law_in w h)
  obtain ⟨c0, i0, k0⟩ := u_known (C := RX0) (T := TX0) (N := 1) (n := 1) hts inlX0 (hts (.instantiable RX0 1) (mem_i 42 rfl))
  obtain ⟨c1, i1, k1⟩ := u_known (C := RX1) (T := TX1) (N := 17) (n := 17) hts inlX1 (hts (.instantiable RX1 17) (mem_i 17 rfl))
  obtain ⟨c2, i2, k2⟩ := u_known (C := RX2) (T := TX2) (N := 4) (n := 4) hts inlX2 (hts (.instantiable RX2 4) (mem_i 27 rfl))
  obtain ⟨c3, i3, k3⟩ := u_known (C := RX3) (T := TX3) (N := 2) (n := 2) hts inlX3 (hts (.instantiable RX3 2) (mem_i 13 rfl))
  obtain ⟨c4, i4, k4⟩ := u_known (C := RX4) (T := TX4) (N := 4) (n := 4) hts inlX4 (hts (.instantiable RX4 4) (mem_i 326 rfl))
  obtain ⟨c5, i5, k5⟩ := u_known (C := RX5) (T := TX5) (N := 3) (n := 3) hts inlX5 (hts (.instantiable RX5 3) (mem_i 21 rfl))
  obtain ⟨c6, i6, k6⟩ := u_known (C := RX6) (T := TX6) (N := 18) (n := 18) hts inlX6 (hts (.instantiable RX6 18) (mem_i 1 rfl))
  obtain ⟨c7, i7, k7⟩ := u_known (C := RX7) (T := TX7) (N := 56) (n := 56) hts inlX7 (hts (.instantiable RX7 56) (mem_i 4 rfl))
  obtain ⟨cB, kB, pB, eB1, eB2, eB3⟩ := Cond.arrayClass_spec (hts (.arrayClass .byte) (mem_i 48 rfl))
  obtain ⟨cI, kI, pI, eI1, eI2, eI3⟩ := Cond.arrayClass_spec (hts (.arrayClass .int) (mem_i 34 rfl))
  obtain ⟨cJ, kJ, pJ, eJ1, eJ2, eJ3⟩ := Cond.arrayClass_spec (hts (.arrayClass .long) (mem_i 30 rfl))
  obtain ⟨cZ, kZ, pZ, eZ1, eZ2, eZ3⟩ := Cond.arrayClass_spec (hts (.arrayClass .boolean) (mem_i 32 rfl))
  have hov : (Cond.arrayOver (.object RX4)).before #[Value.ref b] s = true := hts0 _ (List.mem_of_getElem? (i := 204) (by decide +kernel))
  have hcst : (Cond.castable "[I" "java/lang/Cloneable").before #[Value.ref b] s = true := hts0 _ (List.mem_of_getElem? (i := 487) (by decide +kernel))
  obtain ⟨pT, cT, kT0, t1, t2, t3, t4, t5⟩ := Cond.arrayOver_spec hov
  have hs := flat_of_before _ hgv
  have hAn : ∀ a : Nat, a < s.heap.size → ¬ (fun q : Nat => s.heap.size ≤ q) a := fun a h => Nat.not_le.mpr h
  have l6 := va_eqt (hs (.eq (.length (.static "CrownTable$Cloth" "WORTHS" "[I")) (.int 6)) (by decide +kernel))
  have a6 := hs (.arrayOf (.static "CrownTable$Cloth" "WORTHS" "[I") .int) (by decide +kernel)
  have v6_0 := va_eqt (hs (.eq (.elem (.static "CrownTable$Cloth" "WORTHS" "[I") (.int 0)) (.int 1)) (by decide +kernel))
  have v6_1 := va_eqt (hs (.eq (.elem (.static "CrownTable$Cloth" "WORTHS" "[I") (.int 1)) (.int 12)) (by decide +kernel))
  have v6_2 := va_eqt (hs (.eq (.elem (.static "CrownTable$Cloth" "WORTHS" "[I") (.int 2)) (.int 240)) (by decide +kernel))
  have v6_3 := va_eqt (hs (.eq (.elem (.static "CrownTable$Cloth" "WORTHS" "[I") (.int 3)) (.int 4800)) (by decide +kernel))
  have v6_4 := va_eqt (hs (.eq (.elem (.static "CrownTable$Cloth" "WORTHS" "[I") (.int 4)) (.int 24000)) (by decide +kernel))
  have v6_5 := va_eqt (hs (.eq (.elem (.static "CrownTable$Cloth" "WORTHS" "[I") (.int 5)) (.int 240000)) (by decide +kernel))
  have w6 : ∀ j : Nat, j < 6 → (Term.elem (.static "CrownTable$Cloth" "WORTHS" "[I") (.int (Int32.ofNat j))).eval #[Value.ref b] s none [] s = some (wth j) := by
    intro j hj
    rcases (show j = 0 ∨ j = 1 ∨ j = 2 ∨ j = 3 ∨ j = 4 ∨ j = 5 by omega) with rfl | rfl | rfl | rfl | rfl | rfl
    · exact v6_0
    · exact v6_1
    · exact v6_2
    · exact v6_3
    · exact v6_4
    · exact v6_5
  obtain ⟨u6, x6, y6⟩ := va_Tof (N := 6) (f := wth) (A := fun q : Nat => s.heap.size ≤ q) (by decide) a6 l6 w6 hAn
  have z6 := va_Zref (hts0 (.laysStatic RX0 "WORTHS" "[I") (List.mem_of_getElem? (i := 747) (by decide +kernel))) (hts (.initialized RX0) (mem_i 43 rfl)) x6 hAn
  have l5 := va_eqt (hs (.eq (.length (.static "CrownTable$Cloth" "OF_THE_NEXT" "[I")) (.int 5)) (by decide +kernel))
  have a5 := hs (.arrayOf (.static "CrownTable$Cloth" "OF_THE_NEXT" "[I") .int) (by decide +kernel)
  have v5_0 := va_eqt (hs (.eq (.elem (.static "CrownTable$Cloth" "OF_THE_NEXT" "[I") (.int 0)) (.int 12)) (by decide +kernel))
  have v5_1 := va_eqt (hs (.eq (.elem (.static "CrownTable$Cloth" "OF_THE_NEXT" "[I") (.int 1)) (.int 20)) (by decide +kernel))
  have v5_2 := va_eqt (hs (.eq (.elem (.static "CrownTable$Cloth" "OF_THE_NEXT" "[I") (.int 2)) (.int 20)) (by decide +kernel))
  have v5_3 := va_eqt (hs (.eq (.elem (.static "CrownTable$Cloth" "OF_THE_NEXT" "[I") (.int 3)) (.int 5)) (by decide +kernel))
  have v5_4 := va_eqt (hs (.eq (.elem (.static "CrownTable$Cloth" "OF_THE_NEXT" "[I") (.int 4)) (.int 10)) (by decide +kernel))
  have w5 : ∀ j : Nat, j < 5 → (Term.elem (.static "CrownTable$Cloth" "OF_THE_NEXT" "[I") (.int (Int32.ofNat j))).eval #[Value.ref b] s none [] s = some (nxt j) := by
    intro j hj
    rcases (show j = 0 ∨ j = 1 ∨ j = 2 ∨ j = 3 ∨ j = 4 by omega) with rfl | rfl | rfl | rfl | rfl
    · exact v5_0
    · exact v5_1
    · exact v5_2
    · exact v5_3
    · exact v5_4
  obtain ⟨u5, x5, y5⟩ := va_Tof (N := 5) (f := nxt) (A := fun q : Nat => s.heap.size ≤ q) (by decide) a5 l5 w5 hAn
  have z5 := va_Zref (hts0 (.laysStatic RX0 "OF_THE_NEXT" "[I") (List.mem_of_getElem? (i := 737) (by decide +kernel))) (hts (.initialized RX0) (mem_i 43 rfl)) x5 hAn
  have sx := hs (.exactly tS9 "java/lang/String") (by decide +kernel)
  have sc := va_eqt (hs (.eq (.field tS9 "java/lang/String" "coder" "B") (.int 0)) (by decide +kernel))
  have sa := hs (.arrayOf tV9 .byte) (by decide +kernel)
  have sl := va_eqt (hs (.eq (.length tV9) (.int 168)) (by decide +kernel))
  have se : ∀ j : Nat, j < 168 → (Term.elem tV9 (.int (Int32.ofNat j))).eval #[Value.ref b] s none [] s = some (Value.int (wbt.getD j 0)) := fun j hj => va_eqt (hs _ (tel9 j hj))
  obtain ⟨ua, uc, uA, uK, q1, q2, q3, q4, q5, q6, -⟩ := Cond.exactly_spec (args := #[Value.ref b]) (first := s) (o := none) (s := s) (idx := []) (t := tS9) (cls := "java/lang/String") sx
  obtain ⟨ut, ht, hT⟩ := va_Tof (N := 168) (f := fun j => .int (wbt.getD j 0)) (A := fun q : Nat => s.heap.size ≤ q) (by decide) sa sl se hAn
  have sr : (Cond.stringRef RX1 119 "pay     part    wait    quit    call    hold    if      then    and     or      not     owed    all     age     kind    coins   term    year    held    paid    pledged ").before #[Value.ref b] s = true := hts0 _ (List.mem_of_getElem? (i := 341) (by decide +kernel))
  have cps := va_eqt (hs (.eq (.static "java/lang/String" "COMPACT_STRINGS" "Z") (.int 1)) (by decide +kernel))
  have zc : va_Z "java/lang/String" "COMPACT_STRINGS" "Z" (.int 1) (fun q : Nat => s.heap.size ≤ q) s s.heap := va_Zof (hts0 (.laysStatic "java/lang/String" "COMPACT_STRINGS" "Z") (List.mem_of_getElem? (i := 351) (by decide +kernel))) (hts0 (.initialized "java/lang/String") (List.mem_of_getElem? (i := 96) (by decide +kernel))) cps hAn
  have zr := hs (.isRef (.static "jdk/internal/util/Preconditions" "SIOOBE_FORMATTER" "Ljava/util/function/BiFunction;")) (by decide +kernel)
  have zq : va_Zq "jdk/internal/util/Preconditions" "SIOOBE_FORMATTER" "Ljava/util/function/BiFunction;" (fun q : Nat => s.heap.size ≤ q) s s.heap := va_Zqof (hts0 (.laysStatic "jdk/internal/util/Preconditions" "SIOOBE_FORMATTER" "Ljava/util/function/BiFunction;") (List.mem_of_getElem? (i := 371) (by decide +kernel))) (hts0 (.initialized "jdk/internal/util/Preconditions") (List.mem_of_getElem? (i := 98) (by decide +kernel))) zr hAn
  have hSF : SF ua ut (fun q : Nat => s.heap.size ≤ q) s s.heap := ⟨⟨uA, q3, q5, by rw [q6]; exact q2, hAn ua (Array.getElem?_eq_some_iff.mp q3).1⟩, vk_OFof q1 sc hAn, vk_OFof q1 ht hAn, hT, vk_R.of sr q1, zc, zq⟩
  refine ⟨(fun k => [c0, c1, c2, c3, c4, c5, c6, c7].getD k c0, fun k => [i0, i1, i2, i3, i4, i5, i6, i7].getD k i0), fun k => [cB, cI, cJ, cZ, cT].getD k cB, (u6, u5), ⟨⟨?_, ?_⟩, ⟨fun q hq => va_Nw.of rfl (hts0 _ (nwM_in _ (List.mem_map_of_mem hq))), fun q hq => va_Nw.of rfl (hts0 _ (nwF_in _ (List.mem_map_of_mem hq)))⟩, va_AO.of hov, va_Nw.of rfl hcst⟩, z6, y6, z5, y5, ua, ut, hSF⟩
  · intro k q hq
    match k, hq with
    | 0, hq => cases hq; exact k0
    | 1, hq => cases hq; exact k1
    | 2, hq => cases hq; exact k2
    | 3, hq => cases hq; exact k3
    | 4, hq => cases hq; exact k4
    | 5, hq => cases hq; exact k5
    | 6, hq => cases hq; exact k6
    | 7, hq => cases hq; exact k7
    | k + 8, hq => simp [vwCl] at hq
  · intro k q hq
    match k, hq with
    | 0, hq => cases hq; exact ⟨fun n z => ⟨fun k h => (by cases h), kB, eB2, pB, eB3⟩, eB1⟩
    | 1, hq => cases hq; exact ⟨fun n z => ⟨fun k h => (by cases h), kI, eI2, pI, eI3⟩, eI1⟩
    | 2, hq => cases hq; exact ⟨fun n z => ⟨fun k h => (by cases h), kJ, eJ2, pJ, eJ3⟩, eJ1⟩
    | 3, hq => cases hq; exact ⟨fun n z => ⟨fun k h => (by cases h), kZ, eZ2, pZ, eZ3⟩, eZ1⟩
    | 4, hq => cases hq; exact ⟨fun n z => ⟨fun k h => (by cases h), kT0, t3, pT, t4⟩, kT0, pT, t3, t4, t1, t5⟩
    | k + 5, hq => simp [kT] at hq
