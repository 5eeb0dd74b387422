theorem perm_P {D : va_G} {cl : List vw_C} {ws ws' : va_W} {H : Heap} (h : va_P D cl ws H) (hp : ws'.Perm ws) : va_P D cl ws' H := by
  intro k q hk
  obtain ⟨i, hi⟩ := List.getElem?_of_mem (hp.mem_iff.mp (List.mem_of_getElem? hk))
  exact h i q hi
theorem nd_of_D {A : Nat → Prop} {ws : va_W} (h : va_D A ws) : (ws.map Prod.fst).Nodup := by
  refine List.pairwise_iff_getElem.mpr (fun i j hi hj hij e => ?_)
  have hi' : i < ws.length := by rw [List.length_map] at hi; exact hi
  have hj' : j < ws.length := by rw [List.length_map] at hj; exact hj
  rw [List.getElem_map, List.getElem_map] at e
  have h1 := h.1 i j _ _ (List.getElem?_eq_getElem hi') (List.getElem?_eq_getElem hj') e
  omega
theorem D_of_nd {A : Nat → Prop} {ws : va_W} (h : (ws.map Prod.fst).Nodup) (h2 : ∀ q ∈ ws, A q.1) : va_D A ws := by
  have h3 : ∀ (i j : Nat) (p q : Nat × va_E), ws[i]? = some p → ws[j]? = some q → p.1 = q.1 → ¬ i < j := by
    intro i j p q hi hj e hij
    obtain ⟨li, ei⟩ := List.getElem?_eq_some_iff.mp hi
    obtain ⟨lj, ej⟩ := List.getElem?_eq_some_iff.mp hj
    refine List.pairwise_iff_getElem.mp h i j (by rw [List.length_map]; exact li) (by rw [List.length_map]; exact lj) hij ?_
    rw [List.getElem_map, List.getElem_map, ei, ej]
    exact e
  refine ⟨fun i j p q hi hj e => ?_, fun k q hk => h2 q (List.mem_of_getElem? hk)⟩
  have a1 := h3 i j p q hi hj e
  have a2 := h3 j i q p hj hi e.symm
  omega
theorem perm_D {A : Nat → Prop} {ws ws' : va_W} (h : va_D A ws) (hp : ws'.Perm ws) : va_D A ws' :=
  D_of_nd ((hp.map Prod.fst).nodup_iff.mpr (nd_of_D h)) (fun q hq => by
    obtain ⟨i, hi⟩ := List.getElem?_of_mem (hp.mem_iff.mp hq)
    exact h.2 i q hi)
theorem app4 (a b n p : va_W) : (a ++ (b ++ n)) ++ p = (a ++ b) ++ (n ++ p) := by rw [List.append_assoc, List.append_assoc, List.append_assoc]
/-- the texts that an array names have their cells among tx -/
def TXin (c : Nat → ClassId) (T : Nat → Option Nat) (tx : va_W) : Prop := ∀ (j a : Nat), T j = some a → ∃ (b n : Nat → Nat) (f : Nat → Nat → Int32), (∀ k, n k ≤ 2000) ∧ ∀ q ∈ tx5 c a b n f, q ∈ tx
theorem TXin.right {c : Nat → ClassId} {T : Nat → Option Nat} {w tx : va_W} (h : TXin c T tx) : TXin c T (w ++ tx) := by
  intro j a hj
  obtain ⟨b, n, f, h1, h2⟩ := h j a hj
  exact ⟨b, n, f, h1, fun q hq => List.mem_append_right _ (h2 q hq)⟩
theorem TXin.more {c : Nat → ClassId} {T T1 : Nat → Option Nat} {tx nw : va_W} (h : TXin c T tx) (hn : (nw = [] ∧ T1 = T) ∨ ∃ (a : Nat) (b n : Nat → Nat) (f : Nat → Nat → Int32) (k : Nat), nw = tx5 c a b n f ∧ (∀ i, n i ≤ 2000) ∧ T1 = va_up T k (some a)) : TXin c T1 (nw ++ tx) := by
  rcases hn with ⟨rfl, rfl⟩ | ⟨a, b, n, f, k, rfl, hn, rfl⟩
  · exact h
  · intro j a' hj
    unfold va_up at hj
    by_cases e : j = k
    · rw [if_pos e] at hj
      cases hj
      exact ⟨b, n, f, hn, fun q hq => List.mem_append_left _ hq⟩
    · rw [if_neg e] at hj
      obtain ⟨b', n', f', h1, h2⟩ := h j a' hj
      exact ⟨b', n', f', h1, fun q hq => List.mem_append_right _ (h2 q hq)⟩
theorem txf_of {D : va_G} {c : Nat → ClassId} {T : Nat → Option Nat} {A : Nat → Prop} {X pl wc : va_W} {H : Heap} (hP : va_P D vwCl (X ++ pl) H) (hD : va_D A (X ++ pl)) (isC : List Nat) (hC : isC.map (fun i => X[i]?) = wc.map some) (hT : TXin c T pl) : TXF D c T (va_A wc H.size) H := by
  intro j a hj
  obtain ⟨b, n, f, h1, h2⟩ := hT j a hj
  refine ⟨b, n, f, h1, fun k q hk => ?_, fun k q hk => ?_⟩
  · obtain ⟨i, hi⟩ := List.getElem?_of_mem (List.mem_append_right X (h2 q (List.mem_of_getElem? hk)))
    exact hP i q hi
  · obtain ⟨i, hi⟩ := List.getElem?_of_mem (h2 q (List.mem_of_getElem? hk))
    have hi2 : (X ++ pl)[X.length + i]? = some q := by rw [List.getElem?_append_right (Nat.le_add_right _ _), Nat.add_sub_cancel_left]; exact hi
    intro hA
    rcases hA with ⟨k2, e, hk2⟩ | hsz
    · have h5 : (wc.map some)[k2]? = some (some (q.1, e)) := by rw [List.getElem?_map, hk2]; rfl
      rw [← hC, List.getElem?_map] at h5
      cases h6 : isC[k2]? with
      | none => rw [h6] at h5; cases h5
      | some i2 =>
        rw [h6] at h5
        have h7 : X[i2]? = some (q.1, e) := Option.some.inj h5
        have h8 : i2 < X.length := (List.getElem?_eq_some_iff.mp h7).1
        have h9 : (X ++ pl)[i2]? = some (q.1, e) := by rw [List.getElem?_append_left h8]; exact h7
        have h10 := hD.1 _ _ _ _ h9 hi2 rfl
        omega
    · have h11 := (hP _ q hi2).lt
      omega
theorem PreT.at2 {D : va_G} {c : Nat → ClassId} {ts : Nat × Nat} {wc : va_W} {T : Nat → Option Nat} {av : List Value} {A : Nat → Prop} {s : State} {H : Heap} {locs : List Loc} (hPc : va_P D vwCl wc H) (hDc : va_D A wc) (hAm : Amb D c s) (hSt : Stt ts A s s.heap) (hS : va_S A s.heap H locs) (hF : ∀ q, va_A wc H.size q → A q) (hT : TXF D c T (va_A wc H.size) H) : ∀ U : State, U.heap = H → s.WarmedH U.vm → va_Pc av (PreT D c ts wc T H.size) av.toArray U := fun U hU hW => ⟨rfl, (Pre0.at (av := av) hPc hDc hAm hSt hS hF U hU hW).2, by rw [hU]; exact hT⟩
theorem in9_le {n : Nat} (h : in9 n) : 128 ≤ n ∧ n ≤ 32768 := by unfold in9 at h; omega
theorem nr_ex {n : Nat} (h : in9 n) {t : Int} (h0 : 0 ≤ t) (h4 : t ≤ 4000) : ∃ NR : Nat, (n ≤ NR) ∧ (NR ≤ n ∨ (NR : Int) < 16 * t) ∧ (8 * t ≤ (NR : Int)) ∧ in9 NR := by
  have hb := in9_le h
  by_cases hn : 8 * t ≤ (n : Int)
  · exact ⟨n, Nat.le_refl _, Or.inl (Nat.le_refl _), hn, h⟩
  · by_cases h1 : 8 * t ≤ 128
    · exfalso; omega
    by_cases h2 : 8 * t ≤ 256
    · exact ⟨256, by unfold in9 at h; omega, by omega, by omega, by unfold in9; omega⟩
    by_cases h3 : 8 * t ≤ 512
    · exact ⟨512, by unfold in9 at h; omega, by omega, by omega, by unfold in9; omega⟩
    by_cases h4 : 8 * t ≤ 1024
    · exact ⟨1024, by unfold in9 at h; omega, by omega, by omega, by unfold in9; omega⟩
    by_cases h5 : 8 * t ≤ 2048
    · exact ⟨2048, by unfold in9 at h; omega, by omega, by omega, by unfold in9; omega⟩
    by_cases h6 : 8 * t ≤ 4096
    · exact ⟨4096, by unfold in9 at h; omega, by omega, by omega, by unfold in9; omega⟩
    by_cases h7 : 8 * t ≤ 8192
    · exact ⟨8192, by unfold in9 at h; omega, by omega, by omega, by unfold in9; omega⟩
    by_cases h8 : 8 * t ≤ 16384
    · exact ⟨16384, by unfold in9 at h; omega, by omega, by omega, by unfold in9; omega⟩
    · exact ⟨32768, by omega, by omega, by omega, by unfold in9; omega⟩
theorem nr_pick {p : Prop} {n : Nat} {sz KK : Int} (hn : in9 n) (h : p → 0 ≤ sz + KK ∧ sz + KK ≤ 4000) : ∃ NR : Nat, Imp9 p ((n ≤ NR) ∧ (NR ≤ n ∨ (NR : Int) < 16 * (sz + KK)) ∧ (8 * (sz + KK) ≤ NR) ∧ (in9 NR)) ∧ Imp9 (¬ p) (NR = n) ∧ in9 NR ∧ n ≤ NR := by
  by_cases hp : p
  · obtain ⟨NR, h1, h2, h3, h4⟩ := nr_ex hn (h hp).1 (h hp).2
    exact ⟨NR, fun _ => ⟨h1, h2, h3, h4⟩, fun z => absurd hp z, h4, h1⟩
  · exact ⟨n, fun z => absurd z hp, fun _ => rfl, hn, Nat.le_refl _⟩
theorem tc_zero {fr tt o : Nat → Int32} {L : Int} : TCd (fun _ => 0) fr tt o L := by
  intro t k h1 h2 h3 h4
  have z : ((0 : Int32)).toInt = 0 := rfl
  exfalso
  have h5 : k < (0 : Int32).toInt := h4
  omega
def CE9 : Nat := 65
def SL9 : Nat := 64699
def LX (c : Nat → ClassId) (A_self : Nat) (f_texts : Nat → Option Nat) (n_roll_cells : Nat) (wx : va_W) : Prop := ∃ (A_tape : Nat) (A_reader : Nat) (A_weigher : Nat) (A_texts : Nat) (A_forces : Nat) (A_credits : Nat) (A_held : Nat) (A_cameAt : Nat) (A_farms : Nat) (A_sheriffs : Nat) (A_debts : Nat) (A_roll : Nat) (A_sticks : Nat) (A_table : Nat) (A_tape_bytes : Nat) (f_tape_bytes : Nat → Int32) (A_reader_pile : Nat) (A_reader_acts : Nat) (A_reader_shares : Nat) (A_reader_starts : Nat) (A_reader_code : Nat) (f_reader_pile : Nat → Int32) (f_reader_acts : Nat → Int32) (f_reader_shares : Nat → Int32) (f_reader_starts : Nat → Int32) (f_reader_code : Nat → Int32) (A_weigher_facts : Nat) (A_weigher_pile : Nat) (f_weigher_facts : Nat → Int64) (f_weigher_pile : Nat → Int64) (A_forces_cells : Nat) (n_forces_cells : Nat) (f_forces_cells : Nat → Int32) (f_credits : Nat → Int64) (f_held : Nat → Int32) (f_cameAt : Nat → Int32) (f_farms : Nat → Int32) (f_sheriffs : Nat → Int32) (A_debts_cells : Nat) (n_debts_cells : Nat) (f_debts_cells : Nat → Int32) (A_roll_cells : Nat) (f_roll_cells : Nat → Int32) (A_sticks_cells : Nat) (n_sticks_cells : Nat) (f_sticks_cells : Nat → Int32) (A_table_counters : Nat) (f_table_counters : Nat → Int32) (self_textsRead : Int32) (self_now : Int32) (tape_length : Int32) (reader_place : Int32) (reader_start : Int32) (reader_token : Int32) (reader_value : Int32) (reader_wanted : Int32) (reader_compared : Int32) (reader_opened : Int32) (reader_nested : Int32) (reader_height : Int32) (reader_made : Int32) (reader_codeLength : Int32) (weigher_height : Int32) (forces_size : Int32) (debts_size : Int32) (roll_size : Int32) (sticks_size : Int32) (self_chest : Int64) (self_brought : Int64), wx = [(A_self, .inr (6, [.ref A_tape, .ref A_reader, .ref A_weigher, .ref A_texts, .int self_textsRead, .ref A_forces, .ref A_credits, .ref A_held, .ref A_cameAt, .ref A_farms, .ref A_sheriffs, .ref A_debts, .ref A_roll, .ref A_sticks, .ref A_table, .int self_now, .long self_chest, .long self_brought])), (A_tape, .inr (3, [.ref A_tape_bytes, .int tape_length])), (A_tape_bytes, .inl (c 0, 800, .inl f_tape_bytes)), (A_reader, .inr (1, [.ref A_tape, .int reader_place, .int reader_start, .int reader_token, .int reader_value, .int reader_wanted, .int reader_compared, .int reader_opened, .int reader_nested, .ref A_reader_pile, .int reader_height, .ref A_reader_acts, .ref A_reader_shares, .ref A_reader_starts, .int reader_made, .ref A_reader_code, .int reader_codeLength])), (A_reader_pile, .inl (c 1, 64, .inl f_reader_pile)), (A_reader_acts, .inl (c 1, 40, .inl f_reader_acts)), (A_reader_shares, .inl (c 1, 40, .inl f_reader_shares)), (A_reader_starts, .inl (c 1, 40, .inl f_reader_starts)), (A_reader_code, .inl (c 1, 800, .inl f_reader_code)), (A_weigher, .inr (5, [.ref A_weigher_facts, .ref A_weigher_pile, .int weigher_height])), (A_weigher_facts, .inl (c 2, 10, .inr (.inl f_weigher_facts))), (A_weigher_pile, .inl (c 2, 64, .inr (.inl f_weigher_pile))), (A_texts, .inl (c 4, 10, .inr (.inr (.inr (.inr f_texts))))), (A_forces, .inr (2, [.int 2, .int 40, .ref A_forces_cells, .int forces_size])), (A_forces_cells, .inl (c 1, n_forces_cells, .inl f_forces_cells)), (A_credits, .inl (c 2, 16, .inr (.inl f_credits))), (A_held, .inl (c 3, 16, .inl f_held)), (A_cameAt, .inl (c 1, 16, .inl f_cameAt)), (A_farms, .inl (c 1, 8, .inl f_farms)), (A_sheriffs, .inl (c 1, 8, .inl f_sheriffs)), (A_debts, .inr (2, [.int 7, .int 400, .ref A_debts_cells, .int debts_size])), (A_debts_cells, .inl (c 1, n_debts_cells, .inl f_debts_cells)), (A_roll, .inr (2, [.int 8, .int 4000, .ref A_roll_cells, .int roll_size])), (A_roll_cells, .inl (c 1, n_roll_cells, .inl f_roll_cells)), (A_sticks, .inr (2, [.int 1, .int 2000, .ref A_sticks_cells, .int sticks_size])), (A_sticks_cells, .inl (c 1, n_sticks_cells, .inl f_sticks_cells)), (A_table, .inr (0, [.ref A_table_counters])), (A_table_counters, .inl (c 1, 6, .inl f_table_counters))] ∧ (0 ≤ self_textsRead.toInt ∧ self_textsRead.toInt ≤ 10) ∧ (0 ≤ self_now.toInt ∧ self_now.toInt ≤ 1000) ∧ (0 ≤ tape_length.toInt ∧ tape_length.toInt ≤ 800) ∧ (0 ≤ reader_compared.toInt ∧ reader_compared.toInt ≤ 1) ∧ (0 ≤ reader_height.toInt ∧ reader_height.toInt ≤ 64) ∧ (0 ≤ reader_made.toInt ∧ reader_made.toInt ≤ 1000) ∧ (0 ≤ reader_codeLength.toInt ∧ reader_codeLength.toInt ≤ 800) ∧ (0 ≤ weigher_height.toInt ∧ weigher_height.toInt ≤ 64) ∧ (0 ≤ forces_size.toInt ∧ forces_size.toInt ≤ 40) ∧ (32 ≤ n_forces_cells ∧ n_forces_cells ≤ 160) ∧ (2 * forces_size.toInt ≤ (n_forces_cells : Int)) ∧ (0 ≤ debts_size.toInt ∧ debts_size.toInt ≤ 400) ∧ (112 ≤ n_debts_cells ∧ n_debts_cells ≤ 5600) ∧ (7 * debts_size.toInt ≤ (n_debts_cells : Int)) ∧ (0 ≤ roll_size.toInt ∧ roll_size.toInt ≤ 4000) ∧ (128 ≤ n_roll_cells ∧ n_roll_cells ≤ 64000) ∧ (8 * roll_size.toInt ≤ (n_roll_cells : Int)) ∧ (0 ≤ sticks_size.toInt ∧ sticks_size.toInt ≤ 2000) ∧ (16 ≤ n_sticks_cells ∧ n_sticks_cells ≤ 4000) ∧ (1 * sticks_size.toInt ≤ (n_sticks_cells : Int)) ∧ (in9 n_roll_cells)
def LR (c : Nat → ClassId) (A_self : Nat) (kc : Nat) (wm : va_W) : Prop := ∃ (q : Nat → Nat) (v : Nat → Int32) (w : Nat → Int64) (f_tape : Nat → Int32) (f_many : Nat → Int32) (f_act : Nat → Int32) (f_share : Nat → Int32) (f_from : Nat → Int32) (f_to : Nat → Int32) (f_op : Nat → Int32) (f_number : Nat → Int32) (f_open : Nat → Int32) (f_forceText : Nat → Int32) (f_forceFrom : Nat → Int32) (f_farm : Nat → Int32) (f_sheriff : Nat → Int32) (f_debtor : Nat → Int32) (f_kind : Nat → Int32) (f_whole : Nat → Int32) (f_left : Nat → Int32) (f_made : Nat → Int32) (f_pledge : Nat → Int32) (f_pardoned : Nat → Int32) (f_credit : Nat → Int64) (f_held : Nat → Int32) (f_cameAt : Nat → Int32) (f_pile : Nat → Int64) (f_lineTerm : Nat → Int32) (f_linePerson : Nat → Int32) (f_lineDebt : Nat → Int32) (f_lineAct : Nat → Int32) (f_linePaid : Nat → Int32) (f_lineStatement : Nat → Int32) (f_lineText : Nat → Int32) (f_lineStick : Nat → Int32) (f_lineGone : Nat → Int32) (f_stick : Nat → Int32) (f_isAsked : Nat → Int32) (f_cloth : Nat → Int32), wm = [(A_self, .inr (7, o7 q v w)), (q 1, .inl (c 0, 800, .inl f_tape)), (q 9, .inl (c 1, 10, .inl f_many)), (q 10, .inl (c 1, 400, .inl f_act)), (q 11, .inl (c 1, 400, .inl f_share)), (q 12, .inl (c 1, 400, .inl f_from)), (q 13, .inl (c 1, 400, .inl f_to)), (q 14, .inl (c 1, 9000, .inl f_op)), (q 15, .inl (c 1, 9000, .inl f_number)), (q 18, .inl (c 1, 200, .inl f_open)), (q 22, .inl (c 1, 40, .inl f_forceText)), (q 23, .inl (c 1, 40, .inl f_forceFrom)), (q 25, .inl (c 1, 8, .inl f_farm)), (q 26, .inl (c 1, 8, .inl f_sheriff)), (q 28, .inl (c 1, 400, .inl f_debtor)), (q 29, .inl (c 1, 400, .inl f_kind)), (q 30, .inl (c 1, 400, .inl f_whole)), (q 31, .inl (c 1, 400, .inl f_left)), (q 32, .inl (c 1, 400, .inl f_made)), (q 33, .inl (c 1, 400, .inl f_pledge)), (q 34, .inl (c 1, 400, .inl f_pardoned)), (q 35, .inl (c 2, 16, .inr (.inl f_credit))), (q 36, .inl (c 3, 16, .inl f_held)), (q 37, .inl (c 1, 16, .inl f_cameAt)), (q 40, .inl (c 2, 400, .inr (.inl f_pile))), (q 43, .inl (c 1, 4000, .inl f_lineTerm)), (q 44, .inl (c 1, 4000, .inl f_linePerson)), (q 45, .inl (c 1, 4000, .inl f_lineDebt)), (q 46, .inl (c 1, 4000, .inl f_lineAct)), (q 47, .inl (c 1, 4000, .inl f_linePaid)), (q 48, .inl (c 1, 4000, .inl f_lineStatement)), (q 49, .inl (c 1, 4000, .inl f_lineText)), (q 50, .inl (c 1, 4000, .inl f_lineStick)), (q 51, .inl (c 1, 4000, .inl f_lineGone)), (q 53, .inl (c 1, 2000, .inl f_stick)), (q 54, .inl (c 3, 400, .inl f_isAsked)), (q 55, .inl (c 1, 6, .inl f_cloth))] ∧ (0 ≤ (v 2).toInt ∧ (v 2).toInt ≤ 800) ∧ (0 ≤ (v 8).toInt ∧ (v 8).toInt ≤ 10) ∧ (0 ≤ (v 21).toInt ∧ (v 21).toInt ≤ 40) ∧ (0 ≤ (v 24).toInt ∧ (v 24).toInt ≤ 1000) ∧ (0 ≤ (v 27).toInt ∧ (v 27).toInt ≤ 400) ∧ (0 ≤ (v 42).toInt ∧ (v 42).toInt ≤ 4000) ∧ (0 ≤ (v 52).toInt ∧ (v 52).toInt ≤ 2000) ∧ (∀ j : Nat, 0 ≤ (f_many j).toInt ∧ (f_many j).toInt ≤ 40) ∧ (∀ j : Nat, 0 ≤ (f_forceText j).toInt ∧ (f_forceText j).toInt ≤ 9) ∧ (∀ j : Nat, -1 ≤ (f_sheriff j).toInt ∧ (f_sheriff j).toInt ≤ 15) ∧ (∀ j : Nat, 0 ≤ (f_debtor j).toInt ∧ (f_debtor j).toInt ≤ 15) ∧ (∀ j : Nat, -1 ≤ (f_pledge j).toInt ∧ (f_pledge j).toInt ≤ 15) ∧ (TCd f_many f_from f_to f_op 9000) ∧ (∀ j : Nat, (v 8).toInt < (j : Int) → (f_many j).toInt = 0) ∧ (0 ≤ (f_cloth 0).toInt ∧ (f_cloth 0).toInt ≤ 11) ∧ (0 ≤ (f_cloth 1).toInt ∧ (f_cloth 1).toInt ≤ 19) ∧ (0 ≤ (f_cloth 2).toInt ∧ (f_cloth 2).toInt ≤ 19) ∧ (0 ≤ (f_cloth 3).toInt ∧ (f_cloth 3).toInt ≤ 4) ∧ (0 ≤ (f_cloth 4).toInt ∧ (f_cloth 4).toInt ≤ 9) ∧ (0 ≤ (f_cloth 5).toInt ∧ (f_cloth 5).toInt ≤ 5 * (kc : Int))
def LI (D : va_G) (c : Nat → ClassId) (A : Nat → Prop) (x0 m0 kc n : Nat) (H : Heap) : Prop := ∃ (wx wm tx : va_W) (T : Nat → Option Nat), LX c x0 T n  wx ∧ LR c m0 kc  wm ∧ TXin c T tx ∧ va_P D vwCl (wx ++ (wm ++ tx)) H ∧ va_D A (wx ++ (wm ++ tx))
theorem LX.nr {c : Nat → ClassId} {A_self : Nat} {f_texts : Nat → Option Nat} {n_roll_cells : Nat} {wx : va_W} (h : LX c A_self f_texts n_roll_cells  wx) : n_roll_cells ≤ 32768 := by
  obtain ⟨A_tape, A_reader, A_weigher, A_texts, A_forces, A_credits, A_held, A_cameAt, A_farms, A_sheriffs, A_debts, A_roll, A_sticks, A_table, A_tape_bytes, f_tape_bytes, A_reader_pile, A_reader_acts, A_reader_shares, A_reader_starts, A_reader_code, f_reader_pile, f_reader_acts, f_reader_shares, f_reader_starts, f_reader_code, A_weigher_facts, A_weigher_pile, f_weigher_facts, f_weigher_pile, A_forces_cells, n_forces_cells, f_forces_cells, f_credits, f_held, f_cameAt, f_farms, f_sheriffs, A_debts_cells, n_debts_cells, f_debts_cells, A_roll_cells, f_roll_cells, A_sticks_cells, n_sticks_cells, f_sticks_cells, A_table_counters, f_table_counters, self_textsRead, self_now, tape_length, reader_place, reader_start, reader_token, reader_value, reader_wanted, reader_compared, reader_opened, reader_nested, reader_height, reader_made, reader_codeLength, weigher_height, forces_size, debts_size, roll_size, sticks_size, self_chest, self_brought, rfl, hv_self_textsRead, hv_self_now, hv_tape_length, hv_reader_compared, hv_reader_height, hv_reader_made, hv_reader_codeLength, hv_weigher_height, hv_forces_size, hn_forces_cells, hm_forces_cells, hv_debts_size, hn_debts_cells, hm_debts_cells, hv_roll_size, hn_roll_cells, hm_roll_cells, hv_sticks_size, hn_sticks_cells, hm_sticks_cells, h9_⟩ := h
  exact (in9_le h9_).2
theorem LI.nr {D : va_G} {c : Nat → ClassId} {A : Nat → Prop} {x0 m0 kc n : Nat} {H : Heap} (h : LI D c A x0 m0 kc n H) : n ≤ 32768 := by
  obtain ⟨wx, wm, tx, T, h1, -⟩ := h
  exact h1.nr
theorem LR.more {c : Nat → ClassId} {A_self kc : Nat} {wm : va_W} (h : LR c A_self kc  wm) : LR c A_self (kc + 1)  wm := by
  obtain ⟨q, v, w, f_tape, f_many, f_act, f_share, f_from, f_to, f_op, f_number, f_open, f_forceText, f_forceFrom, f_farm, f_sheriff, f_debtor, f_kind, f_whole, f_left, f_made, f_pledge, f_pardoned, f_credit, f_held, f_cameAt, f_pile, f_lineTerm, f_linePerson, f_lineDebt, f_lineAct, f_linePaid, f_lineStatement, f_lineText, f_lineStick, f_lineGone, f_stick, f_isAsked, f_cloth, rfl, hv_2, hv_8, hv_21, hv_24, hv_27, hv_42, hv_52, hc_many, hc_forceText, hc_sheriff, hc_debtor, hc_pledge, h_tc, h_tz, h_cl0, h_cl1, h_cl2, h_cl3, h_cl4, h_cl5⟩ := h
  exact ⟨q, v, w, f_tape, f_many, f_act, f_share, f_from, f_to, f_op, f_number, f_open, f_forceText, f_forceFrom, f_farm, f_sheriff, f_debtor, f_kind, f_whole, f_left, f_made, f_pledge, f_pardoned, f_credit, f_held, f_cameAt, f_pile, f_lineTerm, f_linePerson, f_lineDebt, f_lineAct, f_linePaid, f_lineStatement, f_lineText, f_lineStick, f_lineGone, f_stick, f_isAsked, f_cloth, rfl, hv_2, hv_8, hv_21, hv_24, hv_27, hv_42, hv_52, hc_many, hc_forceText, hc_sheriff, hc_debtor, hc_pledge, h_tc, h_tz, h_cl0, h_cl1, h_cl2, h_cl3, h_cl4, (show 0 ≤ (f_cloth 5).toInt ∧ (f_cloth 5).toInt ≤ 5 * ((kc + 1 : Nat) : Int) by omega)⟩
theorem LI.more {D : va_G} {c : Nat → ClassId} {A : Nat → Prop} {x0 m0 kc n : Nat} {H : Heap} (h : LI D c A x0 m0 kc n H) : LI D c A x0 m0 (kc + 1) n H := by
  obtain ⟨wx, wm, tx, T, h1, h2, h3⟩ := h
  exact ⟨wx, wm, tx, T, h1, h2.more, h3⟩
