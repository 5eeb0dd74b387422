theorem st_ind {P : Nat → Prop} (h : ∀ N : Nat, (∀ M : Nat, M < N → P M) → P N) : ∀ N : Nat, P N := fun N => Nat.strongRecOn N h
theorem lcg_fact {x y : Int64} {n : Int32} {a b : Int} (e : n = lg_cmp x y) (hx : x.toInt = a) (hy : y.toInt = b) : (0 < n.toInt ↔ b < a) ∧ (n.toInt < 0 ↔ a < b) := by
  subst e
  rcases Int.lt_trichotomy a b with h | h | h
  · rw [lcg_lt hx hy h]; exact ⟨⟨fun z => absurd z (by decide), fun z => by omega⟩, ⟨fun _ => h, fun _ => by decide⟩⟩
  · rw [lcg_eq (Int64.toInt_inj.mp (by rw [hx, hy]; exact h))]; exact ⟨⟨fun z => absurd z (by decide), fun z => by omega⟩, ⟨fun z => absurd z (by decide), fun z => by omega⟩⟩
  · rw [lcg_gt hx hy h]; exact ⟨⟨fun _ => h, fun _ => by decide⟩, ⟨fun z => absurd z (by decide), fun z => by omega⟩⟩
theorem wth_int (j : Nat) : ∃ x : Int32, wth j = .int x := by unfold wth; split <;> exact ⟨_, rfl⟩
theorem nxt_int (j : Nat) : ∃ x : Int32, nxt j = .int x := by unfold nxt; split <;> exact ⟨_, rfl⟩
/-- a method that only reads, and no table -/
def Pre1 (D : va_G) (c : Nat → ClassId) (ws : va_W) (U : State) : Prop := va_P D vwCl ws U.heap ∧ Amb D c U
theorem Pre1.blind {D : va_G} {c : Nat → ClassId} {ws : va_W} {av : List Value} : FrameBlind (va_Pc av (Pre1 D c ws)) := by
  intro a U g mk q
  obtain ⟨q0, qP, qA⟩ := q
  exact ⟨q0, qP, ⟨va_K.moved (u := U) (U := U.calling g mk a) (Vm.Alike.refl U.vm) qA.1, NW.same (u := U) (U := U.calling g mk a) rfl qA.2.1, va_AO.moved (u := U) (U := U.calling g mk a) (Vm.Alike.refl U.vm) qA.2.2.1, va_Nw.same (u := U) (U := U.calling g mk a) rfl rfl qA.2.2.2⟩⟩
theorem Pre1.at {D : va_G} {c : Nat → ClassId} {wc : va_W} {av : List Value} {s : State} {H : Heap} (hPc : va_P D vwCl wc H) (hAm : Amb D c s) : ∀ U : State, U.heap = H → s.WarmedH U.vm → va_Pc av (Pre1 D c wc) av.toArray U := fun U hU hW => ⟨rfl, by rw [hU]; exact hPc, hAm.warm hW⟩
/-- cells that are only read, and that are none of the method's own -/
def PreF (D : va_G) (c : Nat → ClassId) (ts : Nat × Nat) (ws fz : va_W) (sz : Nat) (U : State) : Prop := Pre0 D c ts ws sz U ∧ va_P D vwCl fz U.heap ∧ ∀ (k : Nat) (q : Nat × va_E), fz[k]? = some q → ¬ va_A ws sz q.1
theorem PreF.blind {D : va_G} {c : Nat → ClassId} {ts : Nat × Nat} {ws fz : va_W} {sz : Nat} {av : List Value} : FrameBlind (va_Pc av (PreF D c ts ws fz sz)) := fun a U g mk q => ⟨q.1, (Pre0.blind (av := av) a U g mk ⟨q.1, q.2.1⟩).2, q.2.2⟩
theorem PreF.at {D : va_G} {c : Nat → ClassId} {ts : Nat × Nat} {wc fz : va_W} {av : List Value} {A : Nat → Prop} {s : State} {H : Heap} {locs : List Loc} (hPc : va_P D vwCl wc H) (hDc : va_D A wc) (hAm : Amb D c s) (hSt : Stt ts A s s.heap) (hS : va_S A s.heap H locs) (hF : ∀ q, va_A wc H.size q → A q) (hZ : va_P D vwCl fz H) (hZA : ∀ (k : Nat) (q : Nat × va_E), fz[k]? = some q → ¬ va_A wc H.size q.1) : ∀ U : State, U.heap = H → s.WarmedH U.vm → va_Pc av (PreF D c ts wc fz H.size) av.toArray U := fun U hU hW => ⟨rfl, (Pre0.at (av := av) hPc hDc hAm hSt hS hF U hU hW).2, by rw [hU]; exact hZ, hZA⟩
theorem fzk {D : va_G} {fz : va_W} {A : Nat → Prop} {H0 H : Heap} {locs : List Loc} (hZ : va_P D vwCl fz H0) (hZA : ∀ (k : Nat) (q : Nat × va_E), fz[k]? = some q → ¬ A q.1) (hS : va_S A H0 H locs) : va_P D vwCl fz H := fun k q hk => (hZ k q hk).kept (hS.2.1 q.1 ((hZ k q hk).lt) (hZA k q hk))
/-- a text's five cells -/
abbrev tx5 (c : Nat → ClassId) (a : Nat) (b n : Nat → Nat) (f : Nat → Nat → Int32) : va_W := [(a, .inr (4, [.ref (b 0), .ref (b 1), .ref (b 2), .ref (b 3)])), (b 0, .inl (c 1, n 0, .inl (f 0))), (b 1, .inl (c 1, n 1, .inl (f 1))), (b 2, .inl (c 1, n 2, .inl (f 2))), (b 3, .inl (c 1, n 3, .inl (f 3)))]
/-- the texts that an array names: each has its cells, none of them in A -/
def TXF (D : va_G) (c : Nat → ClassId) (T : Nat → Option Nat) (A : Nat → Prop) (H : Heap) : Prop := ∀ (j a : Nat), T j = some a → ∃ (b n : Nat → Nat) (f : Nat → Nat → Int32), (∀ k, n k ≤ 2000) ∧ va_P D vwCl (tx5 c a b n f) H ∧ ∀ (k : Nat) (q : Nat × va_E), (tx5 c a b n f)[k]? = some q → ¬ A q.1
theorem TXF.at {D : va_G} {c : Nat → ClassId} {T : Nat → Option Nat} {A B : Nat → Prop} {H0 H : Heap} {locs : List Loc} (h : TXF D c T A H0) (hS : va_S A H0 H locs) (hF : ∀ q, B q → A q) : TXF D c T B H := by
  intro j a hj
  obtain ⟨b, n, f, h1, h2, h3⟩ := h j a hj
  exact ⟨b, n, f, h1, fzk h2 h3 hS, fun k q hk hB => h3 k q hk (hF _ hB)⟩
def PreT (D : va_G) (c : Nat → ClassId) (ts : Nat × Nat) (ws : va_W) (T : Nat → Option Nat) (sz : Nat) (U : State) : Prop := Pre0 D c ts ws sz U ∧ TXF D c T (va_A ws sz) U.heap
theorem PreT.blind {D : va_G} {c : Nat → ClassId} {ts : Nat × Nat} {ws : va_W} {T : Nat → Option Nat} {sz : Nat} {av : List Value} : FrameBlind (va_Pc av (PreT D c ts ws T sz)) := fun a U g mk q => ⟨q.1, (Pre0.blind (av := av) a U g mk ⟨q.1, q.2.1⟩).2, q.2.2⟩
theorem PreT.at {D : va_G} {c : Nat → ClassId} {ts : Nat × Nat} {wc : va_W} {T : Nat → Option Nat} {av : List Value} {A : Nat → Prop} {s : State} {H : Heap} {locs : List Loc} (hPc : va_P D vwCl wc H) (hDc : va_D A wc) (hAm : Amb D c s) (hSt : Stt ts A s s.heap) (hS : va_S A s.heap H locs) (hF : ∀ q, va_A wc H.size q → A q) (hT : TXF D c T A s.heap) : ∀ U : State, U.heap = H → s.WarmedH U.vm → va_Pc av (PreT D c ts wc T H.size) av.toArray U := fun U hU hW => ⟨rfl, (Pre0.at (av := av) hPc hDc hAm hSt hS hF U hU hW).2, by rw [hU]; exact hT.at hS hF⟩
/-- the text's own methods -/
def PrS9 (a b : Nat) (U : State) : Prop := SF a b (fun _ => False) U U.heap
theorem PrS9.blind {a b : Nat} {av : List Value} : FrameBlind (va_Pc av (PrS9 a b)) := fun _ U g mk q => ⟨q.1, SF.same (u := U) (U := U.calling g mk _) rfl q.2⟩
theorem PrS9.at {a b : Nat} {av : List Value} {A : Nat → Prop} {s : State} {H : Heap} {locs : List Loc} (h : SF a b A s s.heap) (hS : va_S A s.heap H locs) : ∀ U : State, U.heap = H → s.WarmedH U.vm → va_Pc av (PrS9 a b) av.toArray U := fun U hU hW => ⟨rfl, by unfold PrS9; rw [hU]; exact ((h.kept hS.2.1).narrow (fun _ z => z.elim)).warm hW⟩
theorem nneg {x : Int32} {a : Int} (hx : x.toInt = a) (h : 0 ≤ a) : ¬ x < 0 := fun z => by have h1 := Int32.lt_iff_toInt_lt.mp z; rw [hx] at h1; have h2 : (0 : Int32).toInt = 0 := rfl; omega
theorem clampN {x : Int32} {a : Int} (hx : x.toInt = a) : x.toNatClampNeg = a.toNat := by rw [← hx]; rfl
theorem min_fact {x y z : Int32} {a b : Int} (e : z = if y < x then y else x) (hx : x.toInt = a) (hy : y.toInt = b) : z.toInt ≤ a ∧ z.toInt ≤ b ∧ (z.toInt = a ∨ z.toInt = b) := by
  subst e
  split
  · next h => have h1 := Int32.lt_iff_toInt_lt.mp h; rw [hx, hy] at h1; rw [hy]; omega
  · next h => have h1 : ¬ y.toInt < x.toInt := fun q => h (Int32.lt_iff_toInt_lt.mpr q); rw [hx, hy] at h1; rw [hx]; omega
theorem fitsI (cA : ClassId) (n : Nat) (f : Nat → Int32) : ∀ (i : Nat) (v : Value), (vp_cell cA (n, .inl f)).slots[i]? = some v → fits .int v = true := by
  intro i v h
  have h1 : (arrV cA n (fun j => .int (f j))).slots[i]? = some v := h
  by_cases hi : i < n
  · rw [arrV_read _ _ hi] at h1; cases h1; rfl
  · have h2 : i < (arrV cA n (fun j => .int (f j))).slots.size := (Array.getElem?_eq_some_iff.mp h1).1
    rw [arrV_size] at h2; omega
theorem upd_ne (f : Nat → Int32) {k j : Nat} (x : Int32) (h : ¬ j = k) : upd f k x j = f j := by unfold upd; rw [if_neg h]
theorem upd_eq (f : Nat → Int32) (k : Nat) (x : Int32) : upd f k x k = x := by unfold upd; rw [if_pos rfl]
theorem cpy0 {f g : Nat → Int32} {x : Int32} {j : Nat} (h : j < x.toNatClampNeg) : va_cpy f g (0 : Int32).toNatClampNeg (0 : Int32).toNatClampNeg x.toNatClampNeg j = f j := by
  have z : (0 : Int32).toNatClampNeg = 0 := rfl
  rw [z]; unfold va_cpy; rw [if_pos ⟨Nat.zero_le _, by omega⟩]; congr 1; omega
theorem str_recv {a b : Nat} {A : Nat → Prop} {s : State} {H : Heap} {locs : List Loc} (h : SF a b A s s.heap) (hS : va_S A s.heap H locs) : ∃ cell : Cell, H[a]? = some cell ∧ cell.vm.isStatics = false ∧ s.vm.findClass "java/lang/String" = some cell.cls := by
  obtain ⟨cell, h1, h2, h3, -⟩ := h.1.kept hS.2.1
  exact ⟨cell, h1, h2, h3⟩
theorem Zq_val {C n d : String} {A : Nat → Prop} {U : State} {H : Heap} (h : va_Zq C n d A U H) : ∃ o : Option Nat, va_Z C n d (va_rf o) A U H := by
  rcases h with h | ⟨t, h⟩
  · exact ⟨none, h⟩
  · exact ⟨some t, h⟩
theorem nar_c (x : Int32) : narrow .char (.int ((x.toUInt32 % 65536).toInt32)) = .int ((x.toUInt32 % 65536).toInt32) := by
  have e : x.toUInt32 % 65536 % 65536 = x.toUInt32 % 65536 := UInt32.toNat_inj.mp (by simp [UInt32.toNat_mod])
  show Value.int _ = Value.int _
  congr 1
  simp [e]
def Sv9 : Array Value → State → Outcome → State → Prop := fun _ st oc t => oc = .returned none ∧ t.heap = st.heap
section SV9
variable {p : Program} {l : Launch} {e : Env} {R : Room} {s : State} {m : MethodId} {args : Array Value} {below : List Frame} {meth : Method} {c : Code} {H : Heap} {locs : List Loc} {cells slots : Nat} {Q : State → Prop}
variable {pc : Nat} {ls : Array Slot} {rest st0 : List Value} {a : Array Value}
theorem va_csv9 (hr : va_Run p l e R s m args below meth c H locs cells slots 0 0 (F0 m pc ls st0) rest (Sv9 a) (fun _ => False)) (kk : W p l e R s m args below meth c H locs cells slots Q (F0 m (pc + 3) ls rest)) : W p l e R s m args below meth c H locs cells slots Q (F0 m pc ls st0) := by
  intro T hT X
  obtain ⟨v, st₀, t, T', L, h0, X', hL, e1, e2, ⟨hv, hh⟩, st⟩ := hr T hT X
  cases hv
  obtain ⟨t2, a1, b1⟩ := kk T' (by rw [e1, hh, h0]) (Stand.forget X' (fun q h => (hL q h).elim))
  exact ⟨t2, st t2 a1, b1⟩
end SV9
/-- how many debts from d on, k of them, are owed by p -/
def owc (f : Nat → Int32) (p d : Int) : Nat → Int
  | 0 => 0
  | k + 1 => (if 0 < (f (7 * d + 3).toNat).toInt ∧ (f (7 * d + 0).toNat).toInt = p then 1 else 0) + owc f p (d + 1) k
theorem owc_step (f : Nat → Int32) (p : Int) {d n : Int} (h : d < n) : owc f p d (n - d).toNat = (if 0 < (f (7 * d + 3).toNat).toInt ∧ (f (7 * d + 0).toNat).toInt = p then 1 else 0) + owc f p (d + 1) (n - (d + 1)).toNat := by
  have e : (n - d).toNat = (n - (d + 1)).toNat + 1 := by omega
  rw [e]; rfl
theorem owc_bd (f : Nat → Int32) (p : Int) : ∀ (d : Int) (k : Nat), 0 ≤ owc f p d k ∧ owc f p d k ≤ k := by
  intro d k
  induction k generalizing d with
  | zero => exact ⟨Int.le_refl _, Int.le_refl _⟩
  | succ k ih =>
    have h := ih (d + 1)
    unfold owc
    split <;> omega
theorem owc_congr {f g : Nat → Int32} (p : Int) : ∀ (k : Nat) (d : Int), 0 ≤ d → (∀ j : Nat, 7 * d ≤ (j : Int) → g j = f j) → owc g p d k = owc f p d k := by
  intro k
  induction k with
  | zero => intro d _ _; rfl
  | succ k ih =>
    intro d h0 h
    unfold owc
    rw [ih (d + 1) (by omega) (fun j hj => h j (by omega)), h (7 * d + 3).toNat (by omega), h (7 * d + 0).toNat (by omega)]
theorem of_row {c : ByteArray} {L : List (Nat × Instr × Nat)} {r : Nat × Instr × Nat} (h : L.all (fun r => decide (decode c r.1 = .ok r.2)) = true) (i : Nat) (e : L[i]? = some r) : decode c r.1 = .ok r.2 := of_decide_eq_true (List.all_eq_true.mp h r (List.mem_of_getElem? e))
