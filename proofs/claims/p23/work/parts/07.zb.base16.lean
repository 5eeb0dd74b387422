/-- the slots of a heap, all of them -/
def hs (H : Heap) : Nat := H.foldl (fun n c => n + c.slots.size) 0
section HSW
variable {p : Program} {l : Launch} {e : Env} {R : Room} {s : State} {m : MethodId} {args : Array Value} {below : List Frame} {meth : Method} {c : Code} {H : Heap} {locs : List Loc} {cells slots : Nat} {Q : State → Prop} {T : State} {g : JFrame}
theorem hs_two (X : Stand p l e R s m args below meth c T locs cells slots) : T.slotsUsed = hs T.heap ∧ s.slotsUsed = hs s.heap := by
  have h1 : T.slotsTrue = true := X.book
  have h0 : s.slotsTrue = true := by
    have h := X.room
    simp only [State.hasRoom, Bool.and_eq_true] at h
    exact h.2
  unfold State.slotsTrue at h0 h1
  exact ⟨eq_of_beq h1, eq_of_beq h0⟩
theorem W.know (k : hs H ≤ hs s.heap + slots → W p l e R s m args below meth c H locs cells slots Q g) : W p l e R s m args below meth c H locs cells slots Q g := by
  intro T hT X
  have h := hs_two X
  have h2 := X.used
  have h3 : hs H ≤ hs s.heap + slots := by rw [← hT]; omega
  exact k h3 T hT X
theorem W.refund {n : Nat} (h : hs H ≤ hs s.heap + n) (k : W p l e R s m args below meth c H locs cells n Q g) : W p l e R s m args below meth c H locs cells slots Q g := by
  intro T hT X
  have h1 := hs_two X
  obtain ⟨g1, g2, g3, g4, g5, g6⟩ := X.same
  have g7 : T.slotsUsed = s.slotsUsed + (((T.setVm s.vm).heap.toList.drop s.heap.size).map (·.slots.size)).sum := g4
  have g8 : (((T.setVm s.vm).heap.toList.drop s.heap.size).map (·.slots.size)).sum ≤ n := by rw [← hT] at h; omega
  exact k T hT ⟨X.admits, X.cas, X.clock, X.frames, X.room, X.hears, X.method, X.code, X.here, X.tail, X.warmed, X.limits, X.bytes, ⟨g1, g2, g3, g4, g8, g6⟩⟩
end HSW
/-- as PreT, with the heap's slots named -/
def PreH (D : va_G) (c : Nat → ClassId) (ts : Nat × Nat) (ws : va_W) (T : Nat → Option Nat) (sz hz : Nat) (U : State) : Prop := PreT D c ts ws T sz U ∧ hs U.heap = hz
theorem PreH.blind {D : va_G} {c : Nat → ClassId} {ts : Nat × Nat} {ws : va_W} {T : Nat → Option Nat} {sz hz : Nat} {av : List Value} : FrameBlind (va_Pc av (PreH D c ts ws T sz hz)) := fun a U g mk q => ⟨q.1, (PreT.blind (av := av) a U g mk ⟨q.1, q.2.1⟩).2, q.2.2⟩
theorem PreH.at {D : va_G} {c : Nat → ClassId} {ts : Nat × Nat} {wc : va_W} {T : Nat → Option Nat} {av : List Value} {A : Nat → Prop} {s : State} {H : Heap} {locs : List Loc} {hz : Nat} (hPc : va_P D vwCl wc H) (hDc : va_D A wc) (hAm : Amb D c s) (hSt : Stt ts A s s.heap) (hS : va_S A s.heap H locs) (hF : ∀ q, va_A wc H.size q → A q) (hT : TXF D c T A s.heap) (hh : hs H = hz) : ∀ U : State, U.heap = H → s.WarmedH U.vm → va_Pc av (PreH D c ts wc T H.size hz) av.toArray U := fun U hU hW => ⟨rfl, (PreT.at (av := av) hPc hDc hAm hSt hS hF hT U hU hW).2, by rw [hU]; exact hh⟩
