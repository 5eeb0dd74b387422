/-- the lengths that the roll's cells can have -/
def in9 (n : Nat) : Prop := n = 128 ∨ n = 256 ∨ n = 512 ∨ n = 1024 ∨ n = 2048 ∨ n = 4096 ∨ n = 8192 ∨ n = 16384 ∨ n = 32768
theorem in9_grow {n m : Nat} (hn : in9 n) (hm : in9 m) (h : n < m) : 2 * n ≤ m := by unfold in9 at hn hm; omega
theorem in9_dbl {n m : Nat} (hn : in9 n) (hm : in9 m) (h : 2 * n ≤ m) : in9 (2 * n) := by unfold in9 at hn hm ⊢; omega
theorem in9_end {n m : Nat} (hn : in9 n) (hm : in9 m) (h : n ≤ m) (h2 : m < 2 * n) : n = m := by unfold in9 at hn hm; omega
def Imp9 (p q : Prop) : Prop := p → q
