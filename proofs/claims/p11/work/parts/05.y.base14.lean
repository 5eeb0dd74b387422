theorem fmk_fmc (f g : Nat → Int32) (hg : ∀ j : Nat, -1 ≤ (g j).toInt ∧ (g j).toInt ≤ 15) : ∀ (k : Nat) (d : Int), fmk f g d k = fmc f g d k := by
  intro k
  induction k with
  | zero => intro d; rfl
  | succ k ih =>
    intro d
    unfold fmk fmc
    rw [ih (d + 1)]
    have h := hg d.toNat
    congr 1
    by_cases h1 : 0 < (f d.toNat).toInt ∧ 0 ≤ (g d.toNat).toInt
    · rw [if_pos h1, if_pos (by omega)]
    · rw [if_neg h1, if_neg (by omega)]
