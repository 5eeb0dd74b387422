theorem nfw9 : nativeFrameWords "java/lang/System" "arraycopy" 5 = 7 := by decide +kernel
theorem i32r (x : Int32) : -2147483648 ≤ x.toInt ∧ x.toInt ≤ 2147483647 := ⟨Int32.le_toInt x, Int.le_of_lt_add_one (Int32.toInt_lt x)⟩
/-- how many farms from d on, k of them, fall due, as the class asks -/
def fmk (f g : Nat → Int32) (d : Int) : Nat → Int
  | 0 => 0
  | k + 1 => (if 0 < (f d.toNat).toInt ∧ ¬ (g d.toNat).toInt = -1 then 1 else 0) + fmk f g (d + 1) k
theorem fmk_step (f g : Nat → Int32) {d n : Int} (h : d < n) : fmk f g d (n - d).toNat = (if 0 < (f d.toNat).toInt ∧ ¬ (g d.toNat).toInt = -1 then 1 else 0) + fmk f g (d + 1) (n - (d + 1)).toNat := by
  have e : (n - d).toNat = (n - (d + 1)).toNat + 1 := by omega
  rw [e]; rfl
theorem fmk_bd (f g : Nat → Int32) : ∀ (d : Int) (k : Nat), 0 ≤ fmk f g d k ∧ fmk f g d k ≤ k := by
  intro d k
  induction k generalizing d with
  | zero => exact ⟨Int.le_refl _, Int.le_refl _⟩
  | succ k ih =>
    have h := ih (d + 1)
    unfold fmk
    split <;> omega
theorem upd_sh {f : Nat → Int32} {a x : Int32} {i : Int} (ha : a.toInt = i) (h0 : 0 ≤ i) (j : Nat) : upd f a.toNatClampNeg x j = if (1 : Int32).toInt = 1 ∧ (j : Int) = i then x else f j := by
  rw [clampN ha]
  unfold upd
  by_cases h : (j : Int) = i
  · rw [if_pos (by omega), if_pos ⟨rfl, h⟩]
  · rw [if_neg (by omega), if_neg (fun z => h z.2)]
