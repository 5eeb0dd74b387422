def Hid (p : Prop) : Prop := p
theorem Hid.mk {p : Prop} (h : p) : Hid p := h
theorem osi_top2 {f : Nat → Int32} {o : Int} (h : OSi f o) (h0 : 0 < o) (hx : (f (o - 1).toNat).toInt = 2) : o - 1 ≤ 3 * cnI f (o - 1) + 2 := by
  have h1 := h (o - 1) (by omega) (by omega)
  rcases h1 with ⟨e, -⟩ | ⟨e, -⟩ | ⟨e, h3⟩
  · exfalso; omega
  · exfalso; omega
  · exact h3
theorem osi_top3 {f : Nat → Int32} {o : Int} (h : OSi f o) (h0 : 0 < o) (hx : (f (o - 1).toNat).toInt = 3) : o - 1 ≤ 3 * cnI f (o - 1) + 1 ∧ Hid (o - 1 = 0 ∨ (f (o - 1 - 1).toNat).toInt = 4 ∨ (f (o - 1 - 1).toNat).toInt = 40) := by
  have h1 := h (o - 1) (by omega) (by omega)
  rcases h1 with ⟨e, -⟩ | ⟨e, h3, h4⟩ | ⟨e, -⟩
  · exfalso; omega
  · exact ⟨h3, h4⟩
  · exfalso; omega
theorem osi_top4 {f : Nat → Int32} {o : Int} (h : OSi f o) (h0 : 0 < o) (hx : (f (o - 1).toNat).toInt = 4) : o - 1 ≤ 3 * cnI f (o - 1) ∧ Hid (o - 1 = 0 ∨ (f (o - 1 - 1).toNat).toInt = 40) := by
  have h1 := h (o - 1) (by omega) (by omega)
  rcases h1 with ⟨e, h3, h4⟩ | ⟨e, -⟩ | ⟨e, -⟩
  · exact ⟨h3, h4⟩
  · exfalso; omega
  · exfalso; omega
theorem t4_of {o x : Int} (h0 : 0 ≤ o) (h : Hid (o = 0 ∨ x = 4 ∨ x = 40)) (n : Hid (¬ (0 < o ∧ x = 4))) : Hid (o = 0 ∨ x = 40) := by
  unfold Hid at *
  omega
theorem push_andH {f : Nat → Int32} {o : Int} (h0 : 0 ≤ o) (h : OSi f o) (n2 : Hid (¬ (0 < o ∧ (f (o - 1).toNat).toInt = 2))) (n3 : Hid (¬ (0 < o ∧ (f (o - 1).toNat).toInt = 3))) : o ≤ 3 * cnI f o + 1 ∧ Hid (o = 0 ∨ (f (o - 1).toNat).toInt = 4 ∨ (f (o - 1).toNat).toInt = 40) := push_and h0 h n2 n3
theorem push_orH {f : Nat → Int32} {o : Int} (h0 : 0 ≤ o) (h : OSi f o) (ht : Hid (o = 0 ∨ (f (o - 1).toNat).toInt = 40)) : o ≤ 3 * cnI f o := push_or h0 h ht
