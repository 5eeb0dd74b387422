theorem nfw9 : nativeFrameWords "java/lang/System" "arraycopy" 5 = 7 := by decide +kernel
theorem i32r (x : Int32) : -2147483648 ≤ x.toInt ∧ x.toInt ≤ 2147483647 := ⟨Int32.le_toInt x, Int.le_of_lt_add_one (Int32.toInt_lt x)⟩
def DgI (z n0 n1 n2 n3 n4 n5 : Int) : Prop := z % 12 = n0 ∧ z / 12 % 20 = n1 ∧ z / 240 % 20 = n2 ∧ z / 4800 % 5 = n3 ∧ z / 24000 % 10 = n4 ∧ z / 240000 = n5
theorem DgI.ex (z : Int) : ∃ n0 n1 n2 n3 n4 n5 : Int, DgI z n0 n1 n2 n3 n4 n5 := ⟨_, _, _, _, _, _, rfl, rfl, rfl, rfl, rfl, rfl⟩
theorem DgI.bd {z n0 n1 n2 n3 n4 n5 : Int} (h : DgI z n0 n1 n2 n3 n4 n5) (hz : 0 ≤ z ∧ z ≤ 1000000) : (0 ≤ n0 ∧ n0 ≤ 11) ∧ (0 ≤ n1 ∧ n1 ≤ 19) ∧ (0 ≤ n2 ∧ n2 ≤ 19) ∧ (0 ≤ n3 ∧ n3 ≤ 4) ∧ (0 ≤ n4 ∧ n4 ≤ 9) ∧ (0 ≤ n5 ∧ n5 ≤ 4) ∧ z = n0 + 12 * n1 + 240 * n2 + 4800 * n3 + 24000 * n4 + 240000 * n5 := by
  obtain ⟨h0, h1, h2, h3, h4, h5⟩ := h
  have e0 : z = 12 * (z / 12) + z % 12 := by clear h0 h1 h2 h3 h4 h5; omega
  have e1 : z / 12 = 20 * (z / 240) + z / 12 % 20 := by clear h0 h1 h2 h3 h4 h5 e0; omega
  have e2 : z / 240 = 20 * (z / 4800) + z / 240 % 20 := by clear h0 h1 h2 h3 h4 h5 e0 e1; omega
  have e3 : z / 4800 = 5 * (z / 24000) + z / 4800 % 5 := by clear h0 h1 h2 h3 h4 h5 e0 e1 e2; omega
  have e4 : z / 24000 = 10 * (z / 240000) + z / 24000 % 10 := by clear h0 h1 h2 h3 h4 h5 e0 e1 e2 e3; omega
  have b0 : 0 ≤ z % 12 ∧ z % 12 ≤ 11 := by clear h0 h1 h2 h3 h4 h5 e0 e1 e2 e3 e4; omega
  have b1 : 0 ≤ z / 12 % 20 ∧ z / 12 % 20 ≤ 19 := by clear h0 h1 h2 h3 h4 h5 e0 e1 e2 e3 e4; omega
  have b2 : 0 ≤ z / 240 % 20 ∧ z / 240 % 20 ≤ 19 := by clear h0 h1 h2 h3 h4 h5 e0 e1 e2 e3 e4; omega
  have b3 : 0 ≤ z / 4800 % 5 ∧ z / 4800 % 5 ≤ 4 := by clear h0 h1 h2 h3 h4 h5 e0 e1 e2 e3 e4; omega
  have b4 : 0 ≤ z / 24000 % 10 ∧ z / 24000 % 10 ≤ 9 := by clear h0 h1 h2 h3 h4 h5 e0 e1 e2 e3 e4; omega
  have b5 : 0 ≤ z / 240000 ∧ z / 240000 ≤ 4 := by clear h0 h1 h2 h3 h4 h5 e0 e1 e2 e3 e4; omega
  rw [h0] at e0 b0
  rw [h1] at e1 b1
  rw [h2] at e2 b2
  rw [h3] at e3 b3
  rw [h4, h5] at e4
  rw [h4] at b4
  rw [h5] at b5
  clear h0 h1 h2 h3 h4 h5
  generalize z / 12 = y1 at e0 e1
  generalize z / 240 = y2 at e1 e2
  generalize z / 4800 = y3 at e2 e3
  generalize z / 24000 = y4 at e3 e4
  exact ⟨b0, b1, b2, b3, b4, b5, by omega⟩
theorem DgI.same {z n0 n1 n2 n3 n4 n5 w0 w1 w2 w3 w4 w5 : Int} (h : DgI z n0 n1 n2 n3 n4 n5) (g : DgI z w0 w1 w2 w3 w4 w5) : n0 = w0 ∧ n1 = w1 ∧ n2 = w2 ∧ n3 = w3 ∧ n4 = w4 ∧ n5 = w5 := by
  obtain ⟨h0, h1, h2, h3, h4, h5⟩ := h
  obtain ⟨g0, g1, g2, g3, g4, g5⟩ := g
  exact ⟨h0.symm.trans g0, h1.symm.trans g1, h2.symm.trans g2, h3.symm.trans g3, h4.symm.trans g4, h5.symm.trans g5⟩
def LayI (c0 c1 c2 c3 c4 c5 d0 d1 d2 d3 d4 d5 z r : Int) : Prop := ∃ n0 n1 n2 n3 n4 n5 k0 k1 k2 k3 k4 : Int, DgI z n0 n1 n2 n3 n4 n5 ∧ (0 ≤ k0 ∧ k0 ≤ 1) ∧ (0 ≤ k1 ∧ k1 ≤ 1) ∧ (0 ≤ k2 ∧ k2 ≤ 1) ∧ (0 ≤ k3 ∧ k3 ≤ 1) ∧ (0 ≤ k4 ∧ k4 ≤ 1) ∧ d0 = c0 + n0 - 12 * k0 ∧ d1 = c1 + n1 + k0 - 20 * k1 ∧ d2 = c2 + n2 + k1 - 20 * k2 ∧ d3 = c3 + n3 + k2 - 5 * k3 ∧ d4 = c4 + n4 + k3 - 10 * k4 ∧ d5 = c5 + n5 + k4 ∧ r = k0 + k1 + k2 + k3 + k4
theorem LayI.det {c0 c1 c2 c3 c4 c5 d0 d1 d2 d3 d4 d5 e0 e1 e2 e3 e4 e5 z r r2 : Int} (h1 : LayI c0 c1 c2 c3 c4 c5 d0 d1 d2 d3 d4 d5 z r) (h2 : LayI c0 c1 c2 c3 c4 c5 e0 e1 e2 e3 e4 e5 z r2) (hd0 : 0 ≤ d0 ∧ d0 ≤ 11) (hd1 : 0 ≤ d1 ∧ d1 ≤ 19) (hd2 : 0 ≤ d2 ∧ d2 ≤ 19) (hd3 : 0 ≤ d3 ∧ d3 ≤ 4) (hd4 : 0 ≤ d4 ∧ d4 ≤ 9) (he0 : 0 ≤ e0 ∧ e0 ≤ 11) (he1 : 0 ≤ e1 ∧ e1 ≤ 19) (he2 : 0 ≤ e2 ∧ e2 ≤ 19) (he3 : 0 ≤ e3 ∧ e3 ≤ 4) (he4 : 0 ≤ e4 ∧ e4 ≤ 9) : d0 = e0 ∧ d1 = e1 ∧ d2 = e2 ∧ d3 = e3 ∧ d4 = e4 ∧ d5 = e5 ∧ r = r2 := by
  obtain ⟨n0, n1, n2, n3, n4, n5, k0, k1, k2, k3, k4, dg1, b0, b1, b2, b3, b4, q0, q1, q2, q3, q4, q5, hr⟩ := h1
  obtain ⟨w0, w1, w2, w3, w4, w5, m0, m1, m2, m3, m4, dg2, a0, a1, a2, a3, a4, p0, p1, p2, p3, p4, p5, hs⟩ := h2
  obtain ⟨rfl, rfl, rfl, rfl, rfl, rfl⟩ := dg1.same dg2
  clear dg1 dg2
  have e0 : k0 = m0 := by clear hr hs q1 p1 q2 p2 q3 p3 q4 p4 q5 p5; omega
  subst e0
  have e1 : k1 = m1 := by clear hr hs q0 p0 q2 p2 q3 p3 q4 p4 q5 p5; omega
  subst e1
  have e2 : k2 = m2 := by clear hr hs q0 p0 q1 p1 q3 p3 q4 p4 q5 p5; omega
  subst e2
  have e3 : k3 = m3 := by clear hr hs q0 p0 q1 p1 q2 p2 q4 p4 q5 p5; omega
  subst e3
  have e4 : k4 = m4 := by clear hr hs q0 p0 q1 p1 q2 p2 q3 p3 q5 p5; omega
  subst e4
  exact ⟨by omega, by omega, by omega, by omega, by omega, by omega, by omega⟩
def TakI (c0 c1 c2 c3 c4 c5 d0 d1 d2 d3 d4 d5 z r : Int) : Prop := ∃ n0 n1 n2 n3 n4 n5 k0 k1 k2 k3 k4 : Int, DgI z n0 n1 n2 n3 n4 n5 ∧ (0 ≤ k0 ∧ k0 ≤ 1) ∧ (0 ≤ k1 ∧ k1 ≤ 1) ∧ (0 ≤ k2 ∧ k2 ≤ 1) ∧ (0 ≤ k3 ∧ k3 ≤ 1) ∧ (0 ≤ k4 ∧ k4 ≤ 1) ∧ d0 = c0 - n0 + 12 * k0 ∧ d1 = c1 - n1 - k0 + 20 * k1 ∧ d2 = c2 - n2 - k1 + 20 * k2 ∧ d3 = c3 - n3 - k2 + 5 * k3 ∧ d4 = c4 - n4 - k3 + 10 * k4 ∧ d5 = c5 - n5 - k4 ∧ r = k0 + k1 + k2 + k3 + k4
theorem TakI.det {c0 c1 c2 c3 c4 c5 d0 d1 d2 d3 d4 d5 e0 e1 e2 e3 e4 e5 z r r2 : Int} (h1 : TakI c0 c1 c2 c3 c4 c5 d0 d1 d2 d3 d4 d5 z r) (h2 : TakI c0 c1 c2 c3 c4 c5 e0 e1 e2 e3 e4 e5 z r2) (hd0 : 0 ≤ d0 ∧ d0 ≤ 11) (hd1 : 0 ≤ d1 ∧ d1 ≤ 19) (hd2 : 0 ≤ d2 ∧ d2 ≤ 19) (hd3 : 0 ≤ d3 ∧ d3 ≤ 4) (hd4 : 0 ≤ d4 ∧ d4 ≤ 9) (he0 : 0 ≤ e0 ∧ e0 ≤ 11) (he1 : 0 ≤ e1 ∧ e1 ≤ 19) (he2 : 0 ≤ e2 ∧ e2 ≤ 19) (he3 : 0 ≤ e3 ∧ e3 ≤ 4) (he4 : 0 ≤ e4 ∧ e4 ≤ 9) : d0 = e0 ∧ d1 = e1 ∧ d2 = e2 ∧ d3 = e3 ∧ d4 = e4 ∧ d5 = e5 ∧ r = r2 := by
  obtain ⟨n0, n1, n2, n3, n4, n5, k0, k1, k2, k3, k4, dg1, b0, b1, b2, b3, b4, q0, q1, q2, q3, q4, q5, hr⟩ := h1
  obtain ⟨w0, w1, w2, w3, w4, w5, m0, m1, m2, m3, m4, dg2, a0, a1, a2, a3, a4, p0, p1, p2, p3, p4, p5, hs⟩ := h2
  obtain ⟨rfl, rfl, rfl, rfl, rfl, rfl⟩ := dg1.same dg2
  clear dg1 dg2
  have e0 : k0 = m0 := by clear hr hs q1 p1 q2 p2 q3 p3 q4 p4 q5 p5; omega
  subst e0
  have e1 : k1 = m1 := by clear hr hs q0 p0 q2 p2 q3 p3 q4 p4 q5 p5; omega
  subst e1
  have e2 : k2 = m2 := by clear hr hs q0 p0 q1 p1 q3 p3 q4 p4 q5 p5; omega
  subst e2
  have e3 : k3 = m3 := by clear hr hs q0 p0 q1 p1 q2 p2 q4 p4 q5 p5; omega
  subst e3
  have e4 : k4 = m4 := by clear hr hs q0 p0 q1 p1 q2 p2 q3 p3 q5 p5; omega
  subst e4
  exact ⟨by omega, by omega, by omega, by omega, by omega, by omega, by omega⟩
/-- the digits of a cloth -/
def CLB (c0 c1 c2 c3 c4 c5 : Int) : Prop := (0 ≤ c0 ∧ c0 ≤ 11) ∧ (0 ≤ c1 ∧ c1 ≤ 19) ∧ (0 ≤ c2 ∧ c2 ≤ 19) ∧ (0 ≤ c3 ∧ c3 ≤ 4) ∧ (0 ≤ c4 ∧ c4 ≤ 9) ∧ (0 ≤ c5 ∧ c5 ≤ 900000)
theorem clo_ix {f : Nat → Int32} {z r : Int} (h : (¬ (0 ≤ z ∧ z ≤ 5) ∧ r = -1) ∨ ((0 ≤ z ∧ z ≤ 5) ∧ r = (f z.toNat).toInt)) : (¬ (0 ≤ z ∧ z ≤ 5) ∧ r = -1) ∨ (z = 0 ∧ r = (f 0).toInt) ∨ (z = 1 ∧ r = (f 1).toInt) ∨ (z = 2 ∧ r = (f 2).toInt) ∨ (z = 3 ∧ r = (f 3).toInt) ∨ (z = 4 ∧ r = (f 4).toInt) ∨ (z = 5 ∧ r = (f 5).toInt) := by
  rcases h with h | ⟨h1, h2⟩
  · exact Or.inl h
  · right
    rcases (show z = 0 ∨ z = 1 ∨ z = 2 ∨ z = 3 ∨ z = 4 ∨ z = 5 by omega) with rfl | rfl | rfl | rfl | rfl | rfl
    · exact Or.inl ⟨rfl, h2⟩
    · exact Or.inr (Or.inl ⟨rfl, h2⟩)
    · exact Or.inr (Or.inr (Or.inl ⟨rfl, h2⟩))
    · exact Or.inr (Or.inr (Or.inr (Or.inl ⟨rfl, h2⟩)))
    · exact Or.inr (Or.inr (Or.inr (Or.inr (Or.inl ⟨rfl, h2⟩))))
    · exact Or.inr (Or.inr (Or.inr (Or.inr (Or.inr ⟨rfl, h2⟩))))
def BdI (k c0 c1 c2 c3 c4 c5 d0 d1 d2 d3 d4 d5 r : Int) : Prop := (k = 0 → (1 ≤ c1 ∧ d0 = c0 + 12 ∧ d1 = c1 - 1 ∧ d2 = c2 ∧ d3 = c3 ∧ d4 = c4 ∧ d5 = c5 ∧ r = 1) ∨ (c1 ≤ 0 ∧ 1 ≤ c2 ∧ d0 = c0 + 12 ∧ d1 = c1 + 20 - 1 ∧ d2 = c2 - 1 ∧ d3 = c3 ∧ d4 = c4 ∧ d5 = c5 ∧ r = 2) ∨ (c1 ≤ 0 ∧ c2 ≤ 0 ∧ 1 ≤ c3 ∧ d0 = c0 + 12 ∧ d1 = c1 + 20 - 1 ∧ d2 = c2 + 20 - 1 ∧ d3 = c3 - 1 ∧ d4 = c4 ∧ d5 = c5 ∧ r = 3) ∨ (c1 ≤ 0 ∧ c2 ≤ 0 ∧ c3 ≤ 0 ∧ 1 ≤ c4 ∧ d0 = c0 + 12 ∧ d1 = c1 + 20 - 1 ∧ d2 = c2 + 20 - 1 ∧ d3 = c3 + 5 - 1 ∧ d4 = c4 - 1 ∧ d5 = c5 ∧ r = 4) ∨ (c1 ≤ 0 ∧ c2 ≤ 0 ∧ c3 ≤ 0 ∧ c4 ≤ 0 ∧ 1 ≤ c5 ∧ d0 = c0 + 12 ∧ d1 = c1 + 20 - 1 ∧ d2 = c2 + 20 - 1 ∧ d3 = c3 + 5 - 1 ∧ d4 = c4 + 10 - 1 ∧ d5 = c5 - 1 ∧ r = 5) ∨ (c1 ≤ 0 ∧ c2 ≤ 0 ∧ c3 ≤ 0 ∧ c4 ≤ 0 ∧ c5 ≤ 0 ∧ d0 = c0 ∧ d1 = c1 ∧ d2 = c2 ∧ d3 = c3 ∧ d4 = c4 ∧ d5 = c5 ∧ r = 0)) ∧ (k = 1 → (1 ≤ c2 ∧ d0 = c0 ∧ d1 = c1 + 20 ∧ d2 = c2 - 1 ∧ d3 = c3 ∧ d4 = c4 ∧ d5 = c5 ∧ r = 1) ∨ (c2 ≤ 0 ∧ 1 ≤ c3 ∧ d0 = c0 ∧ d1 = c1 + 20 ∧ d2 = c2 + 20 - 1 ∧ d3 = c3 - 1 ∧ d4 = c4 ∧ d5 = c5 ∧ r = 2) ∨ (c2 ≤ 0 ∧ c3 ≤ 0 ∧ 1 ≤ c4 ∧ d0 = c0 ∧ d1 = c1 + 20 ∧ d2 = c2 + 20 - 1 ∧ d3 = c3 + 5 - 1 ∧ d4 = c4 - 1 ∧ d5 = c5 ∧ r = 3) ∨ (c2 ≤ 0 ∧ c3 ≤ 0 ∧ c4 ≤ 0 ∧ 1 ≤ c5 ∧ d0 = c0 ∧ d1 = c1 + 20 ∧ d2 = c2 + 20 - 1 ∧ d3 = c3 + 5 - 1 ∧ d4 = c4 + 10 - 1 ∧ d5 = c5 - 1 ∧ r = 4) ∨ (c2 ≤ 0 ∧ c3 ≤ 0 ∧ c4 ≤ 0 ∧ c5 ≤ 0 ∧ d0 = c0 ∧ d1 = c1 ∧ d2 = c2 ∧ d3 = c3 ∧ d4 = c4 ∧ d5 = c5 ∧ r = 0)) ∧ (k = 2 → (1 ≤ c3 ∧ d0 = c0 ∧ d1 = c1 ∧ d2 = c2 + 20 ∧ d3 = c3 - 1 ∧ d4 = c4 ∧ d5 = c5 ∧ r = 1) ∨ (c3 ≤ 0 ∧ 1 ≤ c4 ∧ d0 = c0 ∧ d1 = c1 ∧ d2 = c2 + 20 ∧ d3 = c3 + 5 - 1 ∧ d4 = c4 - 1 ∧ d5 = c5 ∧ r = 2) ∨ (c3 ≤ 0 ∧ c4 ≤ 0 ∧ 1 ≤ c5 ∧ d0 = c0 ∧ d1 = c1 ∧ d2 = c2 + 20 ∧ d3 = c3 + 5 - 1 ∧ d4 = c4 + 10 - 1 ∧ d5 = c5 - 1 ∧ r = 3) ∨ (c3 ≤ 0 ∧ c4 ≤ 0 ∧ c5 ≤ 0 ∧ d0 = c0 ∧ d1 = c1 ∧ d2 = c2 ∧ d3 = c3 ∧ d4 = c4 ∧ d5 = c5 ∧ r = 0)) ∧ (k = 3 → (1 ≤ c4 ∧ d0 = c0 ∧ d1 = c1 ∧ d2 = c2 ∧ d3 = c3 + 5 ∧ d4 = c4 - 1 ∧ d5 = c5 ∧ r = 1) ∨ (c4 ≤ 0 ∧ 1 ≤ c5 ∧ d0 = c0 ∧ d1 = c1 ∧ d2 = c2 ∧ d3 = c3 + 5 ∧ d4 = c4 + 10 - 1 ∧ d5 = c5 - 1 ∧ r = 2) ∨ (c4 ≤ 0 ∧ c5 ≤ 0 ∧ d0 = c0 ∧ d1 = c1 ∧ d2 = c2 ∧ d3 = c3 ∧ d4 = c4 ∧ d5 = c5 ∧ r = 0)) ∧ (k = 4 → (1 ≤ c5 ∧ d0 = c0 ∧ d1 = c1 ∧ d2 = c2 ∧ d3 = c3 ∧ d4 = c4 + 10 ∧ d5 = c5 - 1 ∧ r = 1) ∨ (c5 ≤ 0 ∧ d0 = c0 ∧ d1 = c1 ∧ d2 = c2 ∧ d3 = c3 ∧ d4 = c4 ∧ d5 = c5 ∧ r = 0))
theorem BdI.e0 {c0 c1 c2 c3 c4 c5 d0 d1 d2 d3 d4 d5 r : Int} (h : BdI 0 c0 c1 c2 c3 c4 c5 d0 d1 d2 d3 d4 d5 r) : (1 ≤ c1 ∧ d0 = c0 + 12 ∧ d1 = c1 - 1 ∧ d2 = c2 ∧ d3 = c3 ∧ d4 = c4 ∧ d5 = c5 ∧ r = 1) ∨ (c1 ≤ 0 ∧ 1 ≤ c2 ∧ d0 = c0 + 12 ∧ d1 = c1 + 20 - 1 ∧ d2 = c2 - 1 ∧ d3 = c3 ∧ d4 = c4 ∧ d5 = c5 ∧ r = 2) ∨ (c1 ≤ 0 ∧ c2 ≤ 0 ∧ 1 ≤ c3 ∧ d0 = c0 + 12 ∧ d1 = c1 + 20 - 1 ∧ d2 = c2 + 20 - 1 ∧ d3 = c3 - 1 ∧ d4 = c4 ∧ d5 = c5 ∧ r = 3) ∨ (c1 ≤ 0 ∧ c2 ≤ 0 ∧ c3 ≤ 0 ∧ 1 ≤ c4 ∧ d0 = c0 + 12 ∧ d1 = c1 + 20 - 1 ∧ d2 = c2 + 20 - 1 ∧ d3 = c3 + 5 - 1 ∧ d4 = c4 - 1 ∧ d5 = c5 ∧ r = 4) ∨ (c1 ≤ 0 ∧ c2 ≤ 0 ∧ c3 ≤ 0 ∧ c4 ≤ 0 ∧ 1 ≤ c5 ∧ d0 = c0 + 12 ∧ d1 = c1 + 20 - 1 ∧ d2 = c2 + 20 - 1 ∧ d3 = c3 + 5 - 1 ∧ d4 = c4 + 10 - 1 ∧ d5 = c5 - 1 ∧ r = 5) ∨ (c1 ≤ 0 ∧ c2 ≤ 0 ∧ c3 ≤ 0 ∧ c4 ≤ 0 ∧ c5 ≤ 0 ∧ d0 = c0 ∧ d1 = c1 ∧ d2 = c2 ∧ d3 = c3 ∧ d4 = c4 ∧ d5 = c5 ∧ r = 0) := h.1 rfl
theorem BdI.i0_0 {z c0 c1 c2 c3 c4 c5 d0 d1 d2 d3 d4 d5 r : Int} (hz : z = 0) (h0 : 1 ≤ c1) (h1 : d0 = c0 + 12) (h2 : d1 = c1 - 1) (h3 : d2 = c2) (h4 : d3 = c3) (h5 : d4 = c4) (h6 : d5 = c5) (h7 : r = 1) : BdI z c0 c1 c2 c3 c4 c5 d0 d1 d2 d3 d4 d5 r := by
  subst hz
  exact ⟨fun _ => Or.inl ⟨h0, h1, h2, h3, h4, h5, h6, h7⟩, fun q => absurd q (by decide), fun q => absurd q (by decide), fun q => absurd q (by decide), fun q => absurd q (by decide)⟩
theorem BdI.i0_1 {z c0 c1 c2 c3 c4 c5 d0 d1 d2 d3 d4 d5 r : Int} (hz : z = 0) (h0 : c1 ≤ 0) (h1 : 1 ≤ c2) (h2 : d0 = c0 + 12) (h3 : d1 = c1 + 20 - 1) (h4 : d2 = c2 - 1) (h5 : d3 = c3) (h6 : d4 = c4) (h7 : d5 = c5) (h8 : r = 2) : BdI z c0 c1 c2 c3 c4 c5 d0 d1 d2 d3 d4 d5 r := by
  subst hz
  exact ⟨fun _ => Or.inr (Or.inl ⟨h0, h1, h2, h3, h4, h5, h6, h7, h8⟩), fun q => absurd q (by decide), fun q => absurd q (by decide), fun q => absurd q (by decide), fun q => absurd q (by decide)⟩
theorem BdI.i0_2 {z c0 c1 c2 c3 c4 c5 d0 d1 d2 d3 d4 d5 r : Int} (hz : z = 0) (h0 : c1 ≤ 0) (h1 : c2 ≤ 0) (h2 : 1 ≤ c3) (h3 : d0 = c0 + 12) (h4 : d1 = c1 + 20 - 1) (h5 : d2 = c2 + 20 - 1) (h6 : d3 = c3 - 1) (h7 : d4 = c4) (h8 : d5 = c5) (h9 : r = 3) : BdI z c0 c1 c2 c3 c4 c5 d0 d1 d2 d3 d4 d5 r := by
  subst hz
  exact ⟨fun _ => Or.inr (Or.inr (Or.inl ⟨h0, h1, h2, h3, h4, h5, h6, h7, h8, h9⟩)), fun q => absurd q (by decide), fun q => absurd q (by decide), fun q => absurd q (by decide), fun q => absurd q (by decide)⟩
theorem BdI.i0_3 {z c0 c1 c2 c3 c4 c5 d0 d1 d2 d3 d4 d5 r : Int} (hz : z = 0) (h0 : c1 ≤ 0) (h1 : c2 ≤ 0) (h2 : c3 ≤ 0) (h3 : 1 ≤ c4) (h4 : d0 = c0 + 12) (h5 : d1 = c1 + 20 - 1) (h6 : d2 = c2 + 20 - 1) (h7 : d3 = c3 + 5 - 1) (h8 : d4 = c4 - 1) (h9 : d5 = c5) (h10 : r = 4) : BdI z c0 c1 c2 c3 c4 c5 d0 d1 d2 d3 d4 d5 r := by
  subst hz
  exact ⟨fun _ => Or.inr (Or.inr (Or.inr (Or.inl ⟨h0, h1, h2, h3, h4, h5, h6, h7, h8, h9, h10⟩))), fun q => absurd q (by decide), fun q => absurd q (by decide), fun q => absurd q (by decide), fun q => absurd q (by decide)⟩
theorem BdI.i0_4 {z c0 c1 c2 c3 c4 c5 d0 d1 d2 d3 d4 d5 r : Int} (hz : z = 0) (h0 : c1 ≤ 0) (h1 : c2 ≤ 0) (h2 : c3 ≤ 0) (h3 : c4 ≤ 0) (h4 : 1 ≤ c5) (h5 : d0 = c0 + 12) (h6 : d1 = c1 + 20 - 1) (h7 : d2 = c2 + 20 - 1) (h8 : d3 = c3 + 5 - 1) (h9 : d4 = c4 + 10 - 1) (h10 : d5 = c5 - 1) (h11 : r = 5) : BdI z c0 c1 c2 c3 c4 c5 d0 d1 d2 d3 d4 d5 r := by
  subst hz
  exact ⟨fun _ => Or.inr (Or.inr (Or.inr (Or.inr (Or.inl ⟨h0, h1, h2, h3, h4, h5, h6, h7, h8, h9, h10, h11⟩)))), fun q => absurd q (by decide), fun q => absurd q (by decide), fun q => absurd q (by decide), fun q => absurd q (by decide)⟩
theorem BdI.i0_5 {z c0 c1 c2 c3 c4 c5 d0 d1 d2 d3 d4 d5 r : Int} (hz : z = 0) (h0 : c1 ≤ 0) (h1 : c2 ≤ 0) (h2 : c3 ≤ 0) (h3 : c4 ≤ 0) (h4 : c5 ≤ 0) (h5 : d0 = c0) (h6 : d1 = c1) (h7 : d2 = c2) (h8 : d3 = c3) (h9 : d4 = c4) (h10 : d5 = c5) (h11 : r = 0) : BdI z c0 c1 c2 c3 c4 c5 d0 d1 d2 d3 d4 d5 r := by
  subst hz
  exact ⟨fun _ => Or.inr (Or.inr (Or.inr (Or.inr (Or.inr (⟨h0, h1, h2, h3, h4, h5, h6, h7, h8, h9, h10, h11⟩))))), fun q => absurd q (by decide), fun q => absurd q (by decide), fun q => absurd q (by decide), fun q => absurd q (by decide)⟩
theorem BdI.e1 {c0 c1 c2 c3 c4 c5 d0 d1 d2 d3 d4 d5 r : Int} (h : BdI 1 c0 c1 c2 c3 c4 c5 d0 d1 d2 d3 d4 d5 r) : (1 ≤ c2 ∧ d0 = c0 ∧ d1 = c1 + 20 ∧ d2 = c2 - 1 ∧ d3 = c3 ∧ d4 = c4 ∧ d5 = c5 ∧ r = 1) ∨ (c2 ≤ 0 ∧ 1 ≤ c3 ∧ d0 = c0 ∧ d1 = c1 + 20 ∧ d2 = c2 + 20 - 1 ∧ d3 = c3 - 1 ∧ d4 = c4 ∧ d5 = c5 ∧ r = 2) ∨ (c2 ≤ 0 ∧ c3 ≤ 0 ∧ 1 ≤ c4 ∧ d0 = c0 ∧ d1 = c1 + 20 ∧ d2 = c2 + 20 - 1 ∧ d3 = c3 + 5 - 1 ∧ d4 = c4 - 1 ∧ d5 = c5 ∧ r = 3) ∨ (c2 ≤ 0 ∧ c3 ≤ 0 ∧ c4 ≤ 0 ∧ 1 ≤ c5 ∧ d0 = c0 ∧ d1 = c1 + 20 ∧ d2 = c2 + 20 - 1 ∧ d3 = c3 + 5 - 1 ∧ d4 = c4 + 10 - 1 ∧ d5 = c5 - 1 ∧ r = 4) ∨ (c2 ≤ 0 ∧ c3 ≤ 0 ∧ c4 ≤ 0 ∧ c5 ≤ 0 ∧ d0 = c0 ∧ d1 = c1 ∧ d2 = c2 ∧ d3 = c3 ∧ d4 = c4 ∧ d5 = c5 ∧ r = 0) := h.2.1 rfl
theorem BdI.i1_0 {z c0 c1 c2 c3 c4 c5 d0 d1 d2 d3 d4 d5 r : Int} (hz : z = 1) (h0 : 1 ≤ c2) (h1 : d0 = c0) (h2 : d1 = c1 + 20) (h3 : d2 = c2 - 1) (h4 : d3 = c3) (h5 : d4 = c4) (h6 : d5 = c5) (h7 : r = 1) : BdI z c0 c1 c2 c3 c4 c5 d0 d1 d2 d3 d4 d5 r := by
  subst hz
  exact ⟨fun q => absurd q (by decide), fun _ => Or.inl ⟨h0, h1, h2, h3, h4, h5, h6, h7⟩, fun q => absurd q (by decide), fun q => absurd q (by decide), fun q => absurd q (by decide)⟩
theorem BdI.i1_1 {z c0 c1 c2 c3 c4 c5 d0 d1 d2 d3 d4 d5 r : Int} (hz : z = 1) (h0 : c2 ≤ 0) (h1 : 1 ≤ c3) (h2 : d0 = c0) (h3 : d1 = c1 + 20) (h4 : d2 = c2 + 20 - 1) (h5 : d3 = c3 - 1) (h6 : d4 = c4) (h7 : d5 = c5) (h8 : r = 2) : BdI z c0 c1 c2 c3 c4 c5 d0 d1 d2 d3 d4 d5 r := by
  subst hz
  exact ⟨fun q => absurd q (by decide), fun _ => Or.inr (Or.inl ⟨h0, h1, h2, h3, h4, h5, h6, h7, h8⟩), fun q => absurd q (by decide), fun q => absurd q (by decide), fun q => absurd q (by decide)⟩
theorem BdI.i1_2 {z c0 c1 c2 c3 c4 c5 d0 d1 d2 d3 d4 d5 r : Int} (hz : z = 1) (h0 : c2 ≤ 0) (h1 : c3 ≤ 0) (h2 : 1 ≤ c4) (h3 : d0 = c0) (h4 : d1 = c1 + 20) (h5 : d2 = c2 + 20 - 1) (h6 : d3 = c3 + 5 - 1) (h7 : d4 = c4 - 1) (h8 : d5 = c5) (h9 : r = 3) : BdI z c0 c1 c2 c3 c4 c5 d0 d1 d2 d3 d4 d5 r := by
  subst hz
  exact ⟨fun q => absurd q (by decide), fun _ => Or.inr (Or.inr (Or.inl ⟨h0, h1, h2, h3, h4, h5, h6, h7, h8, h9⟩)), fun q => absurd q (by decide), fun q => absurd q (by decide), fun q => absurd q (by decide)⟩
theorem BdI.i1_3 {z c0 c1 c2 c3 c4 c5 d0 d1 d2 d3 d4 d5 r : Int} (hz : z = 1) (h0 : c2 ≤ 0) (h1 : c3 ≤ 0) (h2 : c4 ≤ 0) (h3 : 1 ≤ c5) (h4 : d0 = c0) (h5 : d1 = c1 + 20) (h6 : d2 = c2 + 20 - 1) (h7 : d3 = c3 + 5 - 1) (h8 : d4 = c4 + 10 - 1) (h9 : d5 = c5 - 1) (h10 : r = 4) : BdI z c0 c1 c2 c3 c4 c5 d0 d1 d2 d3 d4 d5 r := by
  subst hz
  exact ⟨fun q => absurd q (by decide), fun _ => Or.inr (Or.inr (Or.inr (Or.inl ⟨h0, h1, h2, h3, h4, h5, h6, h7, h8, h9, h10⟩))), fun q => absurd q (by decide), fun q => absurd q (by decide), fun q => absurd q (by decide)⟩
theorem BdI.i1_4 {z c0 c1 c2 c3 c4 c5 d0 d1 d2 d3 d4 d5 r : Int} (hz : z = 1) (h0 : c2 ≤ 0) (h1 : c3 ≤ 0) (h2 : c4 ≤ 0) (h3 : c5 ≤ 0) (h4 : d0 = c0) (h5 : d1 = c1) (h6 : d2 = c2) (h7 : d3 = c3) (h8 : d4 = c4) (h9 : d5 = c5) (h10 : r = 0) : BdI z c0 c1 c2 c3 c4 c5 d0 d1 d2 d3 d4 d5 r := by
  subst hz
  exact ⟨fun q => absurd q (by decide), fun _ => Or.inr (Or.inr (Or.inr (Or.inr (⟨h0, h1, h2, h3, h4, h5, h6, h7, h8, h9, h10⟩)))), fun q => absurd q (by decide), fun q => absurd q (by decide), fun q => absurd q (by decide)⟩
theorem BdI.e2 {c0 c1 c2 c3 c4 c5 d0 d1 d2 d3 d4 d5 r : Int} (h : BdI 2 c0 c1 c2 c3 c4 c5 d0 d1 d2 d3 d4 d5 r) : (1 ≤ c3 ∧ d0 = c0 ∧ d1 = c1 ∧ d2 = c2 + 20 ∧ d3 = c3 - 1 ∧ d4 = c4 ∧ d5 = c5 ∧ r = 1) ∨ (c3 ≤ 0 ∧ 1 ≤ c4 ∧ d0 = c0 ∧ d1 = c1 ∧ d2 = c2 + 20 ∧ d3 = c3 + 5 - 1 ∧ d4 = c4 - 1 ∧ d5 = c5 ∧ r = 2) ∨ (c3 ≤ 0 ∧ c4 ≤ 0 ∧ 1 ≤ c5 ∧ d0 = c0 ∧ d1 = c1 ∧ d2 = c2 + 20 ∧ d3 = c3 + 5 - 1 ∧ d4 = c4 + 10 - 1 ∧ d5 = c5 - 1 ∧ r = 3) ∨ (c3 ≤ 0 ∧ c4 ≤ 0 ∧ c5 ≤ 0 ∧ d0 = c0 ∧ d1 = c1 ∧ d2 = c2 ∧ d3 = c3 ∧ d4 = c4 ∧ d5 = c5 ∧ r = 0) := h.2.2.1 rfl
theorem BdI.i2_0 {z c0 c1 c2 c3 c4 c5 d0 d1 d2 d3 d4 d5 r : Int} (hz : z = 2) (h0 : 1 ≤ c3) (h1 : d0 = c0) (h2 : d1 = c1) (h3 : d2 = c2 + 20) (h4 : d3 = c3 - 1) (h5 : d4 = c4) (h6 : d5 = c5) (h7 : r = 1) : BdI z c0 c1 c2 c3 c4 c5 d0 d1 d2 d3 d4 d5 r := by
  subst hz
  exact ⟨fun q => absurd q (by decide), fun q => absurd q (by decide), fun _ => Or.inl ⟨h0, h1, h2, h3, h4, h5, h6, h7⟩, fun q => absurd q (by decide), fun q => absurd q (by decide)⟩
theorem BdI.i2_1 {z c0 c1 c2 c3 c4 c5 d0 d1 d2 d3 d4 d5 r : Int} (hz : z = 2) (h0 : c3 ≤ 0) (h1 : 1 ≤ c4) (h2 : d0 = c0) (h3 : d1 = c1) (h4 : d2 = c2 + 20) (h5 : d3 = c3 + 5 - 1) (h6 : d4 = c4 - 1) (h7 : d5 = c5) (h8 : r = 2) : BdI z c0 c1 c2 c3 c4 c5 d0 d1 d2 d3 d4 d5 r := by
  subst hz
  exact ⟨fun q => absurd q (by decide), fun q => absurd q (by decide), fun _ => Or.inr (Or.inl ⟨h0, h1, h2, h3, h4, h5, h6, h7, h8⟩), fun q => absurd q (by decide), fun q => absurd q (by decide)⟩
theorem BdI.i2_2 {z c0 c1 c2 c3 c4 c5 d0 d1 d2 d3 d4 d5 r : Int} (hz : z = 2) (h0 : c3 ≤ 0) (h1 : c4 ≤ 0) (h2 : 1 ≤ c5) (h3 : d0 = c0) (h4 : d1 = c1) (h5 : d2 = c2 + 20) (h6 : d3 = c3 + 5 - 1) (h7 : d4 = c4 + 10 - 1) (h8 : d5 = c5 - 1) (h9 : r = 3) : BdI z c0 c1 c2 c3 c4 c5 d0 d1 d2 d3 d4 d5 r := by
  subst hz
  exact ⟨fun q => absurd q (by decide), fun q => absurd q (by decide), fun _ => Or.inr (Or.inr (Or.inl ⟨h0, h1, h2, h3, h4, h5, h6, h7, h8, h9⟩)), fun q => absurd q (by decide), fun q => absurd q (by decide)⟩
theorem BdI.i2_3 {z c0 c1 c2 c3 c4 c5 d0 d1 d2 d3 d4 d5 r : Int} (hz : z = 2) (h0 : c3 ≤ 0) (h1 : c4 ≤ 0) (h2 : c5 ≤ 0) (h3 : d0 = c0) (h4 : d1 = c1) (h5 : d2 = c2) (h6 : d3 = c3) (h7 : d4 = c4) (h8 : d5 = c5) (h9 : r = 0) : BdI z c0 c1 c2 c3 c4 c5 d0 d1 d2 d3 d4 d5 r := by
  subst hz
  exact ⟨fun q => absurd q (by decide), fun q => absurd q (by decide), fun _ => Or.inr (Or.inr (Or.inr (⟨h0, h1, h2, h3, h4, h5, h6, h7, h8, h9⟩))), fun q => absurd q (by decide), fun q => absurd q (by decide)⟩
theorem BdI.e3 {c0 c1 c2 c3 c4 c5 d0 d1 d2 d3 d4 d5 r : Int} (h : BdI 3 c0 c1 c2 c3 c4 c5 d0 d1 d2 d3 d4 d5 r) : (1 ≤ c4 ∧ d0 = c0 ∧ d1 = c1 ∧ d2 = c2 ∧ d3 = c3 + 5 ∧ d4 = c4 - 1 ∧ d5 = c5 ∧ r = 1) ∨ (c4 ≤ 0 ∧ 1 ≤ c5 ∧ d0 = c0 ∧ d1 = c1 ∧ d2 = c2 ∧ d3 = c3 + 5 ∧ d4 = c4 + 10 - 1 ∧ d5 = c5 - 1 ∧ r = 2) ∨ (c4 ≤ 0 ∧ c5 ≤ 0 ∧ d0 = c0 ∧ d1 = c1 ∧ d2 = c2 ∧ d3 = c3 ∧ d4 = c4 ∧ d5 = c5 ∧ r = 0) := h.2.2.2.1 rfl
theorem BdI.i3_0 {z c0 c1 c2 c3 c4 c5 d0 d1 d2 d3 d4 d5 r : Int} (hz : z = 3) (h0 : 1 ≤ c4) (h1 : d0 = c0) (h2 : d1 = c1) (h3 : d2 = c2) (h4 : d3 = c3 + 5) (h5 : d4 = c4 - 1) (h6 : d5 = c5) (h7 : r = 1) : BdI z c0 c1 c2 c3 c4 c5 d0 d1 d2 d3 d4 d5 r := by
  subst hz
  exact ⟨fun q => absurd q (by decide), fun q => absurd q (by decide), fun q => absurd q (by decide), fun _ => Or.inl ⟨h0, h1, h2, h3, h4, h5, h6, h7⟩, fun q => absurd q (by decide)⟩
theorem BdI.i3_1 {z c0 c1 c2 c3 c4 c5 d0 d1 d2 d3 d4 d5 r : Int} (hz : z = 3) (h0 : c4 ≤ 0) (h1 : 1 ≤ c5) (h2 : d0 = c0) (h3 : d1 = c1) (h4 : d2 = c2) (h5 : d3 = c3 + 5) (h6 : d4 = c4 + 10 - 1) (h7 : d5 = c5 - 1) (h8 : r = 2) : BdI z c0 c1 c2 c3 c4 c5 d0 d1 d2 d3 d4 d5 r := by
  subst hz
  exact ⟨fun q => absurd q (by decide), fun q => absurd q (by decide), fun q => absurd q (by decide), fun _ => Or.inr (Or.inl ⟨h0, h1, h2, h3, h4, h5, h6, h7, h8⟩), fun q => absurd q (by decide)⟩
theorem BdI.i3_2 {z c0 c1 c2 c3 c4 c5 d0 d1 d2 d3 d4 d5 r : Int} (hz : z = 3) (h0 : c4 ≤ 0) (h1 : c5 ≤ 0) (h2 : d0 = c0) (h3 : d1 = c1) (h4 : d2 = c2) (h5 : d3 = c3) (h6 : d4 = c4) (h7 : d5 = c5) (h8 : r = 0) : BdI z c0 c1 c2 c3 c4 c5 d0 d1 d2 d3 d4 d5 r := by
  subst hz
  exact ⟨fun q => absurd q (by decide), fun q => absurd q (by decide), fun q => absurd q (by decide), fun _ => Or.inr (Or.inr (⟨h0, h1, h2, h3, h4, h5, h6, h7, h8⟩)), fun q => absurd q (by decide)⟩
theorem BdI.e4 {c0 c1 c2 c3 c4 c5 d0 d1 d2 d3 d4 d5 r : Int} (h : BdI 4 c0 c1 c2 c3 c4 c5 d0 d1 d2 d3 d4 d5 r) : (1 ≤ c5 ∧ d0 = c0 ∧ d1 = c1 ∧ d2 = c2 ∧ d3 = c3 ∧ d4 = c4 + 10 ∧ d5 = c5 - 1 ∧ r = 1) ∨ (c5 ≤ 0 ∧ d0 = c0 ∧ d1 = c1 ∧ d2 = c2 ∧ d3 = c3 ∧ d4 = c4 ∧ d5 = c5 ∧ r = 0) := h.2.2.2.2 rfl
theorem BdI.i4_0 {z c0 c1 c2 c3 c4 c5 d0 d1 d2 d3 d4 d5 r : Int} (hz : z = 4) (h0 : 1 ≤ c5) (h1 : d0 = c0) (h2 : d1 = c1) (h3 : d2 = c2) (h4 : d3 = c3) (h5 : d4 = c4 + 10) (h6 : d5 = c5 - 1) (h7 : r = 1) : BdI z c0 c1 c2 c3 c4 c5 d0 d1 d2 d3 d4 d5 r := by
  subst hz
  exact ⟨fun q => absurd q (by decide), fun q => absurd q (by decide), fun q => absurd q (by decide), fun q => absurd q (by decide), fun _ => Or.inl ⟨h0, h1, h2, h3, h4, h5, h6, h7⟩⟩
theorem BdI.i4_1 {z c0 c1 c2 c3 c4 c5 d0 d1 d2 d3 d4 d5 r : Int} (hz : z = 4) (h0 : c5 ≤ 0) (h1 : d0 = c0) (h2 : d1 = c1) (h3 : d2 = c2) (h4 : d3 = c3) (h5 : d4 = c4) (h6 : d5 = c5) (h7 : r = 0) : BdI z c0 c1 c2 c3 c4 c5 d0 d1 d2 d3 d4 d5 r := by
  subst hz
  exact ⟨fun q => absurd q (by decide), fun q => absurd q (by decide), fun q => absurd q (by decide), fun q => absurd q (by decide), fun _ => Or.inr (⟨h0, h1, h2, h3, h4, h5, h6, h7⟩)⟩
