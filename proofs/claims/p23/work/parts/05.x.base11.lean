theorem nz9 {x : Int32} {a : Int} (hx : x.toInt = a) (h : ¬ a = 0) : x ≠ 0 := fun z => h (by rw [← hx, z]; rfl)
theorem iv_upd {f : Nat → Int32} {lo hi : Int} {k : Nat} {x : Int32} (h : ∀ j : Nat, lo ≤ (f j).toInt ∧ (f j).toInt ≤ hi) (hx : lo ≤ x.toInt ∧ x.toInt ≤ hi) : ∀ j : Nat, lo ≤ (upd f k x j).toInt ∧ (upd f k x j).toInt ≤ hi := by
  intro j
  unfold upd
  split
  · exact hx
  · exact h j
/-- how many debts from d on, k of them, are owed by p: the reference's rows -/
def owm (g f : Nat → Int32) (p d : Int) : Nat → Int
  | 0 => 0
  | k + 1 => (if (g d.toNat).toInt = p ∧ 0 < (f d.toNat).toInt then 1 else 0) + owm g f p (d + 1) k
theorem owm_step (g f : Nat → Int32) (p : Int) {d n : Int} (h : d < n) : owm g f p d (n - d).toNat = (if (g d.toNat).toInt = p ∧ 0 < (f d.toNat).toInt then 1 else 0) + owm g f p (d + 1) (n - (d + 1)).toNat := by
  have e : (n - d).toNat = (n - (d + 1)).toNat + 1 := by omega
  rw [e]; rfl
theorem owm_bd (g f : Nat → Int32) (p : Int) : ∀ (d : Int) (k : Nat), 0 ≤ owm g f p d k ∧ owm g f p d k ≤ k := by
  intro d k
  induction k generalizing d with
  | zero => exact ⟨Int.le_refl _, Int.le_refl _⟩
  | succ k ih =>
    have h := ih (d + 1)
    unfold owm
    split <;> omega
theorem owm_congr {g g1 f f1 : Nat → Int32} (p : Int) : ∀ (k : Nat) (d : Int), 0 ≤ d → (∀ j : Nat, d ≤ (j : Int) → g1 j = g j) → (∀ j : Nat, d ≤ (j : Int) → f1 j = f j) → owm g1 f1 p d k = owm g f p d k := by
  intro k
  induction k with
  | zero => intro d _ _ _; rfl
  | succ k ih =>
    intro d h0 h1 h2
    unfold owm
    rw [ih (d + 1) (by omega) (fun j hj => h1 j (by omega)) (fun j hj => h2 j (by omega)), h1 d.toNat (by omega), h2 d.toNat (by omega)]
/-- how many farms from s on, k of them, fall due -/
def fmc (f g : Nat → Int32) (d : Int) : Nat → Int
  | 0 => 0
  | k + 1 => (if 0 < (f d.toNat).toInt ∧ 0 ≤ (g d.toNat).toInt then 1 else 0) + fmc f g (d + 1) k
theorem fmc_step (f g : Nat → Int32) {d n : Int} (h : d < n) : fmc f g d (n - d).toNat = (if 0 < (f d.toNat).toInt ∧ 0 ≤ (g d.toNat).toInt then 1 else 0) + fmc f g (d + 1) (n - (d + 1)).toNat := by
  have e : (n - d).toNat = (n - (d + 1)).toNat + 1 := by omega
  rw [e]; rfl
theorem fmc_bd (f g : Nat → Int32) : ∀ (d : Int) (k : Nat), 0 ≤ fmc f g d k ∧ fmc f g d k ≤ k := by
  intro d k
  induction k generalizing d with
  | zero => exact ⟨Int.le_refl _, Int.le_refl _⟩
  | succ k ih =>
    have h := ih (d + 1)
    unfold fmc
    split <;> omega
/-- the depth of the pile behind a step -/
def stp (k d : Int) : Int := if d < 0 then -1 else if k = 1 ∨ 111 ≤ k then (if d < 399 then d + 1 else -1) else if k = 2 then (if 1 ≤ d then d else -1) else (if 2 ≤ d then d - 1 else -1)
/-- and behind n steps from a on; -1: it can't go on so -/
def dep (o : Nat → Int32) (a : Int) : Nat → Int
  | 0 => 0
  | n + 1 => stp (o (a + (n : Int)).toNat).toInt (dep o a n)
theorem dep_congr {o o1 : Nat → Int32} {a : Int} : ∀ (n : Nat), (∀ j : Nat, a ≤ (j : Int) → (j : Int) < a + n → o1 j = o j) → 0 ≤ a → dep o1 a n = dep o a n := by
  intro n
  induction n with
  | zero => intro _ _; rfl
  | succ n ih =>
    intro h h0
    unfold dep
    rw [ih (fun j h1 h2 => h j h1 (by omega)) h0, h (a + (n : Int)).toNat (by omega) (by omega)]
theorem stp_neg {k d : Int} (h : d < 0) : stp k d = -1 := by unfold stp; rw [if_pos h]
theorem dep_ge (o : Nat → Int32) (a : Int) : ∀ n : Nat, -1 ≤ dep o a n ∧ dep o a n ≤ 399 := by
  intro n
  induction n with
  | zero => exact ⟨(show (-1 : Int) ≤ 0 by decide), (show (0 : Int) ≤ 399 by decide)⟩
  | succ n ih =>
    unfold dep stp
    split
    · omega
    · split
      · split <;> omega
      · split
        · split <;> omega
        · split <;> omega
theorem dep_pre {o : Nat → Int32} {a : Int} {m : Nat} : ∀ n : Nat, m ≤ n → 0 ≤ dep o a n → 0 ≤ dep o a m := by
  intro n
  induction n with
  | zero => intro h1 h2; have e : m = 0 := by omega
            rw [e]; exact h2
  | succ n ih =>
    intro h1 h2
    by_cases hm : m = n + 1
    · rw [hm]; exact h2
    · refine ih (by omega) ?_
      by_cases hd : dep o a n < 0
      · have h3 : dep o a (n + 1) = -1 := stp_neg hd
        omega
      · omega
theorem dep_at {o : Nat → Int32} {a k : Int} (h0 : 0 ≤ a) (h : a ≤ k) : dep o a (k + 1 - a).toNat = stp (o k.toNat).toInt (dep o a (k - a).toNat) := by
  have e : (k + 1 - a).toNat = (k - a).toNat + 1 := by omega
  rw [e]
  show stp (o (a + ((k - a).toNat : Int)).toNat).toInt _ = _
  rw [show a + ((k - a).toNat : Int) = k by omega]
theorem dep_puts {o o1 : Nat → Int32} {a k : Int} {x : Int32} (h0 : 0 ≤ a) (h : a ≤ k) (h1 : ∀ j : Nat, ¬ ((j : Int) = k) → o1 j = o j) (h2 : o1 k.toNat = x) : dep o1 a (k + 1 - a).toNat = stp x.toInt (dep o a (k - a).toNat) := by
  rw [dep_at h0 h, h2, dep_congr (o := o) (o1 := o1) _ (fun j g1 g2 => h1 j (by omega)) h0]
theorem stp_val {k d : Int} (h : k = 1 ∨ 111 ≤ k) (h0 : 0 ≤ d) (h1 : d < 399) : stp k d = d + 1 := by unfold stp; rw [if_neg (by omega), if_pos h, if_pos h1]
theorem stp_not {d : Int} (h0 : 1 ≤ d) : stp 2 d = d := by unfold stp; rw [if_neg (by omega), if_neg (by omega), if_pos rfl, if_pos h0]
theorem stp_two {k d : Int} (h : ¬ (k = 1 ∨ 111 ≤ k)) (h2 : ¬ k = 2) (h0 : 2 ≤ d) : stp k d = d - 1 := by unfold stp; rw [if_neg (by omega), if_neg h, if_neg h2, if_pos h0]
/-- the stack of what is open: how many not and ( are among the first n -/
def cnN (f : Nat → Int32) : Nat → Int
  | 0 => 0
  | n + 1 => cnN f n + (if (f n).toInt = 2 ∨ (f n).toInt = 40 then 1 else 0)
theorem cnN_bd (f : Nat → Int32) : ∀ n : Nat, 0 ≤ cnN f n ∧ cnN f n ≤ n := by
  intro n
  induction n with
  | zero => exact ⟨Int.le_refl _, Int.le_refl _⟩
  | succ n ih => unfold cnN; split <;> omega
theorem cnN_congr {f g : Nat → Int32} : ∀ n : Nat, (∀ j : Nat, j < n → g j = f j) → cnN g n = cnN f n := by
  intro n
  induction n with
  | zero => intro _; rfl
  | succ n ih => intro h; unfold cnN; rw [ih (fun j hj => h j (by omega)), h n (by omega)]
theorem cnN_s (f : Nat → Int32) (n : Nat) : cnN f (n + 1) = cnN f n + (if (f n).toInt = 2 ∨ (f n).toInt = 40 then 1 else 0) := rfl
/-- the stack by whole numbers: kinds 4 or, 3 and, 2 not, 40 (; how high each may lie, and on what -/
def cnI (f : Nat → Int32) (o : Int) : Int := cnN f o.toNat
def OSi (f : Nat → Int32) (o : Int) : Prop := ∀ i : Int, 0 ≤ i → i < o → ((f i.toNat).toInt = 4 ∧ i ≤ 3 * cnI f i ∧ (i = 0 ∨ (f (i - 1).toNat).toInt = 40)) ∨ ((f i.toNat).toInt = 3 ∧ i ≤ 3 * cnI f i + 1 ∧ (i = 0 ∨ (f (i - 1).toNat).toInt = 4 ∨ (f (i - 1).toNat).toInt = 40)) ∨ (((f i.toNat).toInt = 2 ∨ (f i.toNat).toInt = 40) ∧ i ≤ 3 * cnI f i + 2)
theorem cni_bd (f : Nat → Int32) {o : Int} (h : 0 ≤ o) : 0 ≤ cnI f o ∧ cnI f o ≤ o := by
  have h1 := cnN_bd f o.toNat
  unfold cnI
  omega
theorem cni_pop (f : Nat → Int32) {o : Int} (h : 0 < o) : cnI f o = cnI f (o - 1) + (if (f (o - 1).toNat).toInt = 2 ∨ (f (o - 1).toNat).toInt = 40 then 1 else 0) := by
  have e : o.toNat = (o - 1).toNat + 1 := by omega
  unfold cnI
  rw [e]; exact cnN_s f _
theorem cni_congr {f g : Nat → Int32} {o : Int} (h : ∀ j : Nat, (j : Int) < o → g j = f j) : cnI g o = cnI f o := cnN_congr _ (fun j hj => h j (by omega))
theorem osi_pop {f : Nat → Int32} {o p : Int} (h : OSi f o) (hp : p ≤ o) : OSi f p := fun i h1 h2 => h i h1 (by omega)
theorem osi_bd {f : Nat → Int32} {o : Int} (h0 : 0 ≤ o) (h : OSi f o) : o ≤ 3 * cnI f o + 2 := by
  by_cases hz : o = 0
  · have h1 := cni_bd f h0; omega
  · have h1 := h (o - 1) (by omega) (by omega)
    have h2 := cni_pop f (o := o) (by omega)
    rcases h1 with ⟨e, h3, -⟩ | ⟨e, h3, -⟩ | ⟨e, h3⟩
    · rw [if_neg (by omega)] at h2; omega
    · rw [if_neg (by omega)] at h2; omega
    · rw [if_pos e] at h2; omega
theorem cni_push {f g : Nat → Int32} {o : Int} {x : Int32} (h0 : 0 ≤ o) (h1 : ∀ j : Nat, ¬ ((j : Int) = o) → g j = f j) (h2 : g o.toNat = x) : cnI g (o + 1) = cnI f o + (if x.toInt = 2 ∨ x.toInt = 40 then 1 else 0) := by
  have h3 := cni_pop g (o := o + 1) (by omega)
  rw [show o + 1 - 1 = o by omega, h2, cni_congr (f := f) (g := g) (o := o) (fun j hj => h1 j (by omega))] at h3
  exact h3
theorem osi_push {f g : Nat → Int32} {o : Int} {x : Int32} (h0 : 0 ≤ o) (h : OSi f o) (h1 : ∀ j : Nat, ¬ ((j : Int) = o) → g j = f j) (h2 : g o.toNat = x) (hx : (x.toInt = 4 ∧ o ≤ 3 * cnI f o ∧ (o = 0 ∨ (f (o - 1).toNat).toInt = 40)) ∨ (x.toInt = 3 ∧ o ≤ 3 * cnI f o + 1 ∧ (o = 0 ∨ (f (o - 1).toNat).toInt = 4 ∨ (f (o - 1).toNat).toInt = 40)) ∨ ((x.toInt = 2 ∨ x.toInt = 40) ∧ o ≤ 3 * cnI f o + 2)) : OSi g (o + 1) := by
  intro i hi0 hi1
  by_cases hi : i = o
  · subst hi
    have e1 : cnI g i = cnI f i := cni_congr (fun j hj => h1 j (by omega))
    rw [h2, e1]
    by_cases hz : i = 0
    · rcases hx with ⟨a, b, -⟩ | ⟨a, b, -⟩ | ⟨a, b⟩
      · exact Or.inl ⟨a, b, Or.inl hz⟩
      · exact Or.inr (Or.inl ⟨a, b, Or.inl hz⟩)
      · exact Or.inr (Or.inr ⟨a, b⟩)
    · rw [h1 (i - 1).toNat (by omega)]
      exact hx
  · have e1 : cnI g i = cnI f i := cni_congr (fun j hj => h1 j (by omega))
    have h3 := h i hi0 (by omega)
    rw [h1 i.toNat (by omega), e1]
    by_cases hz : i = 0
    · rcases h3 with ⟨a, b, -⟩ | ⟨a, b, -⟩ | ⟨a, b⟩
      · exact Or.inl ⟨a, b, Or.inl hz⟩
      · exact Or.inr (Or.inl ⟨a, b, Or.inl hz⟩)
      · exact Or.inr (Or.inr ⟨a, b⟩)
    · rw [h1 (i - 1).toNat (by omega)]
      exact h3
theorem osi_zero (f : Nat → Int32) : OSi f 0 := fun i h1 h2 => by omega
theorem cni_zero (f : Nat → Int32) : cnI f 0 = 0 := rfl
/-- the texts' code: each whole statement's part of it goes on well -/
def TCd (mn fr tt o : Nat → Int32) (L : Int) : Prop := ∀ t k : Int, 0 ≤ t → t < 10 → 0 ≤ k → k < (mn t.toNat).toInt → 0 ≤ (fr (40 * t + k).toNat).toInt ∧ (fr (40 * t + k).toNat).toInt ≤ (tt (40 * t + k).toNat).toInt ∧ (tt (40 * t + k).toNat).toInt ≤ L ∧ (tt (40 * t + k).toNat).toInt ≤ 900 * t + 900 ∧ ((fr (40 * t + k).toNat).toInt = (tt (40 * t + k).toNat).toInt ∨ 1 ≤ dep o (fr (40 * t + k).toNat).toInt ((tt (40 * t + k).toNat).toInt - (fr (40 * t + k).toNat).toInt).toNat)
theorem tc_op {mn fr tt o o1 : Nat → Int32} {L L1 : Int} (h : TCd mn fr tt o L) (ho : ∀ j : Nat, (j : Int) < L → o1 j = o j) (hL : L ≤ L1) : TCd mn fr tt o1 L1 := by
  intro t k h1 h2 h3 h4
  obtain ⟨g1, g2, g3, g4, g5⟩ := h t k h1 h2 h3 h4
  refine ⟨g1, g2, by omega, g4, ?_⟩
  rcases g5 with g5 | g5
  · exact Or.inl g5
  · exact Or.inr (by rw [dep_congr (o := o) (o1 := o1) _ (fun j q1 q2 => ho j (by omega)) g1]; exact g5)
theorem tc_fr {mn fr tt o fr1 : Nat → Int32} {L t0 : Int} (h : TCd mn fr tt o L) (hm : ∀ j : Nat, 0 ≤ (mn j).toInt ∧ (mn j).toInt ≤ 40) (h0 : 0 ≤ t0) (h9 : (mn t0.toNat).toInt ≤ 39) (hf : ∀ j : Nat, ¬ ((j : Int) = 40 * t0 + (mn t0.toNat).toInt) → fr1 j = fr j) : TCd mn fr1 tt o L := by
  intro t k h1 h2 h3 h4
  have hk := hm t.toNat
  have ht := hm t0.toNat
  have e : fr1 (40 * t + k).toNat = fr (40 * t + k).toNat := hf _ (by
    intro z
    by_cases e : t = t0
    · subst e; omega
    · omega)
  rw [e]
  exact h t k h1 h2 h3 h4
theorem tc_to {mn fr tt o tt1 : Nat → Int32} {L t0 : Int} (h : TCd mn fr tt o L) (hm : ∀ j : Nat, 0 ≤ (mn j).toInt ∧ (mn j).toInt ≤ 40) (h0 : 0 ≤ t0) (h9 : (mn t0.toNat).toInt ≤ 39) (hf : ∀ j : Nat, ¬ ((j : Int) = 40 * t0 + (mn t0.toNat).toInt) → tt1 j = tt j) : TCd mn fr tt1 o L := by
  intro t k h1 h2 h3 h4
  have hk := hm t.toNat
  have ht := hm t0.toNat
  have e : tt1 (40 * t + k).toNat = tt (40 * t + k).toNat := hf _ (by
    intro z
    by_cases e : t = t0
    · subst e; omega
    · omega)
  rw [e]
  exact h t k h1 h2 h3 h4
theorem tc_inc {mn mn1 fr tt o : Nat → Int32} {L t0 m0 : Int} (h : TCd mn fr tt o L) (h0 : 0 ≤ t0) (hmm : (mn t0.toNat).toInt = m0) (h1 : ∀ j : Nat, ¬ ((j : Int) = t0) → mn1 j = mn j) (h2 : (mn1 t0.toNat).toInt = m0 + 1) (hs : 0 ≤ (fr (40 * t0 + m0).toNat).toInt ∧ (fr (40 * t0 + m0).toNat).toInt ≤ (tt (40 * t0 + m0).toNat).toInt ∧ (tt (40 * t0 + m0).toNat).toInt ≤ L ∧ (tt (40 * t0 + m0).toNat).toInt ≤ 900 * t0 + 900 ∧ ((fr (40 * t0 + m0).toNat).toInt = (tt (40 * t0 + m0).toNat).toInt ∨ 1 ≤ dep o (fr (40 * t0 + m0).toNat).toInt ((tt (40 * t0 + m0).toNat).toInt - (fr (40 * t0 + m0).toNat).toInt).toNat)) : TCd mn1 fr tt o L := by
  intro t k h3 h4 h5 h6
  by_cases e : t = t0
  · subst e
    by_cases e2 : k = m0
    · subst e2; exact hs
    · exact h t k h3 h4 h5 (by omega)
  · rw [h1 t.toNat (by omega)] at h6
    exact h t k h3 h4 h5 h6
theorem push_and {f : Nat → Int32} {o : Int} (h0 : 0 ≤ o) (h : OSi f o) (n2 : ¬ (0 < o ∧ (f (o - 1).toNat).toInt = 2)) (n3 : ¬ (0 < o ∧ (f (o - 1).toNat).toInt = 3)) : o ≤ 3 * cnI f o + 1 ∧ (o = 0 ∨ (f (o - 1).toNat).toInt = 4 ∨ (f (o - 1).toNat).toInt = 40) := by
  have hb := cni_bd f h0
  by_cases hz : o = 0
  · exact ⟨by omega, Or.inl hz⟩
  · have h1 := h (o - 1) (by omega) (by omega)
    have h2 := cni_pop f (o := o) (by omega)
    by_cases h40 : (f (o - 1).toNat).toInt = 40
    · rw [if_pos (Or.inr h40)] at h2; exact ⟨by omega, Or.inr (Or.inr h40)⟩
    · rw [if_neg (by omega)] at h2; exact ⟨by omega, Or.inr (Or.inl (by omega))⟩
theorem push_or {f : Nat → Int32} {o : Int} (h0 : 0 ≤ o) (h : OSi f o) (ht : o = 0 ∨ (f (o - 1).toNat).toInt = 40) : o ≤ 3 * cnI f o := by
  have hb := cni_bd f h0
  by_cases hz : o = 0
  · omega
  · have h1 := h (o - 1) (by omega) (by omega)
    have h2 := cni_pop f (o := o) (by omega)
    rw [if_pos (by omega)] at h2
    omega
theorem tc_reset {mn mn1 fr tt o : Nat → Int32} {L t0 : Int} (h : TCd mn fr tt o L) (h0 : 0 ≤ t0) (hz : ∀ j : Nat, t0 < (j : Int) → (mn j).toInt = 0) (h1 : ∀ j : Nat, ¬ ((j : Int) = t0) → mn1 j = mn j) (h2 : (mn1 t0.toNat).toInt = 0) : TCd mn1 fr tt o (900 * t0) := by
  intro t k h3 h4 h5 h6
  by_cases e : t = t0
  · subst e; omega
  · rw [h1 t.toNat (by omega)] at h6
    have h7 := hz t.toNat
    obtain ⟨g1, g2, g3, g4, g5⟩ := h t k h3 h4 h5 h6
    exact ⟨g1, g2, by omega, g4, g5⟩
theorem stp_inv {k d : Int} (h0 : 0 ≤ d) (h : 0 ≤ stp k d) : ((k = 1 ∨ 111 ≤ k) → d < 399 ∧ stp k d = d + 1) ∧ (k = 2 → 1 ≤ d ∧ stp k d = d) ∧ (¬ (k = 1 ∨ 111 ≤ k) → ¬ k = 2 → 2 ≤ d ∧ stp k d = d - 1) := by
  unfold stp at h ⊢
  rw [if_neg (by omega)] at h ⊢
  refine ⟨fun q => ?_, fun q => ?_, fun q1 q2 => ?_⟩
  · rw [if_pos q] at h ⊢
    by_cases hd : d < 399
    · rw [if_pos hd]; exact ⟨hd, rfl⟩
    · rw [if_neg hd] at h; omega
  · rw [if_neg (by omega), if_pos q] at h ⊢
    by_cases hd : 1 ≤ d
    · rw [if_pos hd]; exact ⟨hd, rfl⟩
    · rw [if_neg hd] at h; omega
  · rw [if_neg q1, if_neg q2] at h ⊢
    by_cases hd : 2 ≤ d
    · rw [if_pos hd]; exact ⟨hd, rfl⟩
    · rw [if_neg hd] at h; omega
theorem owm_le (g f : Nat → Int32) (p : Int) {d n : Int} (h : d < n) : owm g f p (d + 1) (n - (d + 1)).toNat ≤ owm g f p d (n - d).toNat := by
  rw [owm_step g f p h]
  split <;> omega
theorem fmc_le (f g : Nat → Int32) {d n : Int} (h : d < n) : fmc f g (d + 1) (n - (d + 1)).toNat ≤ fmc f g d (n - d).toNat := by
  rw [fmc_step f g h]
  split <;> omega
