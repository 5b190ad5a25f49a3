/-! shares: a set that passes is always there (no machine, whole numbers) -/
theorem lin0 {u n : Int} (hn : 0 ≤ n) (h : ∀ z : Int, 0 ≤ 2 * (u * z) + n) : u = 0 := by
  have h1 := h (-(n + 1) * u)
  rcases Int.lt_trichotomy u 0 with c | c | c
  · exfalso
    have e : u * (-(n + 1) * u) = -((n + 1) * (u * u)) := by grind
    have s1 : 1 ≤ u * u := by
      have : 1 * 1 ≤ (-u) * (-u) := Int.mul_le_mul (by omega) (by omega) (by omega) (by omega)
      have e2 : (-u) * (-u) = u * u := by grind
      omega
    have s2 : (n + 1) * 1 ≤ (n + 1) * (u * u) := Int.mul_le_mul_of_nonneg_left s1 (by omega)
    omega
  · exact c
  · exfalso
    have e : u * (-(n + 1) * u) = -((n + 1) * (u * u)) := by grind
    have s1 : 1 ≤ u * u := by
      have : 1 * 1 ≤ u * u := Int.mul_le_mul (by omega) (by omega) (by omega) (by omega)
      omega
    have s2 : (n + 1) * 1 ≤ (n + 1) * (u * u) := Int.mul_le_mul_of_nonneg_left s1 (by omega)
    omega
theorem pos_of_mul {a x : Int} (ha : 0 < a) (h : 0 ≤ a * x) : 0 ≤ x := Int.nonneg_of_mul_nonneg_right h ha
theorem neg_of_mul {a x : Int} (ha : 0 < a) (h : a * x ≤ 0) : x ≤ 0 := by
  have : 0 ≤ a * (-x) := by rw [Int.mul_neg]; omega
  have := pos_of_mul ha this
  omega
/-- two libraries -/
theorem two {a b d u v n : Int} (H : ∀ x y s : Int, 0 ≤ a * x * x + 2 * (b * x * y) + d * y * y + 2 * (u * x * s) + 2 * (v * y * s) + n * s * s) : (u ≤ 0 ∧ v ≤ 0) ∨ (0 < a ∧ 0 ≤ u ∧ a * v - b * u ≤ 0) ∨ (0 < d ∧ 0 ≤ v ∧ d * u - b * v ≤ 0) ∨ (0 < a * d - b * b ∧ 0 ≤ d * u - b * v ∧ 0 ≤ a * v - b * u) := by
  have hn : 0 ≤ n := by have := H 0 0 1; simp at this; exact this
  have ha : 0 ≤ a := by have := H 1 0 0; simp at this; exact this
  have hd : 0 ≤ d := by have := H 0 1 0; simp at this; exact this
  have a0 : a = 0 → u = 0 ∧ b = 0 := by
    intro e
    refine ⟨lin0 hn (fun z => ?_), lin0 hd (fun z => ?_)⟩
    · have := H z 0 1; rw [e] at this; simp at this; exact this
    · have := H z 1 0; rw [e] at this; simp at this; exact this
  have d0 : d = 0 → v = 0 ∧ b = 0 := by
    intro e
    refine ⟨lin0 hn (fun z => ?_), lin0 ha (fun z => ?_)⟩
    · have := H 0 z 1; rw [e] at this; simp at this; exact this
    · have := H 1 z 0; rw [e] at this; simp at this; omega
  have hD : 0 ≤ a * d - b * b := by
    rcases Int.lt_or_le 0 a with c | c
    · have h1 := H b (-a) 0
      have e : a * b * b + 2 * (b * b * -a) + d * -a * -a + 2 * (u * b * 0) + 2 * (v * -a * 0) + n * 0 * 0 = a * (a * d - b * b) := by grind
      rw [e] at h1
      exact pos_of_mul c h1
    · have := a0 (by omega); rw [this.2, show a = 0 by omega]; simp
  have D0 : a * d - b * b = 0 → a * v - b * u = 0 ∧ d * u - b * v = 0 := by
    intro e
    refine ⟨?_, ?_⟩
    · have : b * u - a * v = 0 := lin0 hn (fun z => by
        have h1 := H (b * z) (-(a * z)) 1
        have e2 : a * (b * z) * (b * z) + 2 * (b * (b * z) * -(a * z)) + d * -(a * z) * -(a * z) + 2 * (u * (b * z) * 1) + 2 * (v * -(a * z) * 1) + n * 1 * 1 = a * (a * d - b * b) * (z * z) + 2 * ((b * u - a * v) * z) + n := by grind
        rw [e2, e] at h1; simp at h1; exact h1)
      omega
    · exact lin0 hn (fun z => by
        have h1 := H (d * z) (-(b * z)) 1
        have e2 : a * (d * z) * (d * z) + 2 * (b * (d * z) * -(b * z)) + d * -(b * z) * -(b * z) + 2 * (u * (d * z) * 1) + 2 * (v * -(b * z) * 1) + n * 1 * 1 = d * (a * d - b * b) * (z * z) + 2 * ((d * u - b * v) * z) + n := by grind
        rw [e2, e] at h1; simp at h1; exact h1)
  rcases Int.lt_or_le 0 (a * d - b * b) with c | c
  · have hap : 0 < a := by
      rcases Int.lt_or_le 0 a with q | q
      · exact q
      · have := a0 (by omega); rw [this.2, show a = 0 by omega] at c; simp at c
    have hdp : 0 < d := by
      rcases Int.lt_or_le 0 d with q | q
      · exact q
      · have := d0 (by omega); rw [this.2, show d = 0 by omega] at c; simp at c
    by_cases hp : 0 ≤ d * u - b * v
    · by_cases hq : 0 ≤ a * v - b * u
      · exact Or.inr (Or.inr (Or.inr ⟨c, hp, hq⟩))
      · rcases Int.lt_or_le u 0 with u0 | u0
        · rcases Int.lt_or_le 0 v with v0 | v0
          · exfalso
            have e : a * (d * u - b * v) = (a * d - b * b) * u - b * (a * v - b * u) := by grind
            have h1 : 0 ≤ a * (d * u - b * v) := Int.mul_nonneg ha hp
            have h2 : (a * d - b * b) * u < 0 := by
              have := Int.mul_pos c (show 0 < -u by omega)
              have e3 : (a * d - b * b) * -u = -((a * d - b * b) * u) := Int.mul_neg _ _
              omega
            have h3 : 0 < a * v := Int.mul_pos hap v0
            have h4 : 0 < b * u := by omega
            have hb : b < 0 := by
              rcases Int.lt_or_le b 0 with q | q
              · exact q
              · have := Int.mul_nonneg q (show 0 ≤ -u by omega)
                have e3 : b * -u = -(b * u) := Int.mul_neg _ _
                omega
            have h5 : 0 < -b * -(a * v - b * u) := Int.mul_pos (by omega) (by omega)
            have e4 : -b * -(a * v - b * u) = b * (a * v - b * u) := by grind
            omega
          · exact Or.inl ⟨by omega, v0⟩
        · exact Or.inr (Or.inl ⟨hap, u0, by omega⟩)
    · rcases Int.lt_or_le v 0 with v0 | v0
      · rcases Int.lt_or_le 0 u with u0 | u0
        · have e : d * (a * v - b * u) = (a * d - b * b) * v - b * (d * u - b * v) := by grind
          have h2 : (a * d - b * b) * v < 0 := by
            have := Int.mul_pos c (show 0 < -v by omega)
            have e3 : (a * d - b * b) * -v = -((a * d - b * b) * v) := Int.mul_neg _ _
            omega
          have h3 : 0 < d * u := Int.mul_pos hdp u0
          have h4 : 0 < b * v := by omega
          have hb : b < 0 := by
            rcases Int.lt_or_le b 0 with q | q
            · exact q
            · have := Int.mul_nonneg q (show 0 ≤ -v by omega)
              have e3 : b * -v = -(b * v) := Int.mul_neg _ _
              omega
          have h5 : 0 < -b * -(d * u - b * v) := Int.mul_pos (by omega) (by omega)
          have e4 : -b * -(d * u - b * v) = b * (d * u - b * v) := by grind
          exact Or.inr (Or.inl ⟨hap, by omega, neg_of_mul hdp (by omega)⟩)
        · exact Or.inl ⟨u0, by omega⟩
      · exact Or.inr (Or.inr (Or.inl ⟨hdp, v0, by omega⟩))
  · obtain ⟨q0, p0⟩ := D0 (by omega)
    rcases Int.lt_or_le 0 u with u0 | u0
    · refine Or.inr (Or.inl ⟨?_, by omega, by omega⟩)
      rcases Int.lt_or_le 0 a with q | q
      · exact q
      · have := a0 (by omega); omega
    · rcases Int.lt_or_le 0 v with v0 | v0
      · refine Or.inr (Or.inr (Or.inl ⟨?_, by omega, by omega⟩))
        rcases Int.lt_or_le 0 d with q | q
        · exact q
        · have := d0 (by omega); omega
      · exact Or.inl ⟨u0, v0⟩
/-- a solution without the third library that leaves a pull on it, and one with it: the third share is not below 0 -/
theorem mono3 {a b c d e f u v w : Int} (H : ∀ x y z : Int, 0 ≤ a * x * x + 2 * (b * x * y) + 2 * (c * x * z) + d * y * y + 2 * (e * y * z) + f * z * z) {x0 x1 D y0 y1 y2 E : Int} (hD : 0 < D) (hE : 0 < E) (hx0 : 0 ≤ x0) (hx1 : 0 ≤ x1) (hy0 : 0 ≤ y0) (hy1 : 0 ≤ y1) (g0 : D * u - x0 * a - x1 * b ≤ 0) (g1 : D * v - x0 * b - x1 * d ≤ 0) (s0 : x0 * (D * u - x0 * a - x1 * b) = 0) (s1 : x1 * (D * v - x0 * b - x1 * d) = 0) (g2 : 0 < D * w - x0 * c - x1 * e) (k0 : E * u - y0 * a - y1 * b - y2 * c ≤ 0) (k1 : E * v - y0 * b - y1 * d - y2 * e ≤ 0) (t0 : y0 * (E * u - y0 * a - y1 * b - y2 * c) = 0) (t1 : y1 * (E * v - y0 * b - y1 * d - y2 * e) = 0) (k2 : E * w - y0 * c - y1 * e - y2 * f = 0) : 0 ≤ y2 := by
  have h := H (E * x0 - D * y0) (E * x1 - D * y1) (-(D * y2))
  generalize hg0 : D * u - x0 * a - x1 * b = G0 at *
  generalize hg1 : D * v - x0 * b - x1 * d = G1 at *
  generalize hg2 : D * w - x0 * c - x1 * e = G2 at *
  generalize hk0 : E * u - y0 * a - y1 * b - y2 * c = K0 at *
  generalize hk1 : E * v - y0 * b - y1 * d - y2 * e = K1 at *
  have key : a * (E * x0 - D * y0) * (E * x0 - D * y0) + 2 * (b * (E * x0 - D * y0) * (E * x1 - D * y1)) + 2 * (c * (E * x0 - D * y0) * -(D * y2)) + d * (E * x1 - D * y1) * (E * x1 - D * y1) + 2 * (e * (E * x1 - D * y1) * -(D * y2)) + f * -(D * y2) * -(D * y2) = (E * x0 - D * y0) * (D * K0 - E * G0) + (E * x1 - D * y1) * (D * K1 - E * G1) + -(D * y2) * (D * (E * w - y0 * c - y1 * e - y2 * f) - E * G2) := by
    subst hg0 hg1 hg2 hk0 hk1
    grind
  rw [key, k2] at h
  have z0 : (E * x0 - D * y0) * (D * K0 - E * G0) = E * D * (x0 * K0) + D * E * (y0 * G0) - E * E * (x0 * G0) - D * D * (y0 * K0) := by grind
  have z1 : (E * x1 - D * y1) * (D * K1 - E * G1) = E * D * (x1 * K1) + D * E * (y1 * G1) - E * E * (x1 * G1) - D * D * (y1 * K1) := by grind
  rw [s0, t0] at z0
  rw [s1, t1] at z1
  have hDE : 0 < D * E := Int.mul_pos hD hE
  have np : ∀ p q : Int, 0 ≤ p → q ≤ 0 → p * q ≤ 0 := fun p q hp hq => Int.mul_nonpos_of_nonneg_of_nonpos hp hq
  have m1 : x0 * K0 ≤ 0 := np _ _ hx0 k0
  have m2 : y0 * G0 ≤ 0 := np _ _ hy0 g0
  have m3 : x1 * K1 ≤ 0 := np _ _ hx1 k1
  have m4 : y1 * G1 ≤ 0 := np _ _ hy1 g1
  have n1 : E * D * (x0 * K0) ≤ 0 := np _ _ (by rw [Int.mul_comm]; omega) m1
  have n2 : D * E * (y0 * G0) ≤ 0 := np _ _ (by omega) m2
  have n3 : E * D * (x1 * K1) ≤ 0 := np _ _ (by rw [Int.mul_comm]; omega) m3
  have n4 : D * E * (y1 * G1) ≤ 0 := np _ _ (by omega) m4
  have z2 : -(D * y2) * (D * 0 - E * G2) = D * E * G2 * y2 := by grind
  rw [z0, z1, z2] at h
  simp only [Int.mul_zero] at h
  have hp : 0 < D * E * G2 := Int.mul_pos hDE g2
  exact pos_of_mul hp (by omega)
def pD (a b c d e f : Int) : Nat → Int
  | 0 => 1
  | 1 => a
  | 2 => d
  | 3 => a * d - b * b
  | 4 => f
  | 5 => a * f - c * c
  | 6 => d * f - e * e
  | _ => a * (d * f - e * e) - b * (b * f - e * c) + c * (b * e - d * c)
def pX0 (a b c d e f u v w : Int) : Nat → Int
  | 1 => u
  | 3 => u * d - b * v
  | 5 => u * f - c * w
  | 7 => u * (d * f - e * e) - b * (v * f - e * w) + c * (v * e - d * w)
  | _ => 0
def pX1 (a b c d e f u v w : Int) : Nat → Int
  | 2 => v
  | 3 => a * v - u * b
  | 6 => v * f - e * w
  | 7 => a * (v * f - e * w) - u * (b * f - e * c) + c * (b * w - v * c)
  | _ => 0
def pX2 (a b c d e f u v w : Int) : Nat → Int
  | 4 => w
  | 5 => a * w - u * c
  | 6 => d * w - v * e
  | 7 => a * (d * w - v * e) - b * (b * w - v * c) + u * (b * e - d * c)
  | _ => 0
def pOk (a b c d e f u v w : Int) (S : Nat) : Prop :=
  0 < pD a b c d e f S ∧ 0 ≤ pX0 a b c d e f u v w S ∧ 0 ≤ pX1 a b c d e f u v w S ∧ 0 ≤ pX2 a b c d e f u v w S ∧
  pD a b c d e f S * u - pX0 a b c d e f u v w S * a - pX1 a b c d e f u v w S * b - pX2 a b c d e f u v w S * c ≤ 0 ∧
  pD a b c d e f S * v - pX0 a b c d e f u v w S * b - pX1 a b c d e f u v w S * d - pX2 a b c d e f u v w S * e ≤ 0 ∧
  pD a b c d e f S * w - pX0 a b c d e f u v w S * c - pX1 a b c d e f u v w S * e - pX2 a b c d e f u v w S * f ≤ 0
theorem le0 {x y : Int} (e : x = y) (h : y ≤ 0) : x ≤ 0 := by omega
theorem three {a b c d e f u v w n : Int} (H : ∀ x y z s : Int, 0 ≤ a * x * x + 2 * (b * x * y) + 2 * (c * x * z) + d * y * y + 2 * (e * y * z) + f * z * z + 2 * (u * x * s) + 2 * (v * y * s) + 2 * (w * z * s) + n * s * s) : ∃ S, S < 8 ∧ pOk a b c d e f u v w S := by
  have hn : 0 ≤ n := by have := H 0 0 0 1; simp at this; exact this
  have H3 : ∀ x y z : Int, 0 ≤ a * x * x + 2 * (b * x * y) + 2 * (c * x * z) + d * y * y + 2 * (e * y * z) + f * z * z := fun x y z => by
    have := H x y z 0; simp at this; exact this
  have hf : 0 ≤ f := by have := H 0 0 1 0; simp at this; exact this
  have ha : 0 ≤ a := by have := H 1 0 0 0; simp at this; exact this
  have hd : 0 ≤ d := by have := H 0 1 0 0; simp at this; exact this
  have f0 : f = 0 → w = 0 ∧ c = 0 ∧ e = 0 := by
    intro e0
    refine ⟨lin0 hn (fun z => ?_), lin0 ha (fun z => ?_), lin0 hd (fun z => ?_)⟩
    · have := H 0 0 z 1; rw [e0] at this; simp at this; exact this
    · have := H 1 0 z 0; rw [e0] at this; simp at this; omega
    · have := H 0 1 z 0; rw [e0] at this; simp at this; omega
  -- without the third
  have t1 := two (a := a) (b := b) (d := d) (u := u) (v := v) (n := n) (fun x y s => by
    have := H x y 0 s; simp at this; exact this)
  have S0 : ∃ S x0 x1 D : Int, (S = 0 ∧ D = 1 ∧ x0 = 0 ∧ x1 = 0 ∨ S = 1 ∧ D = a ∧ x0 = u ∧ x1 = 0 ∨ S = 2 ∧ D = d ∧ x0 = 0 ∧ x1 = v ∨ S = 3 ∧ D = a * d - b * b ∧ x0 = u * d - b * v ∧ x1 = a * v - u * b) ∧ 0 < D ∧ 0 ≤ x0 ∧ 0 ≤ x1 ∧ D * u - x0 * a - x1 * b ≤ 0 ∧ D * v - x0 * b - x1 * d ≤ 0 ∧ x0 * (D * u - x0 * a - x1 * b) = 0 ∧ x1 * (D * v - x0 * b - x1 * d) = 0 := by
    rcases t1 with h | h | h | h
    · exact ⟨0, 0, 0, 1, Or.inl ⟨rfl, rfl, rfl, rfl⟩, by omega, by omega, by omega, by omega, by omega, by simp, by simp⟩
    · exact ⟨1, u, 0, a, Or.inr (Or.inl ⟨rfl, rfl, rfl, rfl⟩), h.1, h.2.1, by omega, le0 (y := 0) (by grind) (by omega), le0 (y := a * v - b * u) (by grind) h.2.2, by grind, by simp⟩
    · exact ⟨2, 0, v, d, Or.inr (Or.inr (Or.inl ⟨rfl, rfl, rfl, rfl⟩)), h.1, by omega, h.2.1, le0 (y := d * u - b * v) (by grind) h.2.2, le0 (y := 0) (by grind) (by omega), by simp, by grind⟩
    · refine ⟨3, u * d - b * v, a * v - u * b, a * d - b * b, Or.inr (Or.inr (Or.inr ⟨rfl, rfl, rfl, rfl⟩)), h.1, ?_, ?_, le0 (y := 0) (by grind) (by omega), le0 (y := 0) (by grind) (by omega), by grind, by grind⟩
      · have e1 : u * d - b * v = d * u - b * v := by grind
        omega
      · have e1 : a * v - u * b = a * v - b * u := by grind
        omega
  obtain ⟨S, x0, x1, D, hS, hD, hx0, hx1, g0, g1, s0, s1⟩ := S0
  rcases Int.lt_or_le 0 (D * w - x0 * c - x1 * e) with g2 | g2
  · have hfp : 0 < f := by
      rcases Int.lt_or_le 0 f with q | q
      · exact q
      · obtain ⟨w0, c0, e0⟩ := f0 (by omega)
        rw [w0, c0, e0] at g2; simp at g2
    have t2 := two (a := f * a - c * c) (b := f * b - c * e) (d := f * d - e * e) (u := f * u - c * w) (v := f * v - e * w) (n := f * n - w * w) (fun x y s => by
      have h1 := H (f * x) (f * y) (-(c * x + e * y + w * s)) (f * s)
      have e1 : a * (f * x) * (f * x) + 2 * (b * (f * x) * (f * y)) + 2 * (c * (f * x) * -(c * x + e * y + w * s)) + d * (f * y) * (f * y) + 2 * (e * (f * y) * -(c * x + e * y + w * s)) + f * -(c * x + e * y + w * s) * -(c * x + e * y + w * s) + 2 * (u * (f * x) * (f * s)) + 2 * (v * (f * y) * (f * s)) + 2 * (w * -(c * x + e * y + w * s) * (f * s)) + n * (f * s) * (f * s) = f * ((f * a - c * c) * x * x + 2 * ((f * b - c * e) * x * y) + (f * d - e * e) * y * y + 2 * ((f * u - c * w) * x * s) + 2 * ((f * v - e * w) * y * s) + (f * n - w * w) * s * s) := by grind
      rw [e1] at h1
      exact pos_of_mul hfp h1)
    rcases t2 with h | h | h | h
    · -- only the third
      have k0 : f * u - 0 * a - 0 * b - w * c ≤ 0 := le0 (y := f * u - c * w) (by grind) h.1
      have k1 : f * v - 0 * b - 0 * d - w * e ≤ 0 := le0 (y := f * v - e * w) (by grind) h.2
      have k2 : f * w - 0 * c - 0 * e - w * f = 0 := by grind
      have y2 := mono3 H3 hD hfp hx0 hx1 (by omega) (by omega) g0 g1 s0 s1 g2 k0 k1 (by simp) (by simp) k2
      exact ⟨4, by omega, hfp, by show (0 : Int) ≤ 0; omega, by show (0 : Int) ≤ 0; omega, y2, k0, k1, by show f * w - 0 * c - 0 * e - w * f ≤ 0; omega⟩
    · have hE : 0 < a * f - c * c := by
        have e1 : f * a - c * c = a * f - c * c := by grind
        omega
      have hy0 : 0 ≤ u * f - c * w := by
        have e1 : u * f - c * w = f * u - c * w := by grind
        omega
      have k0 : (a * f - c * c) * u - (u * f - c * w) * a - 0 * b - (a * w - u * c) * c = 0 := by grind
      have k1 : (a * f - c * c) * v - (u * f - c * w) * b - 0 * d - (a * w - u * c) * e ≤ 0 := by
        refine neg_of_mul hfp ?_
        exact le0 (y := (f * a - c * c) * (f * v - e * w) - (f * b - c * e) * (f * u - c * w)) (by grind) h.2.2
      have k2 : (a * f - c * c) * w - (u * f - c * w) * c - 0 * e - (a * w - u * c) * f = 0 := by grind
      have y2 := mono3 H3 hD hE hx0 hx1 hy0 (by omega) g0 g1 s0 s1 g2 (by omega) k1 (by rw [k0]; simp) (by simp) k2
      exact ⟨5, by omega, hE, hy0, by show (0 : Int) ≤ 0; omega, y2, by show (a * f - c * c) * u - (u * f - c * w) * a - 0 * b - (a * w - u * c) * c ≤ 0; omega, k1, by show (a * f - c * c) * w - (u * f - c * w) * c - 0 * e - (a * w - u * c) * f ≤ 0; omega⟩
    · have hE : 0 < d * f - e * e := by
        have e1 : f * d - e * e = d * f - e * e := by grind
        omega
      have hy1 : 0 ≤ v * f - e * w := by
        have e1 : v * f - e * w = f * v - e * w := by grind
        omega
      have k1 : (d * f - e * e) * v - 0 * b - (v * f - e * w) * d - (d * w - v * e) * e = 0 := by grind
      have k0 : (d * f - e * e) * u - 0 * a - (v * f - e * w) * b - (d * w - v * e) * c ≤ 0 := by
        refine neg_of_mul hfp ?_
        exact le0 (y := (f * d - e * e) * (f * u - c * w) - (f * b - c * e) * (f * v - e * w)) (by grind) h.2.2
      have k2 : (d * f - e * e) * w - 0 * c - (v * f - e * w) * e - (d * w - v * e) * f = 0 := by grind
      have y2 := mono3 H3 hD hE hx0 hx1 (by omega) hy1 g0 g1 s0 s1 g2 k0 (by omega) (by simp) (by rw [k1]; simp) k2
      exact ⟨6, by omega, hE, by show (0 : Int) ≤ 0; omega, hy1, y2, k0, by show (d * f - e * e) * v - 0 * b - (v * f - e * w) * d - (d * w - v * e) * e ≤ 0; omega, by show (d * f - e * e) * w - 0 * c - (v * f - e * w) * e - (d * w - v * e) * f ≤ 0; omega⟩
    · have hE : 0 < pD a b c d e f 7 := by
        have e1 : (f * a - c * c) * (f * d - e * e) - (f * b - c * e) * (f * b - c * e) = f * pD a b c d e f 7 := by unfold pD; grind
        rw [e1] at h
        rcases Int.lt_or_le 0 (pD a b c d e f 7) with q | q
        · exact q
        · have := Int.mul_nonpos_of_nonneg_of_nonpos (show 0 ≤ f by omega) q; omega
      have hy0 : 0 ≤ pX0 a b c d e f u v w 7 := by
        refine pos_of_mul hfp ?_
        have e1 : (f * d - e * e) * (f * u - c * w) - (f * b - c * e) * (f * v - e * w) = f * pX0 a b c d e f u v w 7 := by unfold pX0; grind
        omega
      have hy1 : 0 ≤ pX1 a b c d e f u v w 7 := by
        refine pos_of_mul hfp ?_
        have e1 : (f * a - c * c) * (f * v - e * w) - (f * b - c * e) * (f * u - c * w) = f * pX1 a b c d e f u v w 7 := by unfold pX1; grind
        omega
      have k0 : pD a b c d e f 7 * u - pX0 a b c d e f u v w 7 * a - pX1 a b c d e f u v w 7 * b - pX2 a b c d e f u v w 7 * c = 0 := by unfold pD pX0 pX1 pX2; grind
      have k1 : pD a b c d e f 7 * v - pX0 a b c d e f u v w 7 * b - pX1 a b c d e f u v w 7 * d - pX2 a b c d e f u v w 7 * e = 0 := by unfold pD pX0 pX1 pX2; grind
      have k2 : pD a b c d e f 7 * w - pX0 a b c d e f u v w 7 * c - pX1 a b c d e f u v w 7 * e - pX2 a b c d e f u v w 7 * f = 0 := by unfold pD pX0 pX1 pX2; grind
      have y2 := mono3 H3 hD hE hx0 hx1 hy0 hy1 g0 g1 s0 s1 g2 (by omega) (by omega) (by rw [k0]; simp) (by rw [k1]; simp) k2
      exact ⟨7, by omega, hE, hy0, hy1, y2, by omega, by omega, by omega⟩
  · rcases hS with ⟨_, rfl, rfl, rfl⟩ | ⟨_, rfl, rfl, rfl⟩ | ⟨_, rfl, rfl, rfl⟩ | ⟨_, rfl, rfl, rfl⟩
    · exact ⟨0, by omega, hD, hx0, hx1, Int.le_refl 0, le0 (y := 1 * u - 0 * a - 0 * b) (by show 1 * u - 0 * a - 0 * b - 0 * c = _; omega) g0, le0 (y := 1 * v - 0 * b - 0 * d) (by show 1 * v - 0 * b - 0 * d - 0 * e = _; omega) g1, le0 (y := 1 * w - 0 * c - 0 * e) (by show 1 * w - 0 * c - 0 * e - 0 * f = _; omega) g2⟩
    · exact ⟨1, by omega, hD, hx0, hx1, Int.le_refl 0, le0 (y := _) (by show _ - 0 * c = _; rw [Int.zero_mul, Int.sub_zero]; rfl) g0, le0 (by show _ - 0 * e = _; rw [Int.zero_mul, Int.sub_zero]; rfl) g1, le0 (by show _ - 0 * f = _; rw [Int.zero_mul, Int.sub_zero]; rfl) g2⟩
    · exact ⟨2, by omega, hD, hx0, hx1, Int.le_refl 0, le0 (y := _) (by show _ - 0 * c = _; rw [Int.zero_mul, Int.sub_zero]; rfl) g0, le0 (by show _ - 0 * e = _; rw [Int.zero_mul, Int.sub_zero]; rfl) g1, le0 (by show _ - 0 * f = _; rw [Int.zero_mul, Int.sub_zero]; rfl) g2⟩
    · exact ⟨3, by omega, hD, hx0, hx1, Int.le_refl 0, le0 (y := _) (by show _ - 0 * c = _; rw [Int.zero_mul, Int.sub_zero]; rfl) g0, le0 (by show _ - 0 * e = _; rw [Int.zero_mul, Int.sub_zero]; rfl) g1, le0 (by show _ - 0 * f = _; rw [Int.zero_mul, Int.sub_zero]; rfl) g2⟩
