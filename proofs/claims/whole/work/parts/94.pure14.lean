theorem tb00 : Nat.testBit 0 0 = false := by decide
theorem tb01 : Nat.testBit 0 1 = false := by decide
theorem tb02 : Nat.testBit 0 2 = false := by decide
theorem tb10 : Nat.testBit 1 0 = true := by decide
theorem tb11 : Nat.testBit 1 1 = false := by decide
theorem tb12 : Nat.testBit 1 2 = false := by decide
theorem tb20 : Nat.testBit 2 0 = false := by decide
theorem tb21 : Nat.testBit 2 1 = true := by decide
theorem tb22 : Nat.testBit 2 2 = false := by decide
theorem tb30 : Nat.testBit 3 0 = true := by decide
theorem tb31 : Nat.testBit 3 1 = true := by decide
theorem tb32 : Nat.testBit 3 2 = false := by decide
theorem tb40 : Nat.testBit 4 0 = false := by decide
theorem tb41 : Nat.testBit 4 1 = false := by decide
theorem tb42 : Nat.testBit 4 2 = true := by decide
theorem tb50 : Nat.testBit 5 0 = true := by decide
theorem tb51 : Nat.testBit 5 1 = false := by decide
theorem tb52 : Nat.testBit 5 2 = true := by decide
theorem tb60 : Nat.testBit 6 0 = false := by decide
theorem tb61 : Nat.testBit 6 1 = true := by decide
theorem tb62 : Nat.testBit 6 2 = true := by decide
theorem tb70 : Nat.testBit 7 0 = true := by decide
theorem tb71 : Nat.testBit 7 1 = true := by decide
theorem tb72 : Nat.testBit 7 2 = true := by decide
/-! determinants -/
def det3 (c : Nat → Nat → Int64) : Int64 := ((c 0 0 * (c 1 1 * c 2 2 - c 1 2 * c 2 1)) - (c 0 1 * (c 1 0 * c 2 2 - c 1 2 * c 2 0))) + (c 0 2 * (c 1 0 * c 2 1 - c 1 1 * c 2 0))
def detI (c : Nat → Nat → Int) : Int := ((c 0 0 * (c 1 1 * c 2 2 - c 1 2 * c 2 1)) - (c 0 1 * (c 1 0 * c 2 2 - c 1 2 * c 2 0))) + (c 0 2 * (c 1 0 * c 2 1 - c 1 1 * c 2 0))
theorem o_mul (a b : Int) : Int64.ofInt a * Int64.ofInt b = Int64.ofInt (a * b) := (Int64.ofInt_mul a b).symm
theorem o_sub (a b : Int) : Int64.ofInt a - Int64.ofInt b = Int64.ofInt (a - b) := (Int64.ofInt_sub a b).symm
theorem o_add (a b : Int) : Int64.ofInt a + Int64.ofInt b = Int64.ofInt (a + b) := (Int64.ofInt_add a b).symm
theorem o_i {a : Int} (h1 : -9223372036854775808 ≤ a) (h2 : a ≤ 9223372036854775807) : (Int64.ofInt a).toInt = a := by
  rw [Int64.toInt_ofInt]; exact Kit.bmod64 (by omega) (by omega)
theorem o_of {x : Int64} {a : Int} (h : x.toInt = a) : x = Int64.ofInt a := by rw [← h, Int64.ofInt_toInt]
theorem det_of {c : Nat → Nat → Int64} {d : Nat → Nat → Int} (h : ∀ i k, i < 3 → k < 3 → c i k = Int64.ofInt (d i k)) : det3 c = Int64.ofInt (detI d) := by
  unfold det3 detI
  rw [h 0 0 (by omega) (by omega), h 0 1 (by omega) (by omega), h 0 2 (by omega) (by omega), h 1 0 (by omega) (by omega), h 1 1 (by omega) (by omega), h 1 2 (by omega) (by omega), h 2 0 (by omega) (by omega), h 2 1 (by omega) (by omega), h 2 2 (by omega) (by omega)]
  simp only [o_mul, o_sub, o_add]
theorem det_bd {d : Nat → Nat → Int} {X Y Z : Int} (h0 : ∀ i, i < 3 → -X ≤ d i 0 ∧ d i 0 ≤ X) (h1 : ∀ i, i < 3 → -Y ≤ d i 1 ∧ d i 1 ≤ Y) (h2 : ∀ i, i < 3 → -Z ≤ d i 2 ∧ d i 2 ≤ Z) : -(6 * (X * (Y * Z))) ≤ detI d ∧ detI d ≤ 6 * (X * (Y * Z)) := by
  unfold detI
  have a0 := h0 0 (by omega); have a1 := h0 1 (by omega); have a2 := h0 2 (by omega)
  have b0 := h1 0 (by omega); have b1 := h1 1 (by omega); have b2 := h1 2 (by omega)
  have c0 := h2 0 (by omega); have c1 := h2 1 (by omega); have c2 := h2 2 (by omega)
  have p1 := mul_bd b1.1 b1.2 c2.1 c2.2
  have p2 := mul_bd b2.1 b2.2 c1.1 c1.2
  have p3 := mul_bd a1.1 a1.2 c2.1 c2.2
  have p4 := mul_bd a2.1 a2.2 c1.1 c1.2
  have p5 := mul_bd a1.1 a1.2 b2.1 b2.2
  have p6 := mul_bd a2.1 a2.2 b1.1 b1.2
  have e2 : d 1 2 * d 2 1 = d 2 1 * d 1 2 := Int.mul_comm _ _
  have e4 : d 1 2 * d 2 0 = d 2 0 * d 1 2 := Int.mul_comm _ _
  have e6 : d 1 1 * d 2 0 = d 2 0 * d 1 1 := Int.mul_comm _ _
  have q1 := mul_bd (Y := 2 * (Y * Z)) a0.1 a0.2 (show -(2 * (Y * Z)) ≤ d 1 1 * d 2 2 - d 1 2 * d 2 1 by omega) (by omega)
  have q2 := mul_bd (Y := 2 * (X * Z)) b0.1 b0.2 (show -(2 * (X * Z)) ≤ d 1 0 * d 2 2 - d 1 2 * d 2 0 by omega) (by omega)
  have q3 := mul_bd (Y := 2 * (X * Y)) c0.1 c0.2 (show -(2 * (X * Y)) ≤ d 1 0 * d 2 1 - d 1 1 * d 2 0 by omega) (by omega)
  have f1 : X * (2 * (Y * Z)) = 2 * (X * (Y * Z)) := by grind
  have f2 : Y * (2 * (X * Z)) = 2 * (X * (Y * Z)) := by grind
  have f3 : Z * (2 * (X * Y)) = 2 * (X * (Y * Z)) := by grind
  omega
/-- the class's cells of a set; r: the column that is replaced, 3 for none -/
def cC (A : Nat → Nat → Int) (B : Nat → Int) (S r i k : Nat) : Int := if k = r then (if S.testBit i = true then B i else 0) else if S.testBit i = true ∧ S.testBit k = true then A i k else if i = k then 1 else 0
/-- the reference's cells of a set -/
def cM (A : Nat → Nat → Int) (B : Nat → Int) (S r i k : Nat) : Int := if S.testBit i = true ∧ S.testBit k = true then (if k = r then B i else A i k) else if i = k then 1 else 0
def sD (A : Nat → Nat → Int) (S : Nat) : Int := pD (A 0 0) (A 0 1) (A 0 2) (A 1 1) (A 1 2) (A 2 2) S
def sX (A : Nat → Nat → Int) (B : Nat → Int) (S k : Nat) : Int :=
  if k = 0 then pX0 (A 0 0) (A 0 1) (A 0 2) (A 1 1) (A 1 2) (A 2 2) (B 0) (B 1) (B 2) S else if k = 1 then pX1 (A 0 0) (A 0 1) (A 0 2) (A 1 1) (A 1 2) (A 2 2) (B 0) (B 1) (B 2) S else pX2 (A 0 0) (A 0 1) (A 0 2) (A 1 1) (A 1 2) (A 2 2) (B 0) (B 1) (B 2) S
/-- the pull on a library -/
def pl (A : Nat → Nat → Int) (B : Nat → Int) (D x y z : Int) (l : Nat) : Int := D * B l - x * A l 0 - y * A l 1 - z * A l 2
def symm3 (A : Nat → Nat → Int) : Prop := A 1 0 = A 0 1 ∧ A 2 0 = A 0 2 ∧ A 2 1 = A 1 2
theorem lt3 {k : Nat} (h : k < 3) : k = 0 ∨ k = 1 ∨ k = 2 := by omega
theorem lt8 {k : Nat} (h : k < 8) : k = 0 ∨ k = 1 ∨ k = 2 ∨ k = 3 ∨ k = 4 ∨ k = 5 ∨ k = 6 ∨ k = 7 := by omega
theorem detC_D {A : Nat → Nat → Int} {B : Nat → Int} (hA : symm3 A) {S : Nat} (hS : S < 8) : detI (cC A B S 3) = sD A S := by
  obtain ⟨h1, h2, h3⟩ := hA
  rcases lt8 hS with rfl | rfl | rfl | rfl | rfl | rfl | rfl | rfl <;> simp [detI, cC, sD, pD, tb00, tb01, tb02, tb10, tb11, tb12, tb20, tb21, tb22, tb30, tb31, tb32, tb40, tb41, tb42, tb50, tb51, tb52, tb60, tb61, tb62, tb70, tb71, tb72, h1, h2, h3] <;> try grind
theorem detC_X {A : Nat → Nat → Int} {B : Nat → Int} (hA : symm3 A) {S k : Nat} (hS : S < 8) (hk : k < 3) : detI (cC A B S k) = sX A B S k := by
  obtain ⟨h1, h2, h3⟩ := hA
  rcases lt3 hk with rfl | rfl | rfl <;> rcases lt8 hS with rfl | rfl | rfl | rfl | rfl | rfl | rfl | rfl <;> simp [detI, cC, sX, pX0, pX1, pX2, tb00, tb01, tb02, tb10, tb11, tb12, tb20, tb21, tb22, tb30, tb31, tb32, tb40, tb41, tb42, tb50, tb51, tb52, tb60, tb61, tb62, tb70, tb71, tb72, h1, h2, h3] <;> try grind
theorem detM_D {A : Nat → Nat → Int} {B : Nat → Int} (hA : symm3 A) {S : Nat} (hS : S < 8) : detI (cM A B S 3) = sD A S := by
  obtain ⟨h1, h2, h3⟩ := hA
  rcases lt8 hS with rfl | rfl | rfl | rfl | rfl | rfl | rfl | rfl <;> simp [detI, cM, sD, pD, tb00, tb01, tb02, tb10, tb11, tb12, tb20, tb21, tb22, tb30, tb31, tb32, tb40, tb41, tb42, tb50, tb51, tb52, tb60, tb61, tb62, tb70, tb71, tb72, h1, h2, h3] <;> try grind
theorem detM_X {A : Nat → Nat → Int} {B : Nat → Int} (hA : symm3 A) {S k : Nat} (hS : S < 8) (hk : k < 3) (hb : S.testBit k = true) : detI (cM A B S k) = sX A B S k := by
  obtain ⟨h1, h2, h3⟩ := hA
  rcases lt3 hk with rfl | rfl | rfl <;> rcases lt8 hS with rfl | rfl | rfl | rfl | rfl | rfl | rfl | rfl <;> first | (exact absurd hb (by decide)) | (simp [detI, cM, sX, pX0, pX1, pX2, tb00, tb01, tb02, tb10, tb11, tb12, tb20, tb21, tb22, tb30, tb31, tb32, tb40, tb41, tb42, tb50, tb51, tb52, tb60, tb61, tb62, tb70, tb71, tb72, h1, h2, h3] <;> try grind)
theorem sX_0 {A : Nat → Nat → Int} {B : Nat → Int} {S k : Nat} (hS : S < 8) (hk : k < 3) (hb : ¬ S.testBit k = true) : sX A B S k = 0 := by
  rcases lt3 hk with rfl | rfl | rfl <;> rcases lt8 hS with rfl | rfl | rfl | rfl | rfl | rfl | rfl | rfl <;> first | (exact absurd (by decide) hb) | rfl
theorem pl_0 {A : Nat → Nat → Int} {B : Nat → Int} (hA : symm3 A) {S l : Nat} (hS : S < 8) (hl : l < 3) (hb : S.testBit l = true) : pl A B (sD A S) (sX A B S 0) (sX A B S 1) (sX A B S 2) l = 0 := by
  obtain ⟨h1, h2, h3⟩ := hA
  rcases lt3 hl with rfl | rfl | rfl <;> rcases lt8 hS with rfl | rfl | rfl | rfl | rfl | rfl | rfl | rfl <;> first | (exact absurd hb (by decide)) | (simp [pl, sD, sX, pD, pX0, pX1, pX2, h1, h2, h3] <;> try grind)
