def vlp1 {A1 : Type} (F : (A1 → Prop) → A1 → Prop) : Nat → A1 → Prop
  | 0 => fun _ => False
  | n + 1 => F (vlp1 F n)
theorem vlp1_W {A1 : Type} {F : (A1 → Prop) → A1 → Prop} {P : A1 → Prop} (h : ∀ R : A1 → Prop, (∀ (b1 : A1), R b1 → P b1) → ∀ (a1 : A1), F R a1 → P a1) : ∀ (n : Nat) (a1 : A1), vlp1 F n a1 → P a1 := by
  intro n
  induction n with
  | zero => intro a1 hv; exact absurd hv id
  | succ n ih => intro a1 hv; exact h (vlp1 F n) ih a1 hv
theorem vlp1_i {A1 : Type} {F : (A1 → Prop) → A1 → Prop} (I : A1 → Prop) (μ : A1 → Nat) (h : ∀ (R : A1 → Prop) (a1 : A1), I a1 → (∀ (b1 : A1), I b1 → μ b1 < μ a1 → R b1) → F R a1) (a1 : A1) (h0 : I a1) : ∃ n, vlp1 F n a1 := by
  have key : ∀ (n : Nat) (a1 : A1), I a1 → μ a1 < n → vlp1 F n a1 := by
    intro n
    induction n with
    | zero => intro a1 _ hm; exact absurd hm (Nat.not_lt_zero _)
    | succ n ih => intro a1 hI hm; exact h (vlp1 F n) a1 hI (fun b1 hb hl => ih b1 hb (by omega))
  exact ⟨μ a1 + 1, key _ a1 h0 (Nat.lt_succ_self _)⟩
def vlp2 {A1 A2 : Type} (F : (A1 → A2 → Prop) → A1 → A2 → Prop) : Nat → A1 → A2 → Prop
  | 0 => fun _ _ => False
  | n + 1 => F (vlp2 F n)
theorem vlp2_W {A1 A2 : Type} {F : (A1 → A2 → Prop) → A1 → A2 → Prop} {P : A1 → A2 → Prop} (h : ∀ R : A1 → A2 → Prop, (∀ (b1 : A1) (b2 : A2), R b1 b2 → P b1 b2) → ∀ (a1 : A1) (a2 : A2), F R a1 a2 → P a1 a2) : ∀ (n : Nat) (a1 : A1) (a2 : A2), vlp2 F n a1 a2 → P a1 a2 := by
  intro n
  induction n with
  | zero => intro a1 a2 hv; exact absurd hv id
  | succ n ih => intro a1 a2 hv; exact h (vlp2 F n) ih a1 a2 hv
theorem vlp2_i {A1 A2 : Type} {F : (A1 → A2 → Prop) → A1 → A2 → Prop} (I : A1 → A2 → Prop) (μ : A1 → A2 → Nat) (h : ∀ (R : A1 → A2 → Prop) (a1 : A1) (a2 : A2), I a1 a2 → (∀ (b1 : A1) (b2 : A2), I b1 b2 → μ b1 b2 < μ a1 a2 → R b1 b2) → F R a1 a2) (a1 : A1) (a2 : A2) (h0 : I a1 a2) : ∃ n, vlp2 F n a1 a2 := by
  have key : ∀ (n : Nat) (a1 : A1) (a2 : A2), I a1 a2 → μ a1 a2 < n → vlp2 F n a1 a2 := by
    intro n
    induction n with
    | zero => intro a1 a2 _ hm; exact absurd hm (Nat.not_lt_zero _)
    | succ n ih => intro a1 a2 hI hm; exact h (vlp2 F n) a1 a2 hI (fun b1 b2 hb hl => ih b1 b2 hb (by omega))
  exact ⟨μ a1 a2 + 1, key _ a1 a2 h0 (Nat.lt_succ_self _)⟩
def vlp3 {A1 A2 A3 : Type} (F : (A1 → A2 → A3 → Prop) → A1 → A2 → A3 → Prop) : Nat → A1 → A2 → A3 → Prop
  | 0 => fun _ _ _ => False
  | n + 1 => F (vlp3 F n)
theorem vlp3_W {A1 A2 A3 : Type} {F : (A1 → A2 → A3 → Prop) → A1 → A2 → A3 → Prop} {P : A1 → A2 → A3 → Prop} (h : ∀ R : A1 → A2 → A3 → Prop, (∀ (b1 : A1) (b2 : A2) (b3 : A3), R b1 b2 b3 → P b1 b2 b3) → ∀ (a1 : A1) (a2 : A2) (a3 : A3), F R a1 a2 a3 → P a1 a2 a3) : ∀ (n : Nat) (a1 : A1) (a2 : A2) (a3 : A3), vlp3 F n a1 a2 a3 → P a1 a2 a3 := by
  intro n
  induction n with
  | zero => intro a1 a2 a3 hv; exact absurd hv id
  | succ n ih => intro a1 a2 a3 hv; exact h (vlp3 F n) ih a1 a2 a3 hv
theorem vlp3_i {A1 A2 A3 : Type} {F : (A1 → A2 → A3 → Prop) → A1 → A2 → A3 → Prop} (I : A1 → A2 → A3 → Prop) (μ : A1 → A2 → A3 → Nat) (h : ∀ (R : A1 → A2 → A3 → Prop) (a1 : A1) (a2 : A2) (a3 : A3), I a1 a2 a3 → (∀ (b1 : A1) (b2 : A2) (b3 : A3), I b1 b2 b3 → μ b1 b2 b3 < μ a1 a2 a3 → R b1 b2 b3) → F R a1 a2 a3) (a1 : A1) (a2 : A2) (a3 : A3) (h0 : I a1 a2 a3) : ∃ n, vlp3 F n a1 a2 a3 := by
  have key : ∀ (n : Nat) (a1 : A1) (a2 : A2) (a3 : A3), I a1 a2 a3 → μ a1 a2 a3 < n → vlp3 F n a1 a2 a3 := by
    intro n
    induction n with
    | zero => intro a1 a2 a3 _ hm; exact absurd hm (Nat.not_lt_zero _)
    | succ n ih => intro a1 a2 a3 hI hm; exact h (vlp3 F n) a1 a2 a3 hI (fun b1 b2 b3 hb hl => ih b1 b2 b3 hb (by omega))
  exact ⟨μ a1 a2 a3 + 1, key _ a1 a2 a3 h0 (Nat.lt_succ_self _)⟩
def vlp4 {A1 A2 A3 A4 : Type} (F : (A1 → A2 → A3 → A4 → Prop) → A1 → A2 → A3 → A4 → Prop) : Nat → A1 → A2 → A3 → A4 → Prop
  | 0 => fun _ _ _ _ => False
  | n + 1 => F (vlp4 F n)
theorem vlp4_W {A1 A2 A3 A4 : Type} {F : (A1 → A2 → A3 → A4 → Prop) → A1 → A2 → A3 → A4 → Prop} {P : A1 → A2 → A3 → A4 → Prop} (h : ∀ R : A1 → A2 → A3 → A4 → Prop, (∀ (b1 : A1) (b2 : A2) (b3 : A3) (b4 : A4), R b1 b2 b3 b4 → P b1 b2 b3 b4) → ∀ (a1 : A1) (a2 : A2) (a3 : A3) (a4 : A4), F R a1 a2 a3 a4 → P a1 a2 a3 a4) : ∀ (n : Nat) (a1 : A1) (a2 : A2) (a3 : A3) (a4 : A4), vlp4 F n a1 a2 a3 a4 → P a1 a2 a3 a4 := by
  intro n
  induction n with
  | zero => intro a1 a2 a3 a4 hv; exact absurd hv id
  | succ n ih => intro a1 a2 a3 a4 hv; exact h (vlp4 F n) ih a1 a2 a3 a4 hv
theorem vlp4_i {A1 A2 A3 A4 : Type} {F : (A1 → A2 → A3 → A4 → Prop) → A1 → A2 → A3 → A4 → Prop} (I : A1 → A2 → A3 → A4 → Prop) (μ : A1 → A2 → A3 → A4 → Nat) (h : ∀ (R : A1 → A2 → A3 → A4 → Prop) (a1 : A1) (a2 : A2) (a3 : A3) (a4 : A4), I a1 a2 a3 a4 → (∀ (b1 : A1) (b2 : A2) (b3 : A3) (b4 : A4), I b1 b2 b3 b4 → μ b1 b2 b3 b4 < μ a1 a2 a3 a4 → R b1 b2 b3 b4) → F R a1 a2 a3 a4) (a1 : A1) (a2 : A2) (a3 : A3) (a4 : A4) (h0 : I a1 a2 a3 a4) : ∃ n, vlp4 F n a1 a2 a3 a4 := by
  have key : ∀ (n : Nat) (a1 : A1) (a2 : A2) (a3 : A3) (a4 : A4), I a1 a2 a3 a4 → μ a1 a2 a3 a4 < n → vlp4 F n a1 a2 a3 a4 := by
    intro n
    induction n with
    | zero => intro a1 a2 a3 a4 _ hm; exact absurd hm (Nat.not_lt_zero _)
    | succ n ih => intro a1 a2 a3 a4 hI hm; exact h (vlp4 F n) a1 a2 a3 a4 hI (fun b1 b2 b3 b4 hb hl => ih b1 b2 b3 b4 hb (by omega))
  exact ⟨μ a1 a2 a3 a4 + 1, key _ a1 a2 a3 a4 h0 (Nat.lt_succ_self _)⟩
def vlp5 {A1 A2 A3 A4 A5 : Type} (F : (A1 → A2 → A3 → A4 → A5 → Prop) → A1 → A2 → A3 → A4 → A5 → Prop) : Nat → A1 → A2 → A3 → A4 → A5 → Prop
  | 0 => fun _ _ _ _ _ => False
  | n + 1 => F (vlp5 F n)
theorem vlp5_W {A1 A2 A3 A4 A5 : Type} {F : (A1 → A2 → A3 → A4 → A5 → Prop) → A1 → A2 → A3 → A4 → A5 → Prop} {P : A1 → A2 → A3 → A4 → A5 → Prop} (h : ∀ R : A1 → A2 → A3 → A4 → A5 → Prop, (∀ (b1 : A1) (b2 : A2) (b3 : A3) (b4 : A4) (b5 : A5), R b1 b2 b3 b4 b5 → P b1 b2 b3 b4 b5) → ∀ (a1 : A1) (a2 : A2) (a3 : A3) (a4 : A4) (a5 : A5), F R a1 a2 a3 a4 a5 → P a1 a2 a3 a4 a5) : ∀ (n : Nat) (a1 : A1) (a2 : A2) (a3 : A3) (a4 : A4) (a5 : A5), vlp5 F n a1 a2 a3 a4 a5 → P a1 a2 a3 a4 a5 := by
  intro n
  induction n with
  | zero => intro a1 a2 a3 a4 a5 hv; exact absurd hv id
  | succ n ih => intro a1 a2 a3 a4 a5 hv; exact h (vlp5 F n) ih a1 a2 a3 a4 a5 hv
theorem vlp5_i {A1 A2 A3 A4 A5 : Type} {F : (A1 → A2 → A3 → A4 → A5 → Prop) → A1 → A2 → A3 → A4 → A5 → Prop} (I : A1 → A2 → A3 → A4 → A5 → Prop) (μ : A1 → A2 → A3 → A4 → A5 → Nat) (h : ∀ (R : A1 → A2 → A3 → A4 → A5 → Prop) (a1 : A1) (a2 : A2) (a3 : A3) (a4 : A4) (a5 : A5), I a1 a2 a3 a4 a5 → (∀ (b1 : A1) (b2 : A2) (b3 : A3) (b4 : A4) (b5 : A5), I b1 b2 b3 b4 b5 → μ b1 b2 b3 b4 b5 < μ a1 a2 a3 a4 a5 → R b1 b2 b3 b4 b5) → F R a1 a2 a3 a4 a5) (a1 : A1) (a2 : A2) (a3 : A3) (a4 : A4) (a5 : A5) (h0 : I a1 a2 a3 a4 a5) : ∃ n, vlp5 F n a1 a2 a3 a4 a5 := by
  have key : ∀ (n : Nat) (a1 : A1) (a2 : A2) (a3 : A3) (a4 : A4) (a5 : A5), I a1 a2 a3 a4 a5 → μ a1 a2 a3 a4 a5 < n → vlp5 F n a1 a2 a3 a4 a5 := by
    intro n
    induction n with
    | zero => intro a1 a2 a3 a4 a5 _ hm; exact absurd hm (Nat.not_lt_zero _)
    | succ n ih => intro a1 a2 a3 a4 a5 hI hm; exact h (vlp5 F n) a1 a2 a3 a4 a5 hI (fun b1 b2 b3 b4 b5 hb hl => ih b1 b2 b3 b4 b5 hb (by omega))
  exact ⟨μ a1 a2 a3 a4 a5 + 1, key _ a1 a2 a3 a4 a5 h0 (Nat.lt_succ_self _)⟩
def vlp6 {A1 A2 A3 A4 A5 A6 : Type} (F : (A1 → A2 → A3 → A4 → A5 → A6 → Prop) → A1 → A2 → A3 → A4 → A5 → A6 → Prop) : Nat → A1 → A2 → A3 → A4 → A5 → A6 → Prop
  | 0 => fun _ _ _ _ _ _ => False
  | n + 1 => F (vlp6 F n)
theorem vlp6_W {A1 A2 A3 A4 A5 A6 : Type} {F : (A1 → A2 → A3 → A4 → A5 → A6 → Prop) → A1 → A2 → A3 → A4 → A5 → A6 → Prop} {P : A1 → A2 → A3 → A4 → A5 → A6 → Prop} (h : ∀ R : A1 → A2 → A3 → A4 → A5 → A6 → Prop, (∀ (b1 : A1) (b2 : A2) (b3 : A3) (b4 : A4) (b5 : A5) (b6 : A6), R b1 b2 b3 b4 b5 b6 → P b1 b2 b3 b4 b5 b6) → ∀ (a1 : A1) (a2 : A2) (a3 : A3) (a4 : A4) (a5 : A5) (a6 : A6), F R a1 a2 a3 a4 a5 a6 → P a1 a2 a3 a4 a5 a6) : ∀ (n : Nat) (a1 : A1) (a2 : A2) (a3 : A3) (a4 : A4) (a5 : A5) (a6 : A6), vlp6 F n a1 a2 a3 a4 a5 a6 → P a1 a2 a3 a4 a5 a6 := by
  intro n
  induction n with
  | zero => intro a1 a2 a3 a4 a5 a6 hv; exact absurd hv id
  | succ n ih => intro a1 a2 a3 a4 a5 a6 hv; exact h (vlp6 F n) ih a1 a2 a3 a4 a5 a6 hv
theorem vlp6_i {A1 A2 A3 A4 A5 A6 : Type} {F : (A1 → A2 → A3 → A4 → A5 → A6 → Prop) → A1 → A2 → A3 → A4 → A5 → A6 → Prop} (I : A1 → A2 → A3 → A4 → A5 → A6 → Prop) (μ : A1 → A2 → A3 → A4 → A5 → A6 → Nat) (h : ∀ (R : A1 → A2 → A3 → A4 → A5 → A6 → Prop) (a1 : A1) (a2 : A2) (a3 : A3) (a4 : A4) (a5 : A5) (a6 : A6), I a1 a2 a3 a4 a5 a6 → (∀ (b1 : A1) (b2 : A2) (b3 : A3) (b4 : A4) (b5 : A5) (b6 : A6), I b1 b2 b3 b4 b5 b6 → μ b1 b2 b3 b4 b5 b6 < μ a1 a2 a3 a4 a5 a6 → R b1 b2 b3 b4 b5 b6) → F R a1 a2 a3 a4 a5 a6) (a1 : A1) (a2 : A2) (a3 : A3) (a4 : A4) (a5 : A5) (a6 : A6) (h0 : I a1 a2 a3 a4 a5 a6) : ∃ n, vlp6 F n a1 a2 a3 a4 a5 a6 := by
  have key : ∀ (n : Nat) (a1 : A1) (a2 : A2) (a3 : A3) (a4 : A4) (a5 : A5) (a6 : A6), I a1 a2 a3 a4 a5 a6 → μ a1 a2 a3 a4 a5 a6 < n → vlp6 F n a1 a2 a3 a4 a5 a6 := by
    intro n
    induction n with
    | zero => intro a1 a2 a3 a4 a5 a6 _ hm; exact absurd hm (Nat.not_lt_zero _)
    | succ n ih => intro a1 a2 a3 a4 a5 a6 hI hm; exact h (vlp6 F n) a1 a2 a3 a4 a5 a6 hI (fun b1 b2 b3 b4 b5 b6 hb hl => ih b1 b2 b3 b4 b5 b6 hb (by omega))
  exact ⟨μ a1 a2 a3 a4 a5 a6 + 1, key _ a1 a2 a3 a4 a5 a6 h0 (Nat.lt_succ_self _)⟩
def vlp7 {A1 A2 A3 A4 A5 A6 A7 : Type} (F : (A1 → A2 → A3 → A4 → A5 → A6 → A7 → Prop) → A1 → A2 → A3 → A4 → A5 → A6 → A7 → Prop) : Nat → A1 → A2 → A3 → A4 → A5 → A6 → A7 → Prop
  | 0 => fun _ _ _ _ _ _ _ => False
  | n + 1 => F (vlp7 F n)
theorem vlp7_W {A1 A2 A3 A4 A5 A6 A7 : Type} {F : (A1 → A2 → A3 → A4 → A5 → A6 → A7 → Prop) → A1 → A2 → A3 → A4 → A5 → A6 → A7 → Prop} {P : A1 → A2 → A3 → A4 → A5 → A6 → A7 → Prop} (h : ∀ R : A1 → A2 → A3 → A4 → A5 → A6 → A7 → Prop, (∀ (b1 : A1) (b2 : A2) (b3 : A3) (b4 : A4) (b5 : A5) (b6 : A6) (b7 : A7), R b1 b2 b3 b4 b5 b6 b7 → P b1 b2 b3 b4 b5 b6 b7) → ∀ (a1 : A1) (a2 : A2) (a3 : A3) (a4 : A4) (a5 : A5) (a6 : A6) (a7 : A7), F R a1 a2 a3 a4 a5 a6 a7 → P a1 a2 a3 a4 a5 a6 a7) : ∀ (n : Nat) (a1 : A1) (a2 : A2) (a3 : A3) (a4 : A4) (a5 : A5) (a6 : A6) (a7 : A7), vlp7 F n a1 a2 a3 a4 a5 a6 a7 → P a1 a2 a3 a4 a5 a6 a7 := by
  intro n
  induction n with
  | zero => intro a1 a2 a3 a4 a5 a6 a7 hv; exact absurd hv id
  | succ n ih => intro a1 a2 a3 a4 a5 a6 a7 hv; exact h (vlp7 F n) ih a1 a2 a3 a4 a5 a6 a7 hv
theorem vlp7_i {A1 A2 A3 A4 A5 A6 A7 : Type} {F : (A1 → A2 → A3 → A4 → A5 → A6 → A7 → Prop) → A1 → A2 → A3 → A4 → A5 → A6 → A7 → Prop} (I : A1 → A2 → A3 → A4 → A5 → A6 → A7 → Prop) (μ : A1 → A2 → A3 → A4 → A5 → A6 → A7 → Nat) (h : ∀ (R : A1 → A2 → A3 → A4 → A5 → A6 → A7 → Prop) (a1 : A1) (a2 : A2) (a3 : A3) (a4 : A4) (a5 : A5) (a6 : A6) (a7 : A7), I a1 a2 a3 a4 a5 a6 a7 → (∀ (b1 : A1) (b2 : A2) (b3 : A3) (b4 : A4) (b5 : A5) (b6 : A6) (b7 : A7), I b1 b2 b3 b4 b5 b6 b7 → μ b1 b2 b3 b4 b5 b6 b7 < μ a1 a2 a3 a4 a5 a6 a7 → R b1 b2 b3 b4 b5 b6 b7) → F R a1 a2 a3 a4 a5 a6 a7) (a1 : A1) (a2 : A2) (a3 : A3) (a4 : A4) (a5 : A5) (a6 : A6) (a7 : A7) (h0 : I a1 a2 a3 a4 a5 a6 a7) : ∃ n, vlp7 F n a1 a2 a3 a4 a5 a6 a7 := by
  have key : ∀ (n : Nat) (a1 : A1) (a2 : A2) (a3 : A3) (a4 : A4) (a5 : A5) (a6 : A6) (a7 : A7), I a1 a2 a3 a4 a5 a6 a7 → μ a1 a2 a3 a4 a5 a6 a7 < n → vlp7 F n a1 a2 a3 a4 a5 a6 a7 := by
    intro n
    induction n with
    | zero => intro a1 a2 a3 a4 a5 a6 a7 _ hm; exact absurd hm (Nat.not_lt_zero _)
    | succ n ih => intro a1 a2 a3 a4 a5 a6 a7 hI hm; exact h (vlp7 F n) a1 a2 a3 a4 a5 a6 a7 hI (fun b1 b2 b3 b4 b5 b6 b7 hb hl => ih b1 b2 b3 b4 b5 b6 b7 hb (by omega))
  exact ⟨μ a1 a2 a3 a4 a5 a6 a7 + 1, key _ a1 a2 a3 a4 a5 a6 a7 h0 (Nat.lt_succ_self _)⟩
def vlp8 {A1 A2 A3 A4 A5 A6 A7 A8 : Type} (F : (A1 → A2 → A3 → A4 → A5 → A6 → A7 → A8 → Prop) → A1 → A2 → A3 → A4 → A5 → A6 → A7 → A8 → Prop) : Nat → A1 → A2 → A3 → A4 → A5 → A6 → A7 → A8 → Prop
  | 0 => fun _ _ _ _ _ _ _ _ => False
  | n + 1 => F (vlp8 F n)
theorem vlp8_W {A1 A2 A3 A4 A5 A6 A7 A8 : Type} {F : (A1 → A2 → A3 → A4 → A5 → A6 → A7 → A8 → Prop) → A1 → A2 → A3 → A4 → A5 → A6 → A7 → A8 → Prop} {P : A1 → A2 → A3 → A4 → A5 → A6 → A7 → A8 → Prop} (h : ∀ R : A1 → A2 → A3 → A4 → A5 → A6 → A7 → A8 → Prop, (∀ (b1 : A1) (b2 : A2) (b3 : A3) (b4 : A4) (b5 : A5) (b6 : A6) (b7 : A7) (b8 : A8), R b1 b2 b3 b4 b5 b6 b7 b8 → P b1 b2 b3 b4 b5 b6 b7 b8) → ∀ (a1 : A1) (a2 : A2) (a3 : A3) (a4 : A4) (a5 : A5) (a6 : A6) (a7 : A7) (a8 : A8), F R a1 a2 a3 a4 a5 a6 a7 a8 → P a1 a2 a3 a4 a5 a6 a7 a8) : ∀ (n : Nat) (a1 : A1) (a2 : A2) (a3 : A3) (a4 : A4) (a5 : A5) (a6 : A6) (a7 : A7) (a8 : A8), vlp8 F n a1 a2 a3 a4 a5 a6 a7 a8 → P a1 a2 a3 a4 a5 a6 a7 a8 := by
  intro n
  induction n with
  | zero => intro a1 a2 a3 a4 a5 a6 a7 a8 hv; exact absurd hv id
  | succ n ih => intro a1 a2 a3 a4 a5 a6 a7 a8 hv; exact h (vlp8 F n) ih a1 a2 a3 a4 a5 a6 a7 a8 hv
theorem vlp8_i {A1 A2 A3 A4 A5 A6 A7 A8 : Type} {F : (A1 → A2 → A3 → A4 → A5 → A6 → A7 → A8 → Prop) → A1 → A2 → A3 → A4 → A5 → A6 → A7 → A8 → Prop} (I : A1 → A2 → A3 → A4 → A5 → A6 → A7 → A8 → Prop) (μ : A1 → A2 → A3 → A4 → A5 → A6 → A7 → A8 → Nat) (h : ∀ (R : A1 → A2 → A3 → A4 → A5 → A6 → A7 → A8 → Prop) (a1 : A1) (a2 : A2) (a3 : A3) (a4 : A4) (a5 : A5) (a6 : A6) (a7 : A7) (a8 : A8), I a1 a2 a3 a4 a5 a6 a7 a8 → (∀ (b1 : A1) (b2 : A2) (b3 : A3) (b4 : A4) (b5 : A5) (b6 : A6) (b7 : A7) (b8 : A8), I b1 b2 b3 b4 b5 b6 b7 b8 → μ b1 b2 b3 b4 b5 b6 b7 b8 < μ a1 a2 a3 a4 a5 a6 a7 a8 → R b1 b2 b3 b4 b5 b6 b7 b8) → F R a1 a2 a3 a4 a5 a6 a7 a8) (a1 : A1) (a2 : A2) (a3 : A3) (a4 : A4) (a5 : A5) (a6 : A6) (a7 : A7) (a8 : A8) (h0 : I a1 a2 a3 a4 a5 a6 a7 a8) : ∃ n, vlp8 F n a1 a2 a3 a4 a5 a6 a7 a8 := by
  have key : ∀ (n : Nat) (a1 : A1) (a2 : A2) (a3 : A3) (a4 : A4) (a5 : A5) (a6 : A6) (a7 : A7) (a8 : A8), I a1 a2 a3 a4 a5 a6 a7 a8 → μ a1 a2 a3 a4 a5 a6 a7 a8 < n → vlp8 F n a1 a2 a3 a4 a5 a6 a7 a8 := by
    intro n
    induction n with
    | zero => intro a1 a2 a3 a4 a5 a6 a7 a8 _ hm; exact absurd hm (Nat.not_lt_zero _)
    | succ n ih => intro a1 a2 a3 a4 a5 a6 a7 a8 hI hm; exact h (vlp8 F n) a1 a2 a3 a4 a5 a6 a7 a8 hI (fun b1 b2 b3 b4 b5 b6 b7 b8 hb hl => ih b1 b2 b3 b4 b5 b6 b7 b8 hb (by omega))
  exact ⟨μ a1 a2 a3 a4 a5 a6 a7 a8 + 1, key _ a1 a2 a3 a4 a5 a6 a7 a8 h0 (Nat.lt_succ_self _)⟩
def vlp9 {A1 A2 A3 A4 A5 A6 A7 A8 A9 : Type} (F : (A1 → A2 → A3 → A4 → A5 → A6 → A7 → A8 → A9 → Prop) → A1 → A2 → A3 → A4 → A5 → A6 → A7 → A8 → A9 → Prop) : Nat → A1 → A2 → A3 → A4 → A5 → A6 → A7 → A8 → A9 → Prop
  | 0 => fun _ _ _ _ _ _ _ _ _ => False
  | n + 1 => F (vlp9 F n)
theorem vlp9_W {A1 A2 A3 A4 A5 A6 A7 A8 A9 : Type} {F : (A1 → A2 → A3 → A4 → A5 → A6 → A7 → A8 → A9 → Prop) → A1 → A2 → A3 → A4 → A5 → A6 → A7 → A8 → A9 → Prop} {P : A1 → A2 → A3 → A4 → A5 → A6 → A7 → A8 → A9 → Prop} (h : ∀ R : A1 → A2 → A3 → A4 → A5 → A6 → A7 → A8 → A9 → Prop, (∀ (b1 : A1) (b2 : A2) (b3 : A3) (b4 : A4) (b5 : A5) (b6 : A6) (b7 : A7) (b8 : A8) (b9 : A9), R b1 b2 b3 b4 b5 b6 b7 b8 b9 → P b1 b2 b3 b4 b5 b6 b7 b8 b9) → ∀ (a1 : A1) (a2 : A2) (a3 : A3) (a4 : A4) (a5 : A5) (a6 : A6) (a7 : A7) (a8 : A8) (a9 : A9), F R a1 a2 a3 a4 a5 a6 a7 a8 a9 → P a1 a2 a3 a4 a5 a6 a7 a8 a9) : ∀ (n : Nat) (a1 : A1) (a2 : A2) (a3 : A3) (a4 : A4) (a5 : A5) (a6 : A6) (a7 : A7) (a8 : A8) (a9 : A9), vlp9 F n a1 a2 a3 a4 a5 a6 a7 a8 a9 → P a1 a2 a3 a4 a5 a6 a7 a8 a9 := by
  intro n
  induction n with
  | zero => intro a1 a2 a3 a4 a5 a6 a7 a8 a9 hv; exact absurd hv id
  | succ n ih => intro a1 a2 a3 a4 a5 a6 a7 a8 a9 hv; exact h (vlp9 F n) ih a1 a2 a3 a4 a5 a6 a7 a8 a9 hv
theorem vlp9_i {A1 A2 A3 A4 A5 A6 A7 A8 A9 : Type} {F : (A1 → A2 → A3 → A4 → A5 → A6 → A7 → A8 → A9 → Prop) → A1 → A2 → A3 → A4 → A5 → A6 → A7 → A8 → A9 → Prop} (I : A1 → A2 → A3 → A4 → A5 → A6 → A7 → A8 → A9 → Prop) (μ : A1 → A2 → A3 → A4 → A5 → A6 → A7 → A8 → A9 → Nat) (h : ∀ (R : A1 → A2 → A3 → A4 → A5 → A6 → A7 → A8 → A9 → Prop) (a1 : A1) (a2 : A2) (a3 : A3) (a4 : A4) (a5 : A5) (a6 : A6) (a7 : A7) (a8 : A8) (a9 : A9), I a1 a2 a3 a4 a5 a6 a7 a8 a9 → (∀ (b1 : A1) (b2 : A2) (b3 : A3) (b4 : A4) (b5 : A5) (b6 : A6) (b7 : A7) (b8 : A8) (b9 : A9), I b1 b2 b3 b4 b5 b6 b7 b8 b9 → μ b1 b2 b3 b4 b5 b6 b7 b8 b9 < μ a1 a2 a3 a4 a5 a6 a7 a8 a9 → R b1 b2 b3 b4 b5 b6 b7 b8 b9) → F R a1 a2 a3 a4 a5 a6 a7 a8 a9) (a1 : A1) (a2 : A2) (a3 : A3) (a4 : A4) (a5 : A5) (a6 : A6) (a7 : A7) (a8 : A8) (a9 : A9) (h0 : I a1 a2 a3 a4 a5 a6 a7 a8 a9) : ∃ n, vlp9 F n a1 a2 a3 a4 a5 a6 a7 a8 a9 := by
  have key : ∀ (n : Nat) (a1 : A1) (a2 : A2) (a3 : A3) (a4 : A4) (a5 : A5) (a6 : A6) (a7 : A7) (a8 : A8) (a9 : A9), I a1 a2 a3 a4 a5 a6 a7 a8 a9 → μ a1 a2 a3 a4 a5 a6 a7 a8 a9 < n → vlp9 F n a1 a2 a3 a4 a5 a6 a7 a8 a9 := by
    intro n
    induction n with
    | zero => intro a1 a2 a3 a4 a5 a6 a7 a8 a9 _ hm; exact absurd hm (Nat.not_lt_zero _)
    | succ n ih => intro a1 a2 a3 a4 a5 a6 a7 a8 a9 hI hm; exact h (vlp9 F n) a1 a2 a3 a4 a5 a6 a7 a8 a9 hI (fun b1 b2 b3 b4 b5 b6 b7 b8 b9 hb hl => ih b1 b2 b3 b4 b5 b6 b7 b8 b9 hb (by omega))
  exact ⟨μ a1 a2 a3 a4 a5 a6 a7 a8 a9 + 1, key _ a1 a2 a3 a4 a5 a6 a7 a8 a9 h0 (Nat.lt_succ_self _)⟩
def vlp10 {A1 A2 A3 A4 A5 A6 A7 A8 A9 A10 : Type} (F : (A1 → A2 → A3 → A4 → A5 → A6 → A7 → A8 → A9 → A10 → Prop) → A1 → A2 → A3 → A4 → A5 → A6 → A7 → A8 → A9 → A10 → Prop) : Nat → A1 → A2 → A3 → A4 → A5 → A6 → A7 → A8 → A9 → A10 → Prop
  | 0 => fun _ _ _ _ _ _ _ _ _ _ => False
  | n + 1 => F (vlp10 F n)
theorem vlp10_W {A1 A2 A3 A4 A5 A6 A7 A8 A9 A10 : Type} {F : (A1 → A2 → A3 → A4 → A5 → A6 → A7 → A8 → A9 → A10 → Prop) → A1 → A2 → A3 → A4 → A5 → A6 → A7 → A8 → A9 → A10 → Prop} {P : A1 → A2 → A3 → A4 → A5 → A6 → A7 → A8 → A9 → A10 → Prop} (h : ∀ R : A1 → A2 → A3 → A4 → A5 → A6 → A7 → A8 → A9 → A10 → Prop, (∀ (b1 : A1) (b2 : A2) (b3 : A3) (b4 : A4) (b5 : A5) (b6 : A6) (b7 : A7) (b8 : A8) (b9 : A9) (b10 : A10), R b1 b2 b3 b4 b5 b6 b7 b8 b9 b10 → P b1 b2 b3 b4 b5 b6 b7 b8 b9 b10) → ∀ (a1 : A1) (a2 : A2) (a3 : A3) (a4 : A4) (a5 : A5) (a6 : A6) (a7 : A7) (a8 : A8) (a9 : A9) (a10 : A10), F R a1 a2 a3 a4 a5 a6 a7 a8 a9 a10 → P a1 a2 a3 a4 a5 a6 a7 a8 a9 a10) : ∀ (n : Nat) (a1 : A1) (a2 : A2) (a3 : A3) (a4 : A4) (a5 : A5) (a6 : A6) (a7 : A7) (a8 : A8) (a9 : A9) (a10 : A10), vlp10 F n a1 a2 a3 a4 a5 a6 a7 a8 a9 a10 → P a1 a2 a3 a4 a5 a6 a7 a8 a9 a10 := by
  intro n
  induction n with
  | zero => intro a1 a2 a3 a4 a5 a6 a7 a8 a9 a10 hv; exact absurd hv id
  | succ n ih => intro a1 a2 a3 a4 a5 a6 a7 a8 a9 a10 hv; exact h (vlp10 F n) ih a1 a2 a3 a4 a5 a6 a7 a8 a9 a10 hv
theorem vlp10_i {A1 A2 A3 A4 A5 A6 A7 A8 A9 A10 : Type} {F : (A1 → A2 → A3 → A4 → A5 → A6 → A7 → A8 → A9 → A10 → Prop) → A1 → A2 → A3 → A4 → A5 → A6 → A7 → A8 → A9 → A10 → Prop} (I : A1 → A2 → A3 → A4 → A5 → A6 → A7 → A8 → A9 → A10 → Prop) (μ : A1 → A2 → A3 → A4 → A5 → A6 → A7 → A8 → A9 → A10 → Nat) (h : ∀ (R : A1 → A2 → A3 → A4 → A5 → A6 → A7 → A8 → A9 → A10 → Prop) (a1 : A1) (a2 : A2) (a3 : A3) (a4 : A4) (a5 : A5) (a6 : A6) (a7 : A7) (a8 : A8) (a9 : A9) (a10 : A10), I a1 a2 a3 a4 a5 a6 a7 a8 a9 a10 → (∀ (b1 : A1) (b2 : A2) (b3 : A3) (b4 : A4) (b5 : A5) (b6 : A6) (b7 : A7) (b8 : A8) (b9 : A9) (b10 : A10), I b1 b2 b3 b4 b5 b6 b7 b8 b9 b10 → μ b1 b2 b3 b4 b5 b6 b7 b8 b9 b10 < μ a1 a2 a3 a4 a5 a6 a7 a8 a9 a10 → R b1 b2 b3 b4 b5 b6 b7 b8 b9 b10) → F R a1 a2 a3 a4 a5 a6 a7 a8 a9 a10) (a1 : A1) (a2 : A2) (a3 : A3) (a4 : A4) (a5 : A5) (a6 : A6) (a7 : A7) (a8 : A8) (a9 : A9) (a10 : A10) (h0 : I a1 a2 a3 a4 a5 a6 a7 a8 a9 a10) : ∃ n, vlp10 F n a1 a2 a3 a4 a5 a6 a7 a8 a9 a10 := by
  have key : ∀ (n : Nat) (a1 : A1) (a2 : A2) (a3 : A3) (a4 : A4) (a5 : A5) (a6 : A6) (a7 : A7) (a8 : A8) (a9 : A9) (a10 : A10), I a1 a2 a3 a4 a5 a6 a7 a8 a9 a10 → μ a1 a2 a3 a4 a5 a6 a7 a8 a9 a10 < n → vlp10 F n a1 a2 a3 a4 a5 a6 a7 a8 a9 a10 := by
    intro n
    induction n with
    | zero => intro a1 a2 a3 a4 a5 a6 a7 a8 a9 a10 _ hm; exact absurd hm (Nat.not_lt_zero _)
    | succ n ih => intro a1 a2 a3 a4 a5 a6 a7 a8 a9 a10 hI hm; exact h (vlp10 F n) a1 a2 a3 a4 a5 a6 a7 a8 a9 a10 hI (fun b1 b2 b3 b4 b5 b6 b7 b8 b9 b10 hb hl => ih b1 b2 b3 b4 b5 b6 b7 b8 b9 b10 hb (by omega))
  exact ⟨μ a1 a2 a3 a4 a5 a6 a7 a8 a9 a10 + 1, key _ a1 a2 a3 a4 a5 a6 a7 a8 a9 a10 h0 (Nat.lt_succ_self _)⟩
def vlp11 {A1 A2 A3 A4 A5 A6 A7 A8 A9 A10 A11 : Type} (F : (A1 → A2 → A3 → A4 → A5 → A6 → A7 → A8 → A9 → A10 → A11 → Prop) → A1 → A2 → A3 → A4 → A5 → A6 → A7 → A8 → A9 → A10 → A11 → Prop) : Nat → A1 → A2 → A3 → A4 → A5 → A6 → A7 → A8 → A9 → A10 → A11 → Prop
  | 0 => fun _ _ _ _ _ _ _ _ _ _ _ => False
  | n + 1 => F (vlp11 F n)
theorem vlp11_W {A1 A2 A3 A4 A5 A6 A7 A8 A9 A10 A11 : Type} {F : (A1 → A2 → A3 → A4 → A5 → A6 → A7 → A8 → A9 → A10 → A11 → Prop) → A1 → A2 → A3 → A4 → A5 → A6 → A7 → A8 → A9 → A10 → A11 → Prop} {P : A1 → A2 → A3 → A4 → A5 → A6 → A7 → A8 → A9 → A10 → A11 → Prop} (h : ∀ R : A1 → A2 → A3 → A4 → A5 → A6 → A7 → A8 → A9 → A10 → A11 → Prop, (∀ (b1 : A1) (b2 : A2) (b3 : A3) (b4 : A4) (b5 : A5) (b6 : A6) (b7 : A7) (b8 : A8) (b9 : A9) (b10 : A10) (b11 : A11), R b1 b2 b3 b4 b5 b6 b7 b8 b9 b10 b11 → P b1 b2 b3 b4 b5 b6 b7 b8 b9 b10 b11) → ∀ (a1 : A1) (a2 : A2) (a3 : A3) (a4 : A4) (a5 : A5) (a6 : A6) (a7 : A7) (a8 : A8) (a9 : A9) (a10 : A10) (a11 : A11), F R a1 a2 a3 a4 a5 a6 a7 a8 a9 a10 a11 → P a1 a2 a3 a4 a5 a6 a7 a8 a9 a10 a11) : ∀ (n : Nat) (a1 : A1) (a2 : A2) (a3 : A3) (a4 : A4) (a5 : A5) (a6 : A6) (a7 : A7) (a8 : A8) (a9 : A9) (a10 : A10) (a11 : A11), vlp11 F n a1 a2 a3 a4 a5 a6 a7 a8 a9 a10 a11 → P a1 a2 a3 a4 a5 a6 a7 a8 a9 a10 a11 := by
  intro n
  induction n with
  | zero => intro a1 a2 a3 a4 a5 a6 a7 a8 a9 a10 a11 hv; exact absurd hv id
  | succ n ih => intro a1 a2 a3 a4 a5 a6 a7 a8 a9 a10 a11 hv; exact h (vlp11 F n) ih a1 a2 a3 a4 a5 a6 a7 a8 a9 a10 a11 hv
theorem vlp11_i {A1 A2 A3 A4 A5 A6 A7 A8 A9 A10 A11 : Type} {F : (A1 → A2 → A3 → A4 → A5 → A6 → A7 → A8 → A9 → A10 → A11 → Prop) → A1 → A2 → A3 → A4 → A5 → A6 → A7 → A8 → A9 → A10 → A11 → Prop} (I : A1 → A2 → A3 → A4 → A5 → A6 → A7 → A8 → A9 → A10 → A11 → Prop) (μ : A1 → A2 → A3 → A4 → A5 → A6 → A7 → A8 → A9 → A10 → A11 → Nat) (h : ∀ (R : A1 → A2 → A3 → A4 → A5 → A6 → A7 → A8 → A9 → A10 → A11 → Prop) (a1 : A1) (a2 : A2) (a3 : A3) (a4 : A4) (a5 : A5) (a6 : A6) (a7 : A7) (a8 : A8) (a9 : A9) (a10 : A10) (a11 : A11), I a1 a2 a3 a4 a5 a6 a7 a8 a9 a10 a11 → (∀ (b1 : A1) (b2 : A2) (b3 : A3) (b4 : A4) (b5 : A5) (b6 : A6) (b7 : A7) (b8 : A8) (b9 : A9) (b10 : A10) (b11 : A11), I b1 b2 b3 b4 b5 b6 b7 b8 b9 b10 b11 → μ b1 b2 b3 b4 b5 b6 b7 b8 b9 b10 b11 < μ a1 a2 a3 a4 a5 a6 a7 a8 a9 a10 a11 → R b1 b2 b3 b4 b5 b6 b7 b8 b9 b10 b11) → F R a1 a2 a3 a4 a5 a6 a7 a8 a9 a10 a11) (a1 : A1) (a2 : A2) (a3 : A3) (a4 : A4) (a5 : A5) (a6 : A6) (a7 : A7) (a8 : A8) (a9 : A9) (a10 : A10) (a11 : A11) (h0 : I a1 a2 a3 a4 a5 a6 a7 a8 a9 a10 a11) : ∃ n, vlp11 F n a1 a2 a3 a4 a5 a6 a7 a8 a9 a10 a11 := by
  have key : ∀ (n : Nat) (a1 : A1) (a2 : A2) (a3 : A3) (a4 : A4) (a5 : A5) (a6 : A6) (a7 : A7) (a8 : A8) (a9 : A9) (a10 : A10) (a11 : A11), I a1 a2 a3 a4 a5 a6 a7 a8 a9 a10 a11 → μ a1 a2 a3 a4 a5 a6 a7 a8 a9 a10 a11 < n → vlp11 F n a1 a2 a3 a4 a5 a6 a7 a8 a9 a10 a11 := by
    intro n
    induction n with
    | zero => intro a1 a2 a3 a4 a5 a6 a7 a8 a9 a10 a11 _ hm; exact absurd hm (Nat.not_lt_zero _)
    | succ n ih => intro a1 a2 a3 a4 a5 a6 a7 a8 a9 a10 a11 hI hm; exact h (vlp11 F n) a1 a2 a3 a4 a5 a6 a7 a8 a9 a10 a11 hI (fun b1 b2 b3 b4 b5 b6 b7 b8 b9 b10 b11 hb hl => ih b1 b2 b3 b4 b5 b6 b7 b8 b9 b10 b11 hb (by omega))
  exact ⟨μ a1 a2 a3 a4 a5 a6 a7 a8 a9 a10 a11 + 1, key _ a1 a2 a3 a4 a5 a6 a7 a8 a9 a10 a11 h0 (Nat.lt_succ_self _)⟩
def vlp12 {A1 A2 A3 A4 A5 A6 A7 A8 A9 A10 A11 A12 : Type} (F : (A1 → A2 → A3 → A4 → A5 → A6 → A7 → A8 → A9 → A10 → A11 → A12 → Prop) → A1 → A2 → A3 → A4 → A5 → A6 → A7 → A8 → A9 → A10 → A11 → A12 → Prop) : Nat → A1 → A2 → A3 → A4 → A5 → A6 → A7 → A8 → A9 → A10 → A11 → A12 → Prop
  | 0 => fun _ _ _ _ _ _ _ _ _ _ _ _ => False
  | n + 1 => F (vlp12 F n)
theorem vlp12_W {A1 A2 A3 A4 A5 A6 A7 A8 A9 A10 A11 A12 : Type} {F : (A1 → A2 → A3 → A4 → A5 → A6 → A7 → A8 → A9 → A10 → A11 → A12 → Prop) → A1 → A2 → A3 → A4 → A5 → A6 → A7 → A8 → A9 → A10 → A11 → A12 → Prop} {P : A1 → A2 → A3 → A4 → A5 → A6 → A7 → A8 → A9 → A10 → A11 → A12 → Prop} (h : ∀ R : A1 → A2 → A3 → A4 → A5 → A6 → A7 → A8 → A9 → A10 → A11 → A12 → Prop, (∀ (b1 : A1) (b2 : A2) (b3 : A3) (b4 : A4) (b5 : A5) (b6 : A6) (b7 : A7) (b8 : A8) (b9 : A9) (b10 : A10) (b11 : A11) (b12 : A12), R b1 b2 b3 b4 b5 b6 b7 b8 b9 b10 b11 b12 → P b1 b2 b3 b4 b5 b6 b7 b8 b9 b10 b11 b12) → ∀ (a1 : A1) (a2 : A2) (a3 : A3) (a4 : A4) (a5 : A5) (a6 : A6) (a7 : A7) (a8 : A8) (a9 : A9) (a10 : A10) (a11 : A11) (a12 : A12), F R a1 a2 a3 a4 a5 a6 a7 a8 a9 a10 a11 a12 → P a1 a2 a3 a4 a5 a6 a7 a8 a9 a10 a11 a12) : ∀ (n : Nat) (a1 : A1) (a2 : A2) (a3 : A3) (a4 : A4) (a5 : A5) (a6 : A6) (a7 : A7) (a8 : A8) (a9 : A9) (a10 : A10) (a11 : A11) (a12 : A12), vlp12 F n a1 a2 a3 a4 a5 a6 a7 a8 a9 a10 a11 a12 → P a1 a2 a3 a4 a5 a6 a7 a8 a9 a10 a11 a12 := by
  intro n
  induction n with
  | zero => intro a1 a2 a3 a4 a5 a6 a7 a8 a9 a10 a11 a12 hv; exact absurd hv id
  | succ n ih => intro a1 a2 a3 a4 a5 a6 a7 a8 a9 a10 a11 a12 hv; exact h (vlp12 F n) ih a1 a2 a3 a4 a5 a6 a7 a8 a9 a10 a11 a12 hv
theorem vlp12_i {A1 A2 A3 A4 A5 A6 A7 A8 A9 A10 A11 A12 : Type} {F : (A1 → A2 → A3 → A4 → A5 → A6 → A7 → A8 → A9 → A10 → A11 → A12 → Prop) → A1 → A2 → A3 → A4 → A5 → A6 → A7 → A8 → A9 → A10 → A11 → A12 → Prop} (I : A1 → A2 → A3 → A4 → A5 → A6 → A7 → A8 → A9 → A10 → A11 → A12 → Prop) (μ : A1 → A2 → A3 → A4 → A5 → A6 → A7 → A8 → A9 → A10 → A11 → A12 → Nat) (h : ∀ (R : A1 → A2 → A3 → A4 → A5 → A6 → A7 → A8 → A9 → A10 → A11 → A12 → Prop) (a1 : A1) (a2 : A2) (a3 : A3) (a4 : A4) (a5 : A5) (a6 : A6) (a7 : A7) (a8 : A8) (a9 : A9) (a10 : A10) (a11 : A11) (a12 : A12), I a1 a2 a3 a4 a5 a6 a7 a8 a9 a10 a11 a12 → (∀ (b1 : A1) (b2 : A2) (b3 : A3) (b4 : A4) (b5 : A5) (b6 : A6) (b7 : A7) (b8 : A8) (b9 : A9) (b10 : A10) (b11 : A11) (b12 : A12), I b1 b2 b3 b4 b5 b6 b7 b8 b9 b10 b11 b12 → μ b1 b2 b3 b4 b5 b6 b7 b8 b9 b10 b11 b12 < μ a1 a2 a3 a4 a5 a6 a7 a8 a9 a10 a11 a12 → R b1 b2 b3 b4 b5 b6 b7 b8 b9 b10 b11 b12) → F R a1 a2 a3 a4 a5 a6 a7 a8 a9 a10 a11 a12) (a1 : A1) (a2 : A2) (a3 : A3) (a4 : A4) (a5 : A5) (a6 : A6) (a7 : A7) (a8 : A8) (a9 : A9) (a10 : A10) (a11 : A11) (a12 : A12) (h0 : I a1 a2 a3 a4 a5 a6 a7 a8 a9 a10 a11 a12) : ∃ n, vlp12 F n a1 a2 a3 a4 a5 a6 a7 a8 a9 a10 a11 a12 := by
  have key : ∀ (n : Nat) (a1 : A1) (a2 : A2) (a3 : A3) (a4 : A4) (a5 : A5) (a6 : A6) (a7 : A7) (a8 : A8) (a9 : A9) (a10 : A10) (a11 : A11) (a12 : A12), I a1 a2 a3 a4 a5 a6 a7 a8 a9 a10 a11 a12 → μ a1 a2 a3 a4 a5 a6 a7 a8 a9 a10 a11 a12 < n → vlp12 F n a1 a2 a3 a4 a5 a6 a7 a8 a9 a10 a11 a12 := by
    intro n
    induction n with
    | zero => intro a1 a2 a3 a4 a5 a6 a7 a8 a9 a10 a11 a12 _ hm; exact absurd hm (Nat.not_lt_zero _)
    | succ n ih => intro a1 a2 a3 a4 a5 a6 a7 a8 a9 a10 a11 a12 hI hm; exact h (vlp12 F n) a1 a2 a3 a4 a5 a6 a7 a8 a9 a10 a11 a12 hI (fun b1 b2 b3 b4 b5 b6 b7 b8 b9 b10 b11 b12 hb hl => ih b1 b2 b3 b4 b5 b6 b7 b8 b9 b10 b11 b12 hb (by omega))
  exact ⟨μ a1 a2 a3 a4 a5 a6 a7 a8 a9 a10 a11 a12 + 1, key _ a1 a2 a3 a4 a5 a6 a7 a8 a9 a10 a11 a12 h0 (Nat.lt_succ_self _)⟩
/-- a walk's state at a place -/
abbrev wst (p : Program) (l : Launch) (e : Env) (R : Room) (s : State) (m : MethodId) (args : Array Value) (below : List Frame) (meth : Method) (c : Code) (dC : Nat → ClassId) (dI : Nat → Nat → Nat) (A : Nat → Prop) (nL : Nat) (Q : State → Prop) (ws : va_W) (lv : List (Nat × Value)) (pc : Nat) (st : List Value) (cells slots : Nat) : Prop :=
  ∀ (H : Heap) (locs : List Loc) (ls : Array Slot), va_P (dC, dI) vwCl ws H → va_D A ws → va_S A s.heap H locs → lv_has ls nL lv → W p l e R s m args below meth c H locs cells slots Q (F0 m pc ls st)
/-- the classes of the arrays -/
abbrev tysv (kI kJ kZ kII kJJ : ClassId) : List (ClassId × FieldType) := [(kI, .int), (kJ, .long), (kZ, .boolean), (kII, .array .int), (kJJ, .array .long)]
/-- a contract's start: the world, the tables, the given statics G -/
def px_B (G : (Nat → Prop) → State → Prop) (D : va_G) (cl : List vw_C) (tys : List (ClassId × FieldType)) (ws : va_W) (sz : Nat) (U : State) : Prop := U.heap.size = sz ∧ va_P D cl ws U.heap ∧ va_K D cl tys U ∧ va_D (fun _ => True) ws ∧ G (va_A ws sz) U
def px_mv (G : (Nat → Prop) → State → Prop) : Prop := ∀ (A B : Nat → Prop) (H0 : Heap) (u U : State) (locs : List Loc), G A u → va_S A u.heap U.heap locs → u.WarmedH U.vm → (∀ q, B q → A q) → G B U
def g0 : (Nat → Prop) → State → Prop := fun _ _ => True
theorem g0_mv : px_mv g0 := fun _ _ _ _ _ _ _ _ _ _ => trivial
def ax_B (A : Nat → Prop) (D : va_G) (cl : List vw_C) (tys : List (ClassId × FieldType)) (ws : va_W) (t : State) : Prop := va_P D cl ws t.heap ∧ va_K D cl tys t ∧ va_D A ws
theorem px_blind {G : (Nat → Prop) → State → Prop} (hG : px_mv G) {av : List Value} {D : va_G} {cl : List vw_C} {tys : List (ClassId × FieldType)} {ws : va_W} {sz : Nat} : FrameBlind (va_Pc av (px_B G D cl tys ws sz)) := fun a U g mk q => by
  obtain ⟨q0, q1, qP, qK, qD, qG⟩ := q
  exact ⟨q0, q1, qP, va_K.moved (u := U) (U := U.calling g mk a) (Vm.Alike.refl U.vm) qK, qD, hG _ _ U.heap U (U.calling g mk a) [] qG va_S.rf (State.WarmedH.refl U) (fun _ h => h)⟩
theorem px_pre {G : (Nat → Prop) → State → Prop} (hGm : px_mv G) {s : State} {H : Heap} {av : List Value} {D : va_G} {cl : List vw_C} {tys : List (ClassId × FieldType)} {ws : va_W} {A : Nat → Prop} {locs : List Loc} (hP : va_P D cl ws H) (hK : va_K D cl tys s) (hD : va_D A ws) (hG : G A s) (hS : va_S A s.heap H locs) (hF : ∀ q, va_A ws H.size q → A q) : ∀ U : State, U.heap = H → s.WarmedH U.vm → va_Pc av (px_B G D cl tys ws H.size) av.toArray U := fun U hU hW =>
  ⟨rfl, by rw [hU], by rw [hU]; exact hP, va_K.moved hW.alike hK, hD.weaken (fun _ _ _ _ => trivial), hGm A _ s.heap s U locs hG (by rw [hU]; exact hS) hW hF⟩
theorem cj_join {A0 : Nat → Prop} {D : va_G} {cl : List vw_C} {tys : List (ClassId × FieldType)} {ws wc wr w1 : va_W} {H H1 : Heap} {t : State} (hP : va_P D cl ws H) (hD : va_D A0 ws) (isC isR : List Nat) (hC : isC.map (fun i => ws[i]?) = wc.map some) (hR : isR.map (fun i => ws[i]?) = wr.map some) (hn : va_nd isR = true) (hdis : ∀ i ∈ isR, i ∉ isC)
    (hk : ∀ q : Nat, q < H.size → ¬ va_A wc H.size q → H1[q]? = H[q]?) (hF : ∀ q, va_A wc H.size q → A0 q) (ht : t.heap = H1) (hB : ax_B (va_A wc H.size) D cl tys w1 t) : va_P D cl (wr ++ w1) H1 ∧ va_D A0 (wr ++ w1) :=
  va_join hP hD isC isR hC hR hn hdis hk hF (by rw [← ht]; exact hB.1) hB.2.2

abbrev wq (a b : va_W) : va_W := a ++ b
def gq (R : Nat) (g : Nat → Nat) : Nat → Option Nat := fun i => if i < R then some (g i) else none
def gseti (M : Nat → Nat → Int32) (a b : Nat) (x : Int32) : Nat → Nat → Int32 := va_up M a (upd (M a) b x)
def gsetl (M : Nat → Nat → Int64) (a b : Nat) (x : Int64) : Nat → Nat → Int64 := va_up M a (vp_updL (M a) b x)
theorem gj_lt {i : Int32} {n : Nat} (h : vp_in i n) : i.toNatClampNeg < n := Nat.not_le.mp fun q => h (Or.inr q)
section GX
variable {p : Program} {l : Launch} {e : Env} {R : Room} {s : State} {m : MethodId} {args : Array Value} {below : List Frame} {meth : Method} {c : Code} {H : Heap} {locs : List Loc} {cells slots : Nat} {Q : State → Prop}
variable {cc : ByteArray} {pc : Nat} {ls : Array Slot} {rest : List Value} {D : va_G} {cl : List vw_C} {A : Nat → Prop} {tys : List (ClassId × FieldType)} {H0 : Heap}
theorem gx_ald {a : Nat} {ws : va_W} (hexec : p.tables.exec = Jvm.exec) (hb : c.code = cc) (hK : va_K D cl tys s) (hP : va_P D cl ws H) (q0 t0 : Nat) {cA : ClassId} {t : FieldType} {n : Nat} {g : Nat → Nat} (ha : ws[q0]? = some (a, .inl (cA, n, .inr (.inr (.inr (.inr (gq n g))))))) (ht : tys[t0]? = some (cA, .array t)) {i : Int32} (hin : vp_in i n) (hdg : decode cc pc = .ok (.aaload, 1))
    (kk : W p l e R s m args below meth c H locs cells slots Q (F0 m (pc + 1) ls (.ref (g i.toNatClampNeg) :: rest))) : W p l e R s m args below meth c H locs cells slots Q (F0 m pc ls (.int i :: .ref a :: rest)) := by
  have hlt : i.toNatClampNeg < n := gj_lt hin
  refine W.aald (v := .ref (g i.toNatClampNeg)) (ty := .array t) hexec hb (hP q0 _ ha) ((hK.2 t0 _ ht).1 n (fun j => va_rf (gq n g j))) rfl (fun q => by cases q) (by show ¬ (i < 0 ∨ (arrV _ _ _).slots.size ≤ _); rw [arrV_size]; exact hin) (by show (arrV _ _ _).slots[_]? = _; rw [arrV_read _ _ hlt]; simp only [gq, if_pos hlt]; rfl) rfl rfl hdg kk
abbrev gi2 (g : Nat → Nat) (k : ClassId) (n : Nat) (M : Nat → Nat → Int32) : va_W := [(g 0, .inl (k, n, .inl (M 0))), (g 1, .inl (k, n, .inl (M 1)))]
theorem gi2_at {pre suf : va_W} {g : Nat → Nat} {k : ClassId} {n : Nat} {M : Nat → Nat → Int32} {j : Nat} (hj : j < 2) : (wq pre (wq (gi2 g k n M) suf))[pre.length + j]? = some (g j, .inl (k, n, .inl (M j))) := by
  show (pre ++ (gi2 g k n M ++ suf))[pre.length + j]? = _
  rw [List.getElem?_append_right (Nat.le_add_right _ _), Nat.add_sub_cancel_left]
  rcases (show j = 0 ∨ j = 1 by omega) with rfl | rfl <;> rfl
theorem gi2_set {pre suf : va_W} {g : Nat → Nat} {k : ClassId} {n : Nat} {M : Nat → Nat → Int32} {j : Nat} {f : Nat → Int32} (hj : j < 2) : (wq pre (wq (gi2 g k n M) suf)).set (pre.length + j) (g j, .inl (k, n, .inl f)) = wq pre (wq (gi2 g k n (va_up M j f)) suf) := by
  show (pre ++ (gi2 g k n M ++ suf)).set (pre.length + j) _ = pre ++ (gi2 g k n (va_up M j f) ++ suf)
  rw [List.set_append_right _ _ (Nat.le_add_right _ _), Nat.add_sub_cancel_left]
  rcases (show j = 0 ∨ j = 1 by omega) with rfl | rfl <;> rfl
theorem gi2_ld {pre suf : va_W} {g : Nat → Nat} {k : ClassId} {n : Nat} {M : Nat → Nat → Int32} {j : Nat} (hexec : p.tables.exec = Jvm.exec) (hb : c.code = cc) (hK : va_K D cl tys s) (hP : va_P D cl (wq pre (wq (gi2 g k n M) suf)) H) (t0 : Nat) (ht : tys[t0]? = some (k, .int)) (hj : j < 2) {i : Int32} (hin : vp_in i n) (hdg : decode cc pc = .ok (.iaload, 1))
    (kk : W p l e R s m args below meth c H locs cells slots Q (F0 m (pc + 1) ls (.int (M j i.toNatClampNeg) :: rest))) : W p l e R s m args below meth c H locs cells slots Q (F0 m pc ls (.int i :: .ref (g j) :: rest)) :=
  va_iald hexec hb hK hP (pre.length + j) t0 (gi2_at hj) ht hin hdg kk
theorem gi2_st {pre suf : va_W} {g : Nat → Nat} {k : ClassId} {n : Nat} {M : Nat → Nat → Int32} {j : Nat} (hexec : p.tables.exec = Jvm.exec) (hb : c.code = cc) (hK : va_K D cl tys s) (hP : va_P D cl (wq pre (wq (gi2 g k n M) suf)) H) (hD : va_D A (wq pre (wq (gi2 g k n M) suf))) (hS : va_S A H0 H locs) (t0 : Nat) (ht : tys[t0]? = some (k, .int)) (hj : j < 2) {i : Int32} {x : Int32} (hin : vp_in i n) (hdg : decode cc pc = .ok (.iastore, 1))
    (kk : ∀ (H1 : Heap) (locs1 : List Loc), va_P D cl (wq pre (wq (gi2 g k n (gseti M j i.toNatClampNeg x)) suf)) H1 → va_D A (wq pre (wq (gi2 g k n (gseti M j i.toNatClampNeg x)) suf)) → va_S A H0 H1 locs1 → W p l e R s m args below meth c H1 locs1 cells slots Q (F0 m (pc + 1) ls rest)) : W p l e R s m args below meth c H locs cells slots Q (F0 m pc ls (.int x :: .int i :: .ref (g j) :: rest)) := by
  refine va_iast hexec hb hK hP hD hS (pre.length + j) t0 (gi2_at hj) ht hin hdg (fun H1 locs1 hP hD hS => ?_)
  rw [gi2_set hj] at hP hD
  exact kk H1 locs1 hP hD hS
abbrev gi3 (g : Nat → Nat) (k : ClassId) (n : Nat) (M : Nat → Nat → Int32) : va_W := [(g 0, .inl (k, n, .inl (M 0))), (g 1, .inl (k, n, .inl (M 1))), (g 2, .inl (k, n, .inl (M 2)))]
theorem gi3_at {pre suf : va_W} {g : Nat → Nat} {k : ClassId} {n : Nat} {M : Nat → Nat → Int32} {j : Nat} (hj : j < 3) : (wq pre (wq (gi3 g k n M) suf))[pre.length + j]? = some (g j, .inl (k, n, .inl (M j))) := by
  show (pre ++ (gi3 g k n M ++ suf))[pre.length + j]? = _
  rw [List.getElem?_append_right (Nat.le_add_right _ _), Nat.add_sub_cancel_left]
  rcases (show j = 0 ∨ j = 1 ∨ j = 2 by omega) with rfl | rfl | rfl <;> rfl
theorem gi3_set {pre suf : va_W} {g : Nat → Nat} {k : ClassId} {n : Nat} {M : Nat → Nat → Int32} {j : Nat} {f : Nat → Int32} (hj : j < 3) : (wq pre (wq (gi3 g k n M) suf)).set (pre.length + j) (g j, .inl (k, n, .inl f)) = wq pre (wq (gi3 g k n (va_up M j f)) suf) := by
  show (pre ++ (gi3 g k n M ++ suf)).set (pre.length + j) _ = pre ++ (gi3 g k n (va_up M j f) ++ suf)
  rw [List.set_append_right _ _ (Nat.le_add_right _ _), Nat.add_sub_cancel_left]
  rcases (show j = 0 ∨ j = 1 ∨ j = 2 by omega) with rfl | rfl | rfl <;> rfl
theorem gi3_ld {pre suf : va_W} {g : Nat → Nat} {k : ClassId} {n : Nat} {M : Nat → Nat → Int32} {j : Nat} (hexec : p.tables.exec = Jvm.exec) (hb : c.code = cc) (hK : va_K D cl tys s) (hP : va_P D cl (wq pre (wq (gi3 g k n M) suf)) H) (t0 : Nat) (ht : tys[t0]? = some (k, .int)) (hj : j < 3) {i : Int32} (hin : vp_in i n) (hdg : decode cc pc = .ok (.iaload, 1))
    (kk : W p l e R s m args below meth c H locs cells slots Q (F0 m (pc + 1) ls (.int (M j i.toNatClampNeg) :: rest))) : W p l e R s m args below meth c H locs cells slots Q (F0 m pc ls (.int i :: .ref (g j) :: rest)) :=
  va_iald hexec hb hK hP (pre.length + j) t0 (gi3_at hj) ht hin hdg kk
theorem gi3_st {pre suf : va_W} {g : Nat → Nat} {k : ClassId} {n : Nat} {M : Nat → Nat → Int32} {j : Nat} (hexec : p.tables.exec = Jvm.exec) (hb : c.code = cc) (hK : va_K D cl tys s) (hP : va_P D cl (wq pre (wq (gi3 g k n M) suf)) H) (hD : va_D A (wq pre (wq (gi3 g k n M) suf))) (hS : va_S A H0 H locs) (t0 : Nat) (ht : tys[t0]? = some (k, .int)) (hj : j < 3) {i : Int32} {x : Int32} (hin : vp_in i n) (hdg : decode cc pc = .ok (.iastore, 1))
    (kk : ∀ (H1 : Heap) (locs1 : List Loc), va_P D cl (wq pre (wq (gi3 g k n (gseti M j i.toNatClampNeg x)) suf)) H1 → va_D A (wq pre (wq (gi3 g k n (gseti M j i.toNatClampNeg x)) suf)) → va_S A H0 H1 locs1 → W p l e R s m args below meth c H1 locs1 cells slots Q (F0 m (pc + 1) ls rest)) : W p l e R s m args below meth c H locs cells slots Q (F0 m pc ls (.int x :: .int i :: .ref (g j) :: rest)) := by
  refine va_iast hexec hb hK hP hD hS (pre.length + j) t0 (gi3_at hj) ht hin hdg (fun H1 locs1 hP hD hS => ?_)
  rw [gi3_set hj] at hP hD
  exact kk H1 locs1 hP hD hS
abbrev gi5 (g : Nat → Nat) (k : ClassId) (n : Nat) (M : Nat → Nat → Int32) : va_W := [(g 0, .inl (k, n, .inl (M 0))), (g 1, .inl (k, n, .inl (M 1))), (g 2, .inl (k, n, .inl (M 2))), (g 3, .inl (k, n, .inl (M 3))), (g 4, .inl (k, n, .inl (M 4)))]
theorem gi5_at {pre suf : va_W} {g : Nat → Nat} {k : ClassId} {n : Nat} {M : Nat → Nat → Int32} {j : Nat} (hj : j < 5) : (wq pre (wq (gi5 g k n M) suf))[pre.length + j]? = some (g j, .inl (k, n, .inl (M j))) := by
  show (pre ++ (gi5 g k n M ++ suf))[pre.length + j]? = _
  rw [List.getElem?_append_right (Nat.le_add_right _ _), Nat.add_sub_cancel_left]
  rcases (show j = 0 ∨ j = 1 ∨ j = 2 ∨ j = 3 ∨ j = 4 by omega) with rfl | rfl | rfl | rfl | rfl <;> rfl
theorem gi5_set {pre suf : va_W} {g : Nat → Nat} {k : ClassId} {n : Nat} {M : Nat → Nat → Int32} {j : Nat} {f : Nat → Int32} (hj : j < 5) : (wq pre (wq (gi5 g k n M) suf)).set (pre.length + j) (g j, .inl (k, n, .inl f)) = wq pre (wq (gi5 g k n (va_up M j f)) suf) := by
  show (pre ++ (gi5 g k n M ++ suf)).set (pre.length + j) _ = pre ++ (gi5 g k n (va_up M j f) ++ suf)
  rw [List.set_append_right _ _ (Nat.le_add_right _ _), Nat.add_sub_cancel_left]
  rcases (show j = 0 ∨ j = 1 ∨ j = 2 ∨ j = 3 ∨ j = 4 by omega) with rfl | rfl | rfl | rfl | rfl <;> rfl
theorem gi5_ld {pre suf : va_W} {g : Nat → Nat} {k : ClassId} {n : Nat} {M : Nat → Nat → Int32} {j : Nat} (hexec : p.tables.exec = Jvm.exec) (hb : c.code = cc) (hK : va_K D cl tys s) (hP : va_P D cl (wq pre (wq (gi5 g k n M) suf)) H) (t0 : Nat) (ht : tys[t0]? = some (k, .int)) (hj : j < 5) {i : Int32} (hin : vp_in i n) (hdg : decode cc pc = .ok (.iaload, 1))
    (kk : W p l e R s m args below meth c H locs cells slots Q (F0 m (pc + 1) ls (.int (M j i.toNatClampNeg) :: rest))) : W p l e R s m args below meth c H locs cells slots Q (F0 m pc ls (.int i :: .ref (g j) :: rest)) :=
  va_iald hexec hb hK hP (pre.length + j) t0 (gi5_at hj) ht hin hdg kk
theorem gi5_st {pre suf : va_W} {g : Nat → Nat} {k : ClassId} {n : Nat} {M : Nat → Nat → Int32} {j : Nat} (hexec : p.tables.exec = Jvm.exec) (hb : c.code = cc) (hK : va_K D cl tys s) (hP : va_P D cl (wq pre (wq (gi5 g k n M) suf)) H) (hD : va_D A (wq pre (wq (gi5 g k n M) suf))) (hS : va_S A H0 H locs) (t0 : Nat) (ht : tys[t0]? = some (k, .int)) (hj : j < 5) {i : Int32} {x : Int32} (hin : vp_in i n) (hdg : decode cc pc = .ok (.iastore, 1))
    (kk : ∀ (H1 : Heap) (locs1 : List Loc), va_P D cl (wq pre (wq (gi5 g k n (gseti M j i.toNatClampNeg x)) suf)) H1 → va_D A (wq pre (wq (gi5 g k n (gseti M j i.toNatClampNeg x)) suf)) → va_S A H0 H1 locs1 → W p l e R s m args below meth c H1 locs1 cells slots Q (F0 m (pc + 1) ls rest)) : W p l e R s m args below meth c H locs cells slots Q (F0 m pc ls (.int x :: .int i :: .ref (g j) :: rest)) := by
  refine va_iast hexec hb hK hP hD hS (pre.length + j) t0 (gi5_at hj) ht hin hdg (fun H1 locs1 hP hD hS => ?_)
  rw [gi5_set hj] at hP hD
  exact kk H1 locs1 hP hD hS
abbrev gi8 (g : Nat → Nat) (k : ClassId) (n : Nat) (M : Nat → Nat → Int32) : va_W := [(g 0, .inl (k, n, .inl (M 0))), (g 1, .inl (k, n, .inl (M 1))), (g 2, .inl (k, n, .inl (M 2))), (g 3, .inl (k, n, .inl (M 3))), (g 4, .inl (k, n, .inl (M 4))), (g 5, .inl (k, n, .inl (M 5))), (g 6, .inl (k, n, .inl (M 6))), (g 7, .inl (k, n, .inl (M 7)))]
theorem gi8_at {pre suf : va_W} {g : Nat → Nat} {k : ClassId} {n : Nat} {M : Nat → Nat → Int32} {j : Nat} (hj : j < 8) : (wq pre (wq (gi8 g k n M) suf))[pre.length + j]? = some (g j, .inl (k, n, .inl (M j))) := by
  show (pre ++ (gi8 g k n M ++ suf))[pre.length + j]? = _
  rw [List.getElem?_append_right (Nat.le_add_right _ _), Nat.add_sub_cancel_left]
  rcases (show j = 0 ∨ j = 1 ∨ j = 2 ∨ j = 3 ∨ j = 4 ∨ j = 5 ∨ j = 6 ∨ j = 7 by omega) with rfl | rfl | rfl | rfl | rfl | rfl | rfl | rfl <;> rfl
theorem gi8_set {pre suf : va_W} {g : Nat → Nat} {k : ClassId} {n : Nat} {M : Nat → Nat → Int32} {j : Nat} {f : Nat → Int32} (hj : j < 8) : (wq pre (wq (gi8 g k n M) suf)).set (pre.length + j) (g j, .inl (k, n, .inl f)) = wq pre (wq (gi8 g k n (va_up M j f)) suf) := by
  show (pre ++ (gi8 g k n M ++ suf)).set (pre.length + j) _ = pre ++ (gi8 g k n (va_up M j f) ++ suf)
  rw [List.set_append_right _ _ (Nat.le_add_right _ _), Nat.add_sub_cancel_left]
  rcases (show j = 0 ∨ j = 1 ∨ j = 2 ∨ j = 3 ∨ j = 4 ∨ j = 5 ∨ j = 6 ∨ j = 7 by omega) with rfl | rfl | rfl | rfl | rfl | rfl | rfl | rfl <;> rfl
theorem gi8_ld {pre suf : va_W} {g : Nat → Nat} {k : ClassId} {n : Nat} {M : Nat → Nat → Int32} {j : Nat} (hexec : p.tables.exec = Jvm.exec) (hb : c.code = cc) (hK : va_K D cl tys s) (hP : va_P D cl (wq pre (wq (gi8 g k n M) suf)) H) (t0 : Nat) (ht : tys[t0]? = some (k, .int)) (hj : j < 8) {i : Int32} (hin : vp_in i n) (hdg : decode cc pc = .ok (.iaload, 1))
    (kk : W p l e R s m args below meth c H locs cells slots Q (F0 m (pc + 1) ls (.int (M j i.toNatClampNeg) :: rest))) : W p l e R s m args below meth c H locs cells slots Q (F0 m pc ls (.int i :: .ref (g j) :: rest)) :=
  va_iald hexec hb hK hP (pre.length + j) t0 (gi8_at hj) ht hin hdg kk
theorem gi8_st {pre suf : va_W} {g : Nat → Nat} {k : ClassId} {n : Nat} {M : Nat → Nat → Int32} {j : Nat} (hexec : p.tables.exec = Jvm.exec) (hb : c.code = cc) (hK : va_K D cl tys s) (hP : va_P D cl (wq pre (wq (gi8 g k n M) suf)) H) (hD : va_D A (wq pre (wq (gi8 g k n M) suf))) (hS : va_S A H0 H locs) (t0 : Nat) (ht : tys[t0]? = some (k, .int)) (hj : j < 8) {i : Int32} {x : Int32} (hin : vp_in i n) (hdg : decode cc pc = .ok (.iastore, 1))
    (kk : ∀ (H1 : Heap) (locs1 : List Loc), va_P D cl (wq pre (wq (gi8 g k n (gseti M j i.toNatClampNeg x)) suf)) H1 → va_D A (wq pre (wq (gi8 g k n (gseti M j i.toNatClampNeg x)) suf)) → va_S A H0 H1 locs1 → W p l e R s m args below meth c H1 locs1 cells slots Q (F0 m (pc + 1) ls rest)) : W p l e R s m args below meth c H locs cells slots Q (F0 m pc ls (.int x :: .int i :: .ref (g j) :: rest)) := by
  refine va_iast hexec hb hK hP hD hS (pre.length + j) t0 (gi8_at hj) ht hin hdg (fun H1 locs1 hP hD hS => ?_)
  rw [gi8_set hj] at hP hD
  exact kk H1 locs1 hP hD hS
abbrev gl3 (g : Nat → Nat) (k : ClassId) (n : Nat) (M : Nat → Nat → Int64) : va_W := [(g 0, .inl (k, n, .inr (.inl (M 0)))), (g 1, .inl (k, n, .inr (.inl (M 1)))), (g 2, .inl (k, n, .inr (.inl (M 2))))]
theorem gl3_at {pre suf : va_W} {g : Nat → Nat} {k : ClassId} {n : Nat} {M : Nat → Nat → Int64} {j : Nat} (hj : j < 3) : (wq pre (wq (gl3 g k n M) suf))[pre.length + j]? = some (g j, .inl (k, n, .inr (.inl (M j)))) := by
  show (pre ++ (gl3 g k n M ++ suf))[pre.length + j]? = _
  rw [List.getElem?_append_right (Nat.le_add_right _ _), Nat.add_sub_cancel_left]
  rcases (show j = 0 ∨ j = 1 ∨ j = 2 by omega) with rfl | rfl | rfl <;> rfl
theorem gl3_set {pre suf : va_W} {g : Nat → Nat} {k : ClassId} {n : Nat} {M : Nat → Nat → Int64} {j : Nat} {f : Nat → Int64} (hj : j < 3) : (wq pre (wq (gl3 g k n M) suf)).set (pre.length + j) (g j, .inl (k, n, .inr (.inl f))) = wq pre (wq (gl3 g k n (va_up M j f)) suf) := by
  show (pre ++ (gl3 g k n M ++ suf)).set (pre.length + j) _ = pre ++ (gl3 g k n (va_up M j f) ++ suf)
  rw [List.set_append_right _ _ (Nat.le_add_right _ _), Nat.add_sub_cancel_left]
  rcases (show j = 0 ∨ j = 1 ∨ j = 2 by omega) with rfl | rfl | rfl <;> rfl
theorem gl3_ld {pre suf : va_W} {g : Nat → Nat} {k : ClassId} {n : Nat} {M : Nat → Nat → Int64} {j : Nat} (hexec : p.tables.exec = Jvm.exec) (hb : c.code = cc) (hK : va_K D cl tys s) (hP : va_P D cl (wq pre (wq (gl3 g k n M) suf)) H) (t0 : Nat) (ht : tys[t0]? = some (k, .long)) (hj : j < 3) {i : Int32} (hin : vp_in i n) (hdg : decode cc pc = .ok (.laload, 1))
    (kk : W p l e R s m args below meth c H locs cells slots Q (F0 m (pc + 1) ls (.long (M j i.toNatClampNeg) :: rest))) : W p l e R s m args below meth c H locs cells slots Q (F0 m pc ls (.int i :: .ref (g j) :: rest)) :=
  va_lald hexec hb hK hP (pre.length + j) t0 (gl3_at hj) ht hin hdg kk
theorem gl3_st {pre suf : va_W} {g : Nat → Nat} {k : ClassId} {n : Nat} {M : Nat → Nat → Int64} {j : Nat} (hexec : p.tables.exec = Jvm.exec) (hb : c.code = cc) (hK : va_K D cl tys s) (hP : va_P D cl (wq pre (wq (gl3 g k n M) suf)) H) (hD : va_D A (wq pre (wq (gl3 g k n M) suf))) (hS : va_S A H0 H locs) (t0 : Nat) (ht : tys[t0]? = some (k, .long)) (hj : j < 3) {i : Int32} {x : Int64} (hin : vp_in i n) (hdg : decode cc pc = .ok (.lastore, 1))
    (kk : ∀ (H1 : Heap) (locs1 : List Loc), va_P D cl (wq pre (wq (gl3 g k n (gsetl M j i.toNatClampNeg x)) suf)) H1 → va_D A (wq pre (wq (gl3 g k n (gsetl M j i.toNatClampNeg x)) suf)) → va_S A H0 H1 locs1 → W p l e R s m args below meth c H1 locs1 cells slots Q (F0 m (pc + 1) ls rest)) : W p l e R s m args below meth c H locs cells slots Q (F0 m pc ls (.long x :: .int i :: .ref (g j) :: rest)) := by
  refine va_last hexec hb hK hP hD hS (pre.length + j) t0 (gl3_at hj) ht hin hdg (fun H1 locs1 hP hD hS => ?_)
  rw [gl3_set hj] at hP hD
  exact kk H1 locs1 hP hD hS
end GX
theorem pxi {l : Launch} {G : (Nat → Prop) → State → Prop} {y : MethodName} {ws ws' : List Cond} {rm : Room} {cc : ByteArray} {maxL : Nat} {av : List Value} {D : va_G} {cl : List vw_C} {tys : List (ClassId × FieldType)} {w0 : va_W} {S : Type} {wd : S → va_W} {post : Int32 → S → Prop} {mc ms sz : Nat}
    (hy : plainName y.cls = true) (hw : ws = Cond.code y cc maxL (some .int) :: ws') (hlen : (lg_sl av).length ≤ maxL)
    (body : ∀ (p : Program) (e : Env) (s : State) (m : MethodId) (below : List Frame) (meth : Method) (c : Code) (A : Nat → Prop) (ls : Array Slot) (Q : State → Prop) (H : Heap), p.tables.exec = Jvm.exec → c.code = cc → c.maxLocals = maxL → (∀ w ∈ ws, w.before av.toArray s = true) → s.vm.findClass y.cls = some m.cls → va_K D cl tys s → G A s → va_P D cl w0 H → va_D A w0 → va_S A s.heap H [] → (∀ q : Nat, s.heap.size ≤ q → A q) → lv_has ls maxL (lv_args 0 av) →
      (∀ (r : Int32) (u : S) (H : Heap) (locs : List Loc) (pc : Nat) (ls : Array Slot), post r u → va_P D cl (wd u) H → va_D A (wd u) → va_S A s.heap H locs → decode cc pc = .ok (.ireturn, 1) → W p l e (headSpec ws rm).room s m av.toArray below meth c H locs mc ms Q (F0 m pc ls [.int r])) → W p l e (headSpec ws rm).room s m av.toArray below meth c H [] 0 0 Q (F0 m 0 ls [])) :
    Met l y ws rm (va_Pc av (px_B G D cl tys w0 sz)) (va_Qi post (fun u => ax_B (va_A w0 sz) D cl tys (wd u)) (va_A w0 sz)) mc ms (va_A w0 sz) := by
  refine Met.ofW (cc := cc) (maxL := maxL) (ret := some .int) hy hw ?_
  intro p e s m args below meth c s₁ B hml hv
  obtain ⟨rfl, hsz, hP, hK, hD0, hG⟩ := hv
  subst hsz
  have hl := lv_entry av (n := maxL) hlen
  rw [lg_entry_eq]
  generalize (lg_sl av ++ List.replicate (maxL - (lg_sl av).length) Slot.unset).toArray = ls at hl ⊢
  exact body p e s m below meth c (va_A w0 s.heap.size) ls _ s.heap B.exec B.bytes hml (atoms_spec (ws := ws) B.pre) (findClass_of_methodNamed B.named) hK hG hP (hD0.self (sz := s.heap.size)) va_S.rf (fun q h => Or.inr h) hl (fun r u H locs pc ls hp hP hD hS hd => W.iret B.exec B.bytes B.returns (fun t ht hW => ⟨⟨r, u, rfl, hp, by rw [ht]; exact hP, va_K.moved hW.alike hK, hD⟩, hS.F ht⟩) hS.2.2 hd (hlocks := B.notSynchronized))
theorem pxl {l : Launch} {G : (Nat → Prop) → State → Prop} {y : MethodName} {ws ws' : List Cond} {rm : Room} {cc : ByteArray} {maxL : Nat} {av : List Value} {D : va_G} {cl : List vw_C} {tys : List (ClassId × FieldType)} {w0 : va_W} {S : Type} {wd : S → va_W} {post : Int64 → S → Prop} {mc ms sz : Nat}
    (hy : plainName y.cls = true) (hw : ws = Cond.code y cc maxL (some .long) :: ws') (hlen : (lg_sl av).length ≤ maxL)
    (body : ∀ (p : Program) (e : Env) (s : State) (m : MethodId) (below : List Frame) (meth : Method) (c : Code) (A : Nat → Prop) (ls : Array Slot) (Q : State → Prop) (H : Heap), p.tables.exec = Jvm.exec → c.code = cc → c.maxLocals = maxL → (∀ w ∈ ws, w.before av.toArray s = true) → s.vm.findClass y.cls = some m.cls → va_K D cl tys s → G A s → va_P D cl w0 H → va_D A w0 → va_S A s.heap H [] → (∀ q : Nat, s.heap.size ≤ q → A q) → lv_has ls maxL (lv_args 0 av) →
      (∀ (r : Int64) (u : S) (H : Heap) (locs : List Loc) (pc : Nat) (ls : Array Slot), post r u → va_P D cl (wd u) H → va_D A (wd u) → va_S A s.heap H locs → decode cc pc = .ok (.lreturn, 1) → W p l e (headSpec ws rm).room s m av.toArray below meth c H locs mc ms Q (F0 m pc ls [.long r])) → W p l e (headSpec ws rm).room s m av.toArray below meth c H [] 0 0 Q (F0 m 0 ls [])) :
    Met l y ws rm (va_Pc av (px_B G D cl tys w0 sz)) (va_Ql post (fun u => ax_B (va_A w0 sz) D cl tys (wd u)) (va_A w0 sz)) mc ms (va_A w0 sz) := by
  refine Met.ofW (cc := cc) (maxL := maxL) (ret := some .long) hy hw ?_
  intro p e s m args below meth c s₁ B hml hv
  obtain ⟨rfl, hsz, hP, hK, hD0, hG⟩ := hv
  subst hsz
  have hl := lv_entry av (n := maxL) hlen
  rw [lg_entry_eq]
  generalize (lg_sl av ++ List.replicate (maxL - (lg_sl av).length) Slot.unset).toArray = ls at hl ⊢
  exact body p e s m below meth c (va_A w0 s.heap.size) ls _ s.heap B.exec B.bytes hml (atoms_spec (ws := ws) B.pre) (findClass_of_methodNamed B.named) hK hG hP (hD0.self (sz := s.heap.size)) va_S.rf (fun q h => Or.inr h) hl (fun r u H locs pc ls hp hP hD hS hd => W.lret B.exec B.bytes B.returns (fun t ht hW => ⟨⟨r, u, rfl, hp, by rw [ht]; exact hP, va_K.moved hW.alike hK, hD⟩, hS.F ht⟩) hS.2.2 hd (hlocks := B.notSynchronized))
theorem pxz {l : Launch} {G : (Nat → Prop) → State → Prop} {y : MethodName} {ws ws' : List Cond} {rm : Room} {cc : ByteArray} {maxL : Nat} {av : List Value} {D : va_G} {cl : List vw_C} {tys : List (ClassId × FieldType)} {w0 : va_W} {S : Type} {wd : S → va_W} {post : Int32 → S → Prop} {mc ms sz : Nat}
    (hy : plainName y.cls = true) (hw : ws = Cond.code y cc maxL (some .boolean) :: ws') (hlen : (lg_sl av).length ≤ maxL)
    (body : ∀ (p : Program) (e : Env) (s : State) (m : MethodId) (below : List Frame) (meth : Method) (c : Code) (A : Nat → Prop) (ls : Array Slot) (Q : State → Prop) (H : Heap), p.tables.exec = Jvm.exec → c.code = cc → c.maxLocals = maxL → (∀ w ∈ ws, w.before av.toArray s = true) → s.vm.findClass y.cls = some m.cls → va_K D cl tys s → G A s → va_P D cl w0 H → va_D A w0 → va_S A s.heap H [] → (∀ q : Nat, s.heap.size ≤ q → A q) → lv_has ls maxL (lv_args 0 av) →
      (∀ (r : Int32) (u : S) (H : Heap) (locs : List Loc) (pc : Nat) (ls : Array Slot), post r u → va_P D cl (wd u) H → va_D A (wd u) → va_S A s.heap H locs → decode cc pc = .ok (.ireturn, 1) → narrow .boolean (.int r) = .int r → W p l e (headSpec ws rm).room s m av.toArray below meth c H locs mc ms Q (F0 m pc ls [.int r])) → W p l e (headSpec ws rm).room s m av.toArray below meth c H [] 0 0 Q (F0 m 0 ls [])) :
    Met l y ws rm (va_Pc av (px_B G D cl tys w0 sz)) (va_Qi post (fun u => ax_B (va_A w0 sz) D cl tys (wd u)) (va_A w0 sz)) mc ms (va_A w0 sz) := by
  refine Met.ofW (cc := cc) (maxL := maxL) (ret := some .boolean) hy hw ?_
  intro p e s m args below meth c s₁ B hml hv
  obtain ⟨rfl, hsz, hP, hK, hD0, hG⟩ := hv
  subst hsz
  have hl := lv_entry av (n := maxL) hlen
  rw [lg_entry_eq]
  generalize (lg_sl av ++ List.replicate (maxL - (lg_sl av).length) Slot.unset).toArray = ls at hl ⊢
  exact body p e s m below meth c (va_A w0 s.heap.size) ls _ s.heap B.exec B.bytes hml (atoms_spec (ws := ws) B.pre) (findClass_of_methodNamed B.named) hK hG hP (hD0.self (sz := s.heap.size)) va_S.rf (fun q h => Or.inr h) hl (fun r u H locs pc ls hp hP hD hS hd hn => W.zret B.exec B.bytes B.returns hn (fun t ht hW => ⟨⟨r, u, rfl, hp, by rw [ht]; exact hP, va_K.moved hW.alike hK, hD⟩, hS.F ht⟩) hS.2.2 hd (hlocks := B.notSynchronized))
theorem pxv {l : Launch} {G : (Nat → Prop) → State → Prop} {y : MethodName} {ws ws' : List Cond} {rm : Room} {cc : ByteArray} {maxL : Nat} {av : List Value} {D : va_G} {cl : List vw_C} {tys : List (ClassId × FieldType)} {w0 : va_W} {S : Type} {wd : S → va_W} {post : S → Prop} {mc ms sz : Nat}
    (hy : plainName y.cls = true) (hw : ws = Cond.code y cc maxL (none) :: ws') (hlen : (lg_sl av).length ≤ maxL)
    (body : ∀ (p : Program) (e : Env) (s : State) (m : MethodId) (below : List Frame) (meth : Method) (c : Code) (A : Nat → Prop) (ls : Array Slot) (Q : State → Prop) (H : Heap), p.tables.exec = Jvm.exec → c.code = cc → c.maxLocals = maxL → (∀ w ∈ ws, w.before av.toArray s = true) → s.vm.findClass y.cls = some m.cls → va_K D cl tys s → G A s → va_P D cl w0 H → va_D A w0 → va_S A s.heap H [] → (∀ q : Nat, s.heap.size ≤ q → A q) → lv_has ls maxL (lv_args 0 av) →
      (∀ (u : S) (H : Heap) (locs : List Loc) (pc : Nat) (ls : Array Slot), post u → va_P D cl (wd u) H → va_D A (wd u) → va_S A s.heap H locs → decode cc pc = .ok (.return_, 1) → W p l e (headSpec ws rm).room s m av.toArray below meth c H locs mc ms Q (F0 m pc ls [])) → W p l e (headSpec ws rm).room s m av.toArray below meth c H [] 0 0 Q (F0 m 0 ls [])) :
    Met l y ws rm (va_Pc av (px_B G D cl tys w0 sz)) (va_Qv post (fun u => ax_B (va_A w0 sz) D cl tys (wd u)) (va_A w0 sz)) mc ms (va_A w0 sz) := by
  refine Met.ofW (cc := cc) (maxL := maxL) (ret := none) hy hw ?_
  intro p e s m args below meth c s₁ B hml hv
  obtain ⟨rfl, hsz, hP, hK, hD0, hG⟩ := hv
  subst hsz
  have hl := lv_entry av (n := maxL) hlen
  rw [lg_entry_eq]
  generalize (lg_sl av ++ List.replicate (maxL - (lg_sl av).length) Slot.unset).toArray = ls at hl ⊢
  exact body p e s m below meth c (va_A w0 s.heap.size) ls _ s.heap B.exec B.bytes hml (atoms_spec (ws := ws) B.pre) (findClass_of_methodNamed B.named) hK hG hP (hD0.self (sz := s.heap.size)) va_S.rf (fun q h => Or.inr h) hl (fun u H locs pc ls hp hP hD hS hd => W.vret B.exec B.bytes B.returns (fun t ht hW => ⟨⟨u, rfl, hp, by rw [ht]; exact hP, va_K.moved hW.alike hK, hD⟩, hS.F ht⟩) hS.2.2 hd (hlocks := B.notSynchronized))
theorem pxn {l : Launch} {G : (Nat → Prop) → State → Prop} {y : MethodName} {ws ws' : List Cond} {rm : Room} {cc : ByteArray} {maxL : Nat} {av : List Value} {D : va_G} {cl : List vw_C} {tys : List (ClassId × FieldType)} {w0 : va_W} {S : Type} {wd : S → va_W} {post : S → Prop} {mc ms sz : Nat}
    (hy : plainName y.cls = true) (hw : ws = Cond.code y cc maxL (none) :: ws') (hlen : (lg_sl av).length ≤ maxL)
    (body : ∀ (p : Program) (e : Env) (s : State) (m : MethodId) (below : List Frame) (meth : Method) (c : Code) (A : Nat → Prop) (ls : Array Slot) (Q : State → Prop) (H : Heap), p.tables.exec = Jvm.exec → c.code = cc → c.maxLocals = maxL → (∀ w ∈ ws, w.before av.toArray s = true) → s.vm.findClass y.cls = some m.cls → meth.name = y.name → va_K D cl tys s → G A s → va_P D cl w0 H → va_D A w0 → va_S A s.heap H [] → (∀ q : Nat, s.heap.size ≤ q → A q) → lv_has ls maxL (lv_args 0 av) →
      (∀ (u : S) (H : Heap) (locs : List Loc) (pc : Nat) (ls : Array Slot), post u → va_P D cl (wd u) H → va_D A (wd u) → va_S A s.heap H locs → decode cc pc = .ok (.return_, 1) → W p l e (headSpec ws rm).room s m av.toArray below meth c H locs mc ms Q (F0 m pc ls [])) → W p l e (headSpec ws rm).room s m av.toArray below meth c H [] 0 0 Q (F0 m 0 ls [])) :
    Met l y ws rm (va_Pc av (px_B G D cl tys w0 sz)) (va_Qv post (fun u => ax_B (va_A w0 sz) D cl tys (wd u)) (va_A w0 sz)) mc ms (va_A w0 sz) := by
  refine Met.ofW (cc := cc) (maxL := maxL) (ret := none) hy hw ?_
  intro p e s m args below meth c s₁ B hml hv
  obtain ⟨rfl, hsz, hP, hK, hD0, hG⟩ := hv
  subst hsz
  have hl := lv_entry av (n := maxL) hlen
  rw [lg_entry_eq]
  generalize (lg_sl av ++ List.replicate (maxL - (lg_sl av).length) Slot.unset).toArray = ls at hl ⊢
  exact body p e s m below meth c (va_A w0 s.heap.size) ls _ s.heap B.exec B.bytes hml (atoms_spec (ws := ws) B.pre) (findClass_of_methodNamed B.named) (name_of_methodNamed B.named B.method).1 hK hG hP (hD0.self (sz := s.heap.size)) va_S.rf (fun q h => Or.inr h) hl (fun u H locs pc ls hp hP hD hS hd => W.vret B.exec B.bytes B.returns (fun t ht hW => ⟨⟨u, rfl, hp, by rw [ht]; exact hP, va_K.moved hW.alike hK, hD⟩, hS.F ht⟩) hS.2.2 hd (hlocks := B.notSynchronized))
theorem pxiF {l : Launch} {G : (Nat → Prop) → State → Prop} {y : MethodName} {ws ws' : List Cond} {rm : Room} {cc : ByteArray} {maxL : Nat} {av : List Value} {D : va_G} {cl : List vw_C} {tys : List (ClassId × FieldType)} {w0 : va_W} {S : Type} {wd : S → va_W} {post : Int32 → S → Prop} {mc ms sz : Nat}
    (hy : plainFor y = true) (hw : ws = Cond.code y cc maxL (some .int) :: ws') (hlen : (lg_sl av).length ≤ maxL)
    (body : ∀ (p : Program) (e : Env) (s : State) (m : MethodId) (below : List Frame) (meth : Method) (c : Code) (A : Nat → Prop) (ls : Array Slot) (Q : State → Prop) (H : Heap), p.tables.exec = Jvm.exec → c.code = cc → c.maxLocals = maxL → (∀ w ∈ ws, w.before av.toArray s = true) → s.vm.findClass y.cls = some m.cls → va_K D cl tys s → G A s → va_P D cl w0 H → va_D A w0 → va_S A s.heap H [] → (∀ q : Nat, s.heap.size ≤ q → A q) → lv_has ls maxL (lv_args 0 av) →
      (∀ (r : Int32) (u : S) (H : Heap) (locs : List Loc) (pc : Nat) (ls : Array Slot), post r u → va_P D cl (wd u) H → va_D A (wd u) → va_S A s.heap H locs → decode cc pc = .ok (.ireturn, 1) → W p l e (headSpec ws rm).room s m av.toArray below meth c H locs mc ms Q (F0 m pc ls [.int r])) → W p l e (headSpec ws rm).room s m av.toArray below meth c H [] 0 0 Q (F0 m 0 ls [])) :
    Met l y ws rm (va_Pc av (px_B G D cl tys w0 sz)) (va_Qi post (fun u => ax_B (va_A w0 sz) D cl tys (wd u)) (va_A w0 sz)) mc ms (va_A w0 sz) := by
  refine va_MetF (cc := cc) (maxL := maxL) (ret := some .int) hy hw ?_
  intro p e s m args below meth c s₁ B hml hv
  obtain ⟨rfl, hsz, hP, hK, hD0, hG⟩ := hv
  subst hsz
  have hl := lv_entry av (n := maxL) hlen
  rw [lg_entry_eq]
  generalize (lg_sl av ++ List.replicate (maxL - (lg_sl av).length) Slot.unset).toArray = ls at hl ⊢
  exact body p e s m below meth c (va_A w0 s.heap.size) ls _ s.heap B.exec B.bytes hml (atoms_spec (ws := ws) B.pre) (findClass_of_methodNamed B.named) hK hG hP (hD0.self (sz := s.heap.size)) va_S.rf (fun q h => Or.inr h) hl (fun r u H locs pc ls hp hP hD hS hd => W.iret B.exec B.bytes B.returns (fun t ht hW => ⟨⟨r, u, rfl, hp, by rw [ht]; exact hP, va_K.moved hW.alike hK, hD⟩, hS.F ht⟩) hS.2.2 hd (hlocks := B.notSynchronized))
theorem sw_3 (x : Int32) : (x.toInt < 0 ∨ 3 < x.toInt) ∨ x = 0 ∨ x = 1 ∨ x = 2 ∨ x = 3 := by
  by_cases h : x.toInt < 0 ∨ 3 < x.toInt
  · exact Or.inl h
  · have h2 : x.toInt = 0 ∨ x.toInt = 1 ∨ x.toInt = 2 ∨ x.toInt = 3 := by omega
    rcases h2 with h2 | h2 | h2 | h2
    · exact Or.inr (Or.inl (Int32.toInt_inj.mp h2))
    · exact Or.inr (Or.inr (Or.inl (Int32.toInt_inj.mp h2)))
    · exact Or.inr (Or.inr (Or.inr (Or.inl (Int32.toInt_inj.mp h2))))
    · exact Or.inr (Or.inr (Or.inr (Or.inr (Int32.toInt_inj.mp h2))))
