/-! the pure part: no machine from here on. Tools. -/
theorem z_le {a b : Int32} : a ≤ b ↔ a.toInt ≤ b.toInt := Int32.le_iff_toInt_le
theorem z_lt {a b : Int32} : a < b ↔ a.toInt < b.toInt := Int32.lt_iff_toInt_lt
theorem z_eq {a b : Int32} : a = b ↔ a.toInt = b.toInt := Int32.toInt_inj.symm
theorem z_lb (a : Int32) : -2147483648 ≤ a.toInt := Int32.le_toInt a
theorem z_ub (a : Int32) : a.toInt ≤ 2147483647 := by have := Int32.toInt_lt a; omega
theorem z_cl (a : Int32) : a.toNatClampNeg = a.toInt.toNat := rfl
theorem z_in {a : Int32} {n : Nat} (h0 : 0 ≤ a.toInt) (h : a.toInt < n) : vp_in a n := vp_in_iff.mpr ⟨h0, h⟩
theorem z_nat {a : Int32} (h0 : 0 ≤ a.toInt) : ∃ k : Nat, k < 2 ^ 31 ∧ (k : Int) = a.toInt ∧ a = nI k := by
  refine ⟨a.toInt.toNat, ?_, ?_, ?_⟩
  · have := z_ub a; omega
  · omega
  · rw [z_eq, nI_toInt (by have := z_ub a; omega)]; omega
theorem z_add {x y : Int32} (h1 : -2147483648 ≤ x.toInt + y.toInt) (h2 : x.toInt + y.toInt ≤ 2147483647) : (x + y).toInt = x.toInt + y.toInt := Kit.i32_add (by omega) (by omega)
theorem z_sub {x y : Int32} (h1 : -2147483648 ≤ x.toInt - y.toInt) (h2 : x.toInt - y.toInt ≤ 2147483647) : (x - y).toInt = x.toInt - y.toInt := Kit.i32_sub (by omega) (by omega)
theorem z_mul {x y : Int32} (h1 : -2147483648 ≤ x.toInt * y.toInt) (h2 : x.toInt * y.toInt ≤ 2147483647) : (x * y).toInt = x.toInt * y.toInt := Kit.i32_mul (by omega) (by omega)
theorem z_mulc {c x : Int32} {n : Int} (hc : c.toInt = n) (h1 : -2147483648 ≤ n * x.toInt) (h2 : n * x.toInt ≤ 2147483647) : (c * x).toInt = n * x.toInt := by
  subst hc; exact z_mul h1 h2
/-- a truth as an int -/
def bi (p : Prop) [Decidable p] : Int32 := if p then 1 else 0
theorem bi_0 {p : Prop} [Decidable p] : bi p = 0 ↔ ¬ p := by
  unfold bi; by_cases h : p <;> simp [h]
theorem bi_iff {p q : Prop} [Decidable p] [Decidable q] (h : p ↔ q) : bi p = bi q := by
  unfold bi; by_cases c : p
  · rw [if_pos c, if_pos (h.mp c)]
  · rw [if_neg c, if_neg (fun n => c (h.mpr n))]
theorem bi_t {p : Prop} [Decidable p] (h : p) : bi p = 1 := by unfold bi; simp [h]
theorem bi_f {p : Prop} [Decidable p] (h : ¬ p) : bi p = 0 := by unfold bi; simp [h]
theorem bi_nar {p : Prop} [Decidable p] : narrow .boolean (.int (bi p)) = .int (bi p) := by
  unfold bi; by_cases h : p
  · simp only [h, if_true]; decide
  · simp only [h, if_false]; decide
theorem nar_1 : narrow .boolean (.int (1 : Int32)) = .int (1 : Int32) := by decide
theorem nar_0 : narrow .boolean (.int (0 : Int32)) = .int (0 : Int32) := by decide
theorem t_needIndex {post : Prop} {pX : String → Prop} {a n : Int32} (h : 0 ≤ a.toInt → a.toInt < n.toInt → post) (hx : ¬ (0 ≤ a.toInt ∧ a.toInt < n.toInt) → pX "java/lang/IndexOutOfBoundsException") : vc_X_needIndex post pX a n := by
  unfold vc_X_needIndex
  simp only [z_lt, Int32.toInt_zero]
  refine ⟨fun c => hx (by omega), fun c => ⟨fun c2 => h (by omega) c2, fun c2 => hx (by omega)⟩⟩
theorem t_needValue {post : Prop} {pX : String → Prop} {a lo hi : Int32} (h : lo.toInt ≤ a.toInt → a.toInt ≤ hi.toInt → post) (hx : ¬ (lo.toInt ≤ a.toInt ∧ a.toInt ≤ hi.toInt) → pX "java/lang/IllegalArgumentException") : vc_X_needValue post pX a lo hi := by
  unfold vc_X_needValue
  simp only [z_lt, z_le]
  refine ⟨fun c => hx (by omega), fun c => ⟨fun c2 => h (by omega) (by omega), fun c2 => hx (by omega)⟩⟩
theorem t_needState {post : Prop} {pX : String → Prop} {a : Int32} (h : ¬ a = 0 → post) (hx : a = 0 → pX "java/lang/IllegalStateException") : vc_X_needState post pX a := by
  unfold vc_X_needState
  exact ⟨fun c => h c, fun c => hx c⟩
theorem t_within {post : Int32 → Prop} {a lo hi : Int32} (h : post (bi (lo.toInt ≤ a.toInt ∧ a.toInt ≤ hi.toInt))) : vc_M_within post a lo hi := by
  unfold vc_M_within
  simp only [z_lt]
  by_cases c : lo.toInt ≤ a.toInt ∧ a.toInt ≤ hi.toInt
  · rw [bi_t c] at h
    exact ⟨fun _ => by omega, fun _ => ⟨fun _ => by omega, fun _ => h⟩⟩
  · rw [bi_f c] at h
    exact ⟨fun _ => h, fun _ => ⟨fun _ => h, fun _ => by omega⟩⟩
theorem t_isChannel {post : Int32 → Prop} {ch a : Int32} (h0 : 1 ≤ ch.toInt) (h : post (bi (0 ≤ a.toInt ∧ a.toInt < ch.toInt))) : vc_M_isChannel post ch a := by
  unfold vc_M_isChannel
  refine t_within ⟨bi_nar, ?_⟩
  have e : (ch - 1).toInt = ch.toInt - 1 := z_sub (by simp; omega) (by have := z_ub ch; simp; omega)
  have e2 : bi ((0 : Int32).toInt ≤ a.toInt ∧ a.toInt ≤ (ch - 1).toInt) = bi (0 ≤ a.toInt ∧ a.toInt < ch.toInt) := by
    rw [e]; simp only [Int32.toInt_zero]
    exact bi_iff (by omega)
  rw [e2]; exact h
theorem t_isFound {post : Int32 → Prop} {ch a : Int32} (h0 : 0 ≤ ch.toInt) (h : post (bi (0 ≤ a.toInt ∧ a.toInt < ch.toInt))) : vc_M_isFound post ch a := by
  unfold vc_M_isFound
  refine t_within ⟨bi_nar, ?_⟩
  have e : (ch - 1).toInt = ch.toInt - 1 := z_sub (by simp; omega) (by have := z_ub ch; simp; omega)
  have e2 : bi ((0 : Int32).toInt ≤ a.toInt ∧ a.toInt ≤ (ch - 1).toInt) = bi (0 ≤ a.toInt ∧ a.toInt < ch.toInt) := by
    rw [e]; simp only [Int32.toInt_zero]
    exact bi_iff (by omega)
  rw [e2]; exact h
theorem t_isSample {post : Int32 → Prop} {ch a : Int32} (h0 : 0 ≤ ch.toInt) (h : post (bi (0 ≤ a.toInt ∧ a.toInt < ch.toInt))) : vc_M_isSample post ch a := by
  unfold vc_M_isSample
  refine t_within ⟨bi_nar, ?_⟩
  have e : (ch - 1).toInt = ch.toInt - 1 := z_sub (by simp; omega) (by have := z_ub ch; simp; omega)
  have e2 : bi ((0 : Int32).toInt ≤ a.toInt ∧ a.toInt ≤ (ch - 1).toInt) = bi (0 ≤ a.toInt ∧ a.toInt < ch.toInt) := by
    rw [e]; simp only [Int32.toInt_zero]
    exact bi_iff (by omega)
  rw [e2]; exact h
theorem t_goes2 {post : Int32 → Int32 → Prop} {t : Int32} {p q : Prop} [Decidable p] [Decidable q] (h1 : ¬ p → post 0 1) (h2 : p → ¬ q → post 0 2) (h3 : p → q → post 1 0) : vc_M_goes post t (bi p) (bi q) 1 := by
  unfold vc_M_goes
  intro J hJ
  simp only [bi_0, Classical.not_not]
  refine ⟨fun c => ⟨fun c2 => ⟨fun _ => hJ _ ⟨fun n => absurd rfl n, fun _ => h3 c c2⟩, fun n => absurd n (by decide)⟩, fun c2 => hJ _ ⟨fun _ => h2 c c2, fun n => absurd n (by decide)⟩⟩, fun c => hJ _ ⟨fun _ => h1 c, fun n => absurd n (by decide)⟩⟩
theorem t_goes1 {post : Int32 → Int32 → Prop} {t : Int32} {p : Prop} [Decidable p] (h1 : ¬ p → post 0 1) (h3 : p → post 1 0) : vc_M_goes post t (bi p) 1 1 := by
  have e : (1 : Int32) = bi True := (bi_t trivial).symm
  have h : vc_M_goes post t (bi p) (bi True) 1 := t_goes2 h1 (fun _ n => absurd trivial n) (fun c _ => h3 c)
  rw [← e] at h
  exact h
theorem fin_i {P : Prop} {k thr b : Int32} {out : Nat → Int64} (h1 : thr = k) (h2 : k = 0 → out 0 = b.toInt64) (hR : P) : vc_M_thrown (fun (r : Int32) => ((r = k → ((¬ k = 0 → P) ∧ (k = 0 → (vp_in (0 : Int32) 1 ∧ ((lg_cmp (out ((0 : Int32).toNatClampNeg)) b.toInt64 = 0 → P) ∧ (¬ lg_cmp (out ((0 : Int32).toNatClampNeg)) b.toInt64 = 0 → False)))))) ∧ (¬ r = k → False))) thr := by
  unfold vc_M_thrown
  refine ⟨fun _ => ⟨fun _ => hR, fun c => ⟨vp_in_iff.mpr (by decide), fun _ => hR, fun n => n ?_⟩⟩, fun n => n h1⟩
  show lg_cmp (out 0) b.toInt64 = 0
  rw [h2 c]; unfold lg_cmp
  simp [Int64.lt_irrefl]
theorem fin_l {P : Prop} {k thr : Int32} {b : Int64} {out : Nat → Int64} (h1 : thr = k) (h2 : k = 0 → out 0 = b) (hR : P) : vc_M_thrown (fun (r : Int32) => ((r = k → ((¬ k = 0 → P) ∧ (k = 0 → (vp_in (0 : Int32) 1 ∧ ((lg_cmp (out ((0 : Int32).toNatClampNeg)) b = 0 → P) ∧ (¬ lg_cmp (out ((0 : Int32).toNatClampNeg)) b = 0 → False)))))) ∧ (¬ r = k → False))) thr := by
  unfold vc_M_thrown
  refine ⟨fun _ => ⟨fun _ => hR, fun c => ⟨vp_in_iff.mpr (by decide), fun _ => hR, fun n => n ?_⟩⟩, fun n => n h1⟩
  show lg_cmp (out 0) b = 0
  rw [h2 c]; unfold lg_cmp
  simp [Int64.lt_irrefl]
theorem in_01 : vp_in (0 : Int32) 1 := vp_in_iff.mpr (by decide)
theorem out_0 {o : Nat → Int64} {v : Int64} : (vp_updL o ((0 : Int32).toNatClampNeg) v) 0 = v := by
  show (if 0 = (0 : Int32).toNatClampNeg then v else o 0) = v
  exact if_pos rfl
