theorem sq_nn (x : Int) : 0 ≤ x * x := by
  rcases Int.le_total 0 x with c | c
  · exact Int.mul_nonneg c c
  · have e : x * x = (-x) * (-x) := by grind
    rw [e]; exact Int.mul_nonneg (by omega) (by omega)
/-! fractions in lowest terms -/
theorem y_rem (a m : Int64) (ha : 0 ≤ a.toInt) (hm : 0 < m.toInt) : (a - a / m * m).toInt = a.toInt % m.toInt := by
  have hd : (a / m).toInt = a.toInt / m.toInt := by
    rw [Kit.i64_div (fun n => by omega), Int.tdiv_eq_ediv_of_nonneg ha]
  have h0 : 0 ≤ a.toInt / m.toInt := Int.ediv_nonneg ha (by omega)
  have hu := Int64.toInt_lt a
  have h1 : a.toInt / m.toInt * m.toInt ≤ a.toInt := Int.ediv_mul_le _ (by omega)
  have h2 : 0 ≤ a.toInt / m.toInt * m.toInt := Int.mul_nonneg h0 (by omega)
  have em : (a / m * m).toInt = a.toInt / m.toInt * m.toInt := by rw [y_mul, hd] <;> rw [hd] <;> omega
  rw [y_sub, em]
  · have := Int.mul_ediv_add_emod a.toInt m.toInt
    rw [Int.mul_comm] at this; omega
  · rw [em]; omega
  · rw [em]; omega
theorem x_gcd {post : Int64 → Prop} {u v : Int64} {a b : Nat} (hu : u.toInt = a) (hv : v.toInt = b) (h : ∀ g : Int64, g.toInt = Nat.gcd a b → post g) : vc_X_greatestDivisor post u v := by
  unfold vc_X_greatestDivisor
  have ha : a < 2 ^ 63 := by have := Int64.toInt_lt u; omega
  have hb : b < 2 ^ 63 := by have := Int64.toInt_lt v; omega
  refine vlp3_i (fun (y z : Int64) (s : Int32) => ∃ c d k : Nat, y.toInt = (c : Int) ∧ z.toInt = (d : Int) ∧ s = nI k ∧ k ≤ 200 ∧ Nat.gcd c d = Nat.gcd a b ∧ d < 2 ^ 63 ∧ (k = 0 ∨ (d < c ∧ c * d * 2 ^ (k - 1) ≤ 2 ^ 126))) (fun _ _ s => 300 - s.toNatClampNeg) ?_ _ _ _ ⟨a, b, 0, hu, hv, rfl, by omega, rfl, hb, Or.inl rfl⟩
  rintro R y z _ ⟨c, d, k, hy, hz, rfl, hk, hg, hd, hp⟩ hR
  rw [show (200 : Int32) = nI 200 from rfl, n_le (by omega) (by omega), cmp_eq, n_add1]
  have fin : d = 0 → post y := by
    rintro rfl
    refine h y ?_
    rw [hy, ← hg, Nat.gcd_zero_right]
  refine ⟨fun c1 => fin ?_, fun c1 => ⟨fun c2 => fin ?_, fun c2 => ⟨c2, fun x hx => ?_⟩⟩⟩
  · obtain rfl : k = 200 := by omega
    rcases hp with hp | ⟨h1, h2⟩
    · omega
    · rcases Nat.eq_zero_or_pos d with q | q
      · exact q
      · exfalso
        have h3 : 1 ≤ c * d := Nat.mul_pos (by omega) q
        have h4 : 1 * 2 ^ (200 - 1) ≤ c * d * 2 ^ (200 - 1) := Nat.mul_le_mul_right _ h3
        have h5 : (2 : Nat) ^ 126 < 1 * 2 ^ (200 - 1) := by decide +kernel
        omega
  · rw [y_eq, hz] at c2
    have : (d : Int) = 0 := c2
    omega
  · have hd0 : 0 < d := by
      rcases Nat.eq_zero_or_pos d with q | q
      · exact absurd (y_eq.mpr (by rw [hz, q]; rfl)) c2
      · exact q
    have ex : x.toInt = ((c % d : Nat) : Int) := by
      rw [hx, y_rem _ _ (by omega) (by omega), hy, hz]; rfl
    have hlt : c % d < d := Nat.mod_lt _ hd0
    refine hR _ _ _ ⟨d, c % d, k + 1, hz, ex, rfl, by omega, ?_, by omega, Or.inr ⟨hlt, ?_⟩⟩ (by rw [nI_clamp (by omega), nI_clamp (by omega)]; omega)
    · rw [← hg, Nat.gcd_comm d, ← Nat.gcd_rec, Nat.gcd_comm]
    · show d * (c % d) * 2 ^ k ≤ 2 ^ 126
      rcases hp with rfl | ⟨h1, h2⟩
      · have : d * (c % d) ≤ 2 ^ 63 * 2 ^ 63 := Nat.mul_le_mul (by omega) (by omega)
        have e : (2 : Nat) ^ 63 * 2 ^ 63 = 2 ^ 126 := by decide +kernel
        omega
      · have h2m : 2 * (c % d) ≤ c := by
          have := Nat.div_add_mod c d
          have hq : 1 ≤ c / d := (Nat.le_div_iff_mul_le hd0).mpr (by omega)
          have : d * 1 ≤ d * (c / d) := Nat.mul_le_mul_left _ hq
          omega
        rcases Nat.eq_zero_or_pos k with q | q
        · subst q
          have h4 : d * (2 * (c % d)) ≤ d * c := Nat.mul_le_mul_left _ h2m
          have h5 : c * d * 2 ^ (0 - 1) = d * c := by rw [Nat.mul_comm c d]; show d * c * 1 = _; omega
          have h6 : d * (2 * (c % d)) = 2 * (d * (c % d)) := by rw [Nat.mul_left_comm]
          have h7 : d * (c % d) * 2 ^ 0 = d * (c % d) := Nat.mul_one _
          omega
        · obtain ⟨j, rfl⟩ : ∃ j, k = j + 1 := ⟨k - 1, by omega⟩
          have e1 : d * (c % d) * 2 ^ (j + 1) = d * (2 * (c % d)) * 2 ^ j := by
            rw [Nat.pow_succ]
            simp only [Nat.mul_comm, Nat.mul_left_comm, Nat.mul_assoc]
          rw [e1]
          have e2 : c * d * 2 ^ (j + 1 - 1) = d * c * 2 ^ j := by rw [Nat.mul_comm c d]; rfl
          rw [e2] at h2
          exact Nat.le_trans (Nat.mul_le_mul_right _ (Nat.mul_le_mul_left _ h2m)) h2
theorem x_lessened {post : Int64 → Prop} {u v : Int64} {a b : Nat} {p : Int32} (hu : u.toInt = a) (hv : v.toInt = b) (hb : 0 < b) (h : ∀ g : Int64, g.toInt = Nat.gcd a b → post ((if p = 0 then u else v) / g)) : vc_X_lessened post u v p := by
  unfold vc_X_lessened
  refine x_gcd hu hv (fun g hg J hJ => ?_)
  have pos : 0 < Nat.gcd a b := Nat.gcd_pos_of_pos_right _ hb
  have k : J (if p = 0 then u else v) := by
    refine hJ _ ?_
    rw [cmp_le]
    refine ⟨fun c => ?_, fun c => ⟨fun e => ?_, h g hg⟩⟩
    · have : g.toInt ≤ 0 := c
      omega
    · rw [y_eq, hg] at e
      have : ((Nat.gcd a b : Nat) : Int) = 0 := e
      omega
  refine ⟨fun c => ?_, fun c => ?_⟩
  · rwa [if_neg c] at k
  · rwa [if_pos c] at k
theorem m_fraction {post : Int64 → Int64 → Prop} {x y : Int64} {u v : Int64} {a b : Nat} (hu : u.toInt = a) (hv : v.toInt = b) (hb : 0 < b) (h : ∀ g : Int64, g.toInt = Nat.gcd a b → post (u / g) (v / g)) : vc_M_fraction post x y u v := by
  unfold vc_M_fraction
  intro J hJ
  have pos : 0 < Nat.gcd a b := Nat.gcd_pos_of_pos_right _ hb
  rw [cmp_ge]
  refine ⟨fun _ => hJ _ ?_, fun c => absurd (show (0 : Int) ≤ u.toInt by omega) c⟩
  refine vlp2_i (fun (y z : Int64) => ∃ c d : Nat, y.toInt = (c : Int) ∧ z.toInt = (d : Int) ∧ Nat.gcd c d = Nat.gcd a b) (fun _ z => z.toInt.toNat) ?_ _ _ ⟨a, b, hu, hv, rfl⟩
  rintro R y z ⟨c, d, hy, hz, hg⟩ hR
  rw [cmp_eq]
  refine ⟨fun c2 => ?_, fun c2 => ⟨c2, fun x hx => ?_⟩⟩
  · rw [y_eq, hz] at c2
    have : (d : Int) = 0 := c2
    obtain rfl : d = 0 := by omega
    rw [Nat.gcd_zero_right] at hg
    have ne : ¬ y = 0 := fun e => by
      rw [y_eq, hy] at e
      have : (c : Int) = 0 := e
      omega
    exact ⟨ne, ne, h y (by rw [hy, hg])⟩
  · have hd0 : 0 < d := by
      rcases Nat.eq_zero_or_pos d with q | q
      · exact absurd (y_eq.mpr (by rw [hz, q]; rfl)) c2
      · exact q
    have ex : x.toInt = ((c % d : Nat) : Int) := by
      rw [hx, y_rem _ _ (by omega) (by omega), hy, hz]; rfl
    have hlt : c % d < d := Nat.mod_lt _ hd0
    refine hR _ _ ⟨d, c % d, hz, ex, ?_⟩ (by rw [ex, hz]; omega)
    rw [← hg, Nat.gcd_comm d, ← Nat.gcd_rec, Nat.gcd_comm]
/-! samples apart -/
def apf (ca cb cc : Int64) (m : Nat → Nat → Int32) (i j : Nat) : Int64 :=
  (((cc * (m 0 i - m 0 j).toInt64) * (m 0 i - m 0 j).toInt64) - (((2 * cb) * (m 0 i - m 0 j).toInt64) * (m 1 i - m 1 j).toInt64)) + ((ca * (m 1 i - m 1 j).toInt64) * (m 1 i - m 1 j).toInt64)
theorem x_apart {post : Int64 → Prop} {ca cb cc : Int64} {m : Nat → Nat → Int32} {i j : Nat} (hi : i < 12) (hj : j < 12) (h : post (apf ca cb cc m i j)) : vc_XSa_apartAbove post ca cb cc m (nI i) (nI j) := by
  unfold vc_XSa_apartAbove
  have ii : vp_in (nI i) 12 := in_nI hi (by omega)
  have ij : vp_in (nI j) 12 := in_nI hj (by omega)
  rw [nI_clamp (show i < 2 ^ 31 by omega), nI_clamp (show j < 2 ^ 31 by omega)]
  refine ⟨vp_in_iff.mpr (by decide), ii, vp_in_iff.mpr (by decide), ij, fun x hx => ⟨vp_in_iff.mpr (by decide), ii, vp_in_iff.mpr (by decide), ij, fun y hy => ?_⟩⟩
  rw [hx, hy]; exact h
theorem m_apart {post : Int64 → Prop} {a b c : Int32} {m : Nat → Nat → Int32} {mm : Nat → Int32} {i j : Nat} (hm : ∀ i k, i < 12 → k < 2 → m k i = mm (2 * i + k)) (hi : i < 12) (hj : j < 12) (h : post (apf a.toInt64 b.toInt64 c.toInt64 m i j)) : vc_M_apart post a b c mm (nI i) (nI j) := by
  unfold vc_M_apart
  have e2 : ∀ k, k < 12 → (2 : Int32) * nI k = nI (2 * k) := fun k hk => by
    have ek : (nI k).toInt = k := nI_toInt (by omega)
    rw [z_eq, z_mulc (n := 2) rfl (by omega) (by omega), ek, nI_toInt (by omega)]; omega
  rw [e2 i hi, e2 j hj, n_add1, n_add1, nI_clamp (by omega), nI_clamp (by omega), nI_clamp (by omega), nI_clamp (by omega)]
  refine ⟨in_nI (by omega) (by omega), in_nI (by omega) (by omega), fun x hx => ⟨in_nI (by omega) (by omega), in_nI (by omega) (by omega), fun y hy => ?_⟩⟩
  rw [hx, hy, ← hm i 1 hi (by omega), ← hm j 1 hj (by omega), show mm (2 * i) = m 0 i from (hm i 0 hi (by omega)).symm, show mm (2 * j) = m 0 j from (hm j 0 hj (by omega)).symm]
  exact h
theorem form_nonneg {a b c x y : Int} (ha : 0 < a) (hd : 0 < a * c - b * b) : 0 ≤ c * x * x - 2 * b * x * y + a * y * y := by
  have e : a * (c * x * x - 2 * b * x * y + a * y * y) = (a * y - b * x) * (a * y - b * x) + (a * c - b * b) * (x * x) := by grind
  have h1 : 0 ≤ (a * y - b * x) * (a * y - b * x) := sq_nn _
  have h2 : 0 ≤ (a * c - b * b) * (x * x) := Int.mul_nonneg (by omega) (sq_nn _)
  have h3 : 0 ≤ a * (c * x * x - 2 * b * x * y + a * y * y) := by omega
  exact Int.nonneg_of_mul_nonneg_right h3 ha
theorem mul_bd {x y X Y : Int} (hx : -X ≤ x) (hx' : x ≤ X) (hy : -Y ≤ y) (hy' : y ≤ Y) : -(X * Y) ≤ x * y ∧ x * y ≤ X * Y := by
  have hX : 0 ≤ X := by omega
  have hY : 0 ≤ Y := by omega
  have h1 : 0 ≤ (X - x) * (Y - y) := Int.mul_nonneg (by omega) (by omega)
  have h2 : 0 ≤ (X + x) * (Y + y) := Int.mul_nonneg (by omega) (by omega)
  have h3 : 0 ≤ (X - x) * (Y + y) := Int.mul_nonneg (by omega) (by omega)
  have h4 : 0 ≤ (X + x) * (Y - y) := Int.mul_nonneg (by omega) (by omega)
  have e1 : (X - x) * (Y - y) + (X + x) * (Y + y) = 2 * (X * Y) + 2 * (x * y) := by grind
  have e2 : (X - x) * (Y + y) + (X + x) * (Y - y) = 2 * (X * Y) - 2 * (x * y) := by grind
  constructor <;> omega
/-- no overflow in the distance -/
theorem apf_i {a b c : Int32} {m : Nat → Nat → Int32} (ha : 1 ≤ a.toInt ∧ a.toInt ≤ 1000) (hb : -1000 ≤ b.toInt ∧ b.toInt ≤ 1000) (hc : 1 ≤ c.toInt ∧ c.toInt ≤ 1000) (hm : ∀ i k, i < 12 → k < 2 → -1000 ≤ (m k i).toInt ∧ (m k i).toInt ≤ 1000) {i j : Nat} (hi : i < 12) (hj : j < 12) : (apf a.toInt64 b.toInt64 c.toInt64 m i j).toInt = c.toInt * ((m 0 i).toInt - (m 0 j).toInt) * ((m 0 i).toInt - (m 0 j).toInt) - 2 * b.toInt * ((m 0 i).toInt - (m 0 j).toInt) * ((m 1 i).toInt - (m 1 j).toInt) + a.toInt * ((m 1 i).toInt - (m 1 j).toInt) * ((m 1 i).toInt - (m 1 j).toInt) := by
  unfold apf
  have m1 := hm i 0 hi (by omega); have m2 := hm j 0 hj (by omega)
  have m3 := hm i 1 hi (by omega); have m4 := hm j 1 hj (by omega)
  have ex : (m 0 i - m 0 j).toInt64.toInt = (m 0 i).toInt - (m 0 j).toInt := by rw [z64]; exact z_sub (by omega) (by omega)
  have ey : (m 1 i - m 1 j).toInt64.toInt = (m 1 i).toInt - (m 1 j).toInt := by rw [z64]; exact z_sub (by omega) (by omega)
  have hx : -2000 ≤ (m 0 i).toInt - (m 0 j).toInt ∧ (m 0 i).toInt - (m 0 j).toInt ≤ 2000 := by omega
  have hy : -2000 ≤ (m 1 i).toInt - (m 1 j).toInt ∧ (m 1 i).toInt - (m 1 j).toInt ≤ 2000 := by omega
  generalize (m 0 i - m 0 j).toInt64 = X at *
  generalize (m 1 i - m 1 j).toInt64 = Y at *
  generalize (m 0 i).toInt - (m 0 j).toInt = x at *
  generalize (m 1 i).toInt - (m 1 j).toInt = y at *
  have eA : a.toInt64.toInt = a.toInt := z64 a
  have eB : b.toInt64.toInt = b.toInt := z64 b
  have eC : c.toInt64.toInt = c.toInt := z64 c
  generalize a.toInt64 = A at *
  generalize b.toInt64 = B at *
  generalize c.toInt64 = C at *
  generalize a.toInt = a' at *
  generalize b.toInt = b' at *
  generalize c.toInt = c' at *
  have k1 := mul_bd (X := 1000) (Y := 2000) (by omega : (-1000 : Int) ≤ c') (by omega) hx.1 hx.2
  have k2 := mul_bd (X := 1000 * 2000) (Y := 2000) k1.1 k1.2 hx.1 hx.2
  have k3 := mul_bd (X := 2000) (Y := 2000) (by omega : (-2000 : Int) ≤ 2 * b') (by omega) hx.1 hx.2
  have k4 := mul_bd (X := 2000 * 2000) (Y := 2000) k3.1 k3.2 hy.1 hy.2
  have k5 := mul_bd (X := 1000) (Y := 2000) (by omega : (-1000 : Int) ≤ a') (by omega) hy.1 hy.2
  have k6 := mul_bd (X := 1000 * 2000) (Y := 2000) k5.1 k5.2 hy.1 hy.2
  have f1 : (C * X).toInt = c' * x := by rw [y_mul, eC, ex] <;> rw [eC, ex] <;> omega
  have f2 : (C * X * X).toInt = c' * x * x := by rw [y_mul, f1, ex] <;> rw [f1, ex] <;> omega
  have f0 : (2 * B).toInt = 2 * b' := by
    rw [y_mul]
    · show 2 * B.toInt = _; rw [eB]
    · show _ ≤ 2 * B.toInt; rw [eB]; omega
    · show 2 * B.toInt ≤ _; rw [eB]; omega
  have f3 : (2 * B * X).toInt = 2 * b' * x := by rw [y_mul, f0, ex] <;> rw [f0, ex] <;> omega
  have f4 : (2 * B * X * Y).toInt = 2 * b' * x * y := by rw [y_mul, f3, ey] <;> rw [f3, ey] <;> omega
  have f5 : (A * Y).toInt = a' * y := by rw [y_mul, eA, ey] <;> rw [eA, ey] <;> omega
  have f6 : (A * Y * Y).toInt = a' * y * y := by rw [y_mul, f5, ey] <;> rw [f5, ey] <;> omega
  have f7 : (C * X * X - 2 * B * X * Y).toInt = c' * x * x - 2 * b' * x * y := by rw [y_sub, f2, f4] <;> rw [f2, f4] <;> omega
  rw [y_add, f7, f6] <;> rw [f7, f6] <;> omega
theorem det_i {a b c : Int32} (ha : 1 ≤ a.toInt ∧ a.toInt ≤ 1000) (hb : -1000 ≤ b.toInt ∧ b.toInt ≤ 1000) (hc : 1 ≤ c.toInt ∧ c.toInt ≤ 1000) : (a.toInt64 * c.toInt64 - b.toInt64 * b.toInt64).toInt = a.toInt * c.toInt - b.toInt * b.toInt ∧ (a * c - b * b).toInt64.toInt = a.toInt * c.toInt - b.toInt * b.toInt := by
  have k1 := mul_bd (X := 1000) (Y := 1000) (by omega : (-1000 : Int) ≤ a.toInt) (by omega) (by omega : (-1000 : Int) ≤ c.toInt) (by omega)
  have k2 := mul_bd (X := 1000) (Y := 1000) (by omega : (-1000 : Int) ≤ b.toInt) (by omega) (by omega : (-1000 : Int) ≤ b.toInt) (by omega)
  constructor
  · have e1 : (a.toInt64 * c.toInt64).toInt = a.toInt * c.toInt := by rw [y_mul, z64, z64] <;> rw [z64, z64] <;> omega
    have e2 : (b.toInt64 * b.toInt64).toInt = b.toInt * b.toInt := by rw [y_mul, z64] <;> rw [z64] <;> omega
    rw [y_sub, e1, e2] <;> rw [e1, e2] <;> omega
  · rw [z64]
    have e1 : (a * c).toInt = a.toInt * c.toInt := z_mul (by omega) (by omega)
    have e2 : (b * b).toInt = b.toInt * b.toInt := z_mul (by omega) (by omega)
    rw [z_sub, e1, e2] <;> rw [e1, e2] <;> omega
theorem m_share {post : Int64 → Int32 → Int64 → Int64 → Prop} {thr : Int32} {l : Nat} {s : Int32} {sp : Prop} [Decidable sp] {un x y : Int64} {ab : Nat → Int64} {a p : Int32} (hl : l ≤ 3) (hs : s = bi sp) (h1 : ¬ ((0 ≤ a.toInt ∧ a.toInt < l) ∧ (0 ≤ p.toInt ∧ p.toInt ≤ 1)) → post 0 1 x y) (h2 : (0 ≤ a.toInt ∧ a.toInt < l) ∧ (0 ≤ p.toInt ∧ p.toInt ≤ 1) → ¬ sp → post 0 2 x y) (h3 : ∀ i, i < l → a = nI i → (0 ≤ p.toInt ∧ p.toInt ≤ 1) → sp → vc_M_fraction (fun v w => ((¬ p = 0 → post w 0 v w) ∧ (p = 0 → post v 0 v w))) x y (ab i) un) : vc_M_share post thr (nI l) s un x y ab a p := by
  unfold vc_M_share
  have el : (nI l).toInt = l := nI_toInt (by omega)
  have e : (nI l - 1).toInt = (l : Int) - 1 := by
    rw [z_sub, el]; rfl
    · rw [el]; show _ ≤ (l : Int) - 1; omega
    · rw [el]; show (l : Int) - 1 ≤ _; omega
  refine t_within (fun J hJ => ?_)
  rw [e, show bi ((0 : Int32).toInt ≤ a.toInt ∧ a.toInt ≤ (l : Int) - 1) = bi (0 ≤ a.toInt ∧ a.toInt < l) from by simp only [Int32.toInt_zero]; exact bi_iff (by omega)]
  subst hs
  refine t_and (p := 0 ≤ a.toInt ∧ a.toInt < l) (q := 0 ≤ p.toInt ∧ p.toInt ≤ 1) (K := fun post => vc_M_within post p 0 1) (fun post h => t_within h) (hJ _ ?_)
  refine t_goes2 (fun c => ⟨fun n => absurd rfl n, fun _ => h1 c⟩) (fun c c2 => ⟨fun n => absurd rfl n, fun _ => h2 c c2⟩) (fun c c2 => ⟨fun _ => ?_, fun n => absurd n (by decide)⟩)
  obtain ⟨i, hi, ei, rfl⟩ := z_nat c.1.1
  rw [nI_clamp hi]
  exact ⟨in_nI (by omega) (by omega), h3 i (by omega) rfl c.2 c2⟩
theorem m_distance {post : Int64 → Int32 → Int64 → Int64 → Prop} {thr : Int32} {s : Nat} {ma mb mc : Int32} {x y : Int64} {mm : Nat → Int32} {a b p : Int32} (hs : s ≤ 12) (h1 : ¬ ((0 ≤ a.toInt ∧ a.toInt < s) ∧ (0 ≤ b.toInt ∧ b.toInt < s) ∧ (0 ≤ p.toInt ∧ p.toInt ≤ 1)) → post 0 1 x y) (h3 : ∀ i j, i < s → j < s → a = nI i → b = nI j → (0 ≤ p.toInt ∧ p.toInt ≤ 1) → vc_M_apart (fun r => vc_M_fraction (fun v w => ((¬ p = 0 → post w 0 v w) ∧ (p = 0 → post v 0 v w))) x y r (ma * mc - mb * mb).toInt64) ma mb mc mm (nI i) (nI j)) : vc_M_distance post thr (nI s) ma mb mc x y mm a b p := by
  unfold vc_M_distance
  have el : (nI s).toInt = s := nI_toInt (by omega)
  refine t_isSample (by omega) (fun J hJ => ?_)
  rw [el]
  have k := hJ (bi ((0 ≤ a.toInt ∧ a.toInt < s) ∧ (0 ≤ b.toInt ∧ b.toInt < s) ∧ (0 ≤ p.toInt ∧ p.toInt ≤ 1))) (t_goes1 (fun c => ⟨fun n => absurd rfl n, fun _ => h1 c⟩) (fun c => ⟨fun _ => by
    obtain ⟨i, hi, ei, rfl⟩ := z_nat c.1.1
    obtain ⟨j, hj, ej, rfl⟩ := z_nat c.2.1.1
    exact h3 i j (by omega) (by omega) rfl rfl c.2.2, fun n => absurd n (by decide)⟩))
  intro J2 hJ2
  simp only [bi_0, Classical.not_not]
  refine ⟨fun c => hJ2 ?_, fun c => t_isSample (by omega) ?_⟩
  · rwa [bi_f (fun q => c q.1)] at k
  · rw [el]
    simp only [bi_0, Classical.not_not]
    refine ⟨fun c2 => hJ2 ?_, fun c2 => t_within ?_⟩
    · rwa [bi_f (fun q => c2 q.2.1)] at k
    · simp only [bi_0, Classical.not_not]
      refine ⟨fun c3 => hJ2 ?_, fun c3 => ?_⟩
      · rwa [bi_f (fun q => c3 q.2.2)] at k
      · rwa [bi_t ⟨c, c2, c3⟩] at k
theorem pc_11 {R : Int32 → (Nat → Int32) → (Nat → Int32) → (Nat → Int32) → Int32 → (Nat → Nat → Int32) → (Nat → Int32) → (Nat → Nat → Int32) → Int64 → Int32 → Int32 → (Nat → Nat → Int32) → (Nat → Int64) → (Nat → Nat → Int64) → (Nat → Int64) → (Nat → Nat → Int64) → (Nat → Int64) → Int32 → Int64 → Int64 → Int64 → (Nat → Nat → Int32) → (Nat → Int32) → Int32 → (Nat → Int32) → (Nat → Int32) → Int32 → Int32 → Int32 → Int32 → Int32 → Int64 → Int32 → Int32 → Int32 → Int32 → Int32 → Int64 → Int64 → (Nat → Int32) → (Nat → Int32) → (Nat → Int32) → (Nat → Int32) → (Nat → Int32) → (Nat → Int32) → (Nat → Int32) → (Nat → Int64) → (Nat → Int64) → (Nat → Int32) → (Nat → Int32) → (Nat → Int32) → (Nat → Int64) → Prop} {xs : Nat → Int32} {L N : Nat} {ch : Int32} {cnt : Nat → Int32} {gr : Nat → Int32} {fm : Nat → Int32} {fsz : Int32} {rows : Nat → Nat → Int32} {szs : Nat → Int32} {lns : Nat → Nat → Int32} {below : Int64} {msz : Int32} {solved : Int32} {ents : Nat → Nat → Int32} {above : Nat → Int64} {prods : Nat → Nat → Int64} {mats : Nat → Int64} {sys : Nat → Nat → Int64} {rgt : Nat → Int64} {csz : Int32} {ca : Int64} {cb : Int64} {cc : Int64} {meas : Nat → Nat → Int32} {joined : Nat → Int32} {dsz : Int32} {days : Nat → Int32} {facs : Nat → Int32} {thr : Int32} {mch : Int32} {pks : Int32} {libs : Int32} {msolved : Int32} {under : Int64} {smps : Int32} {ma : Int32} {mb : Int32} {mc : Int32} {stds : Int32} {mabove : Int64} {mbelow : Int64} {mcnt : Nat → Int32} {mbk : Nat → Int32} {mnx : Nat → Int32} {mfnd : Nat → Int32} {mlns : Nat → Int32} {mlm : Nat → Int32} {ments : Nat → Int32} {sums : Nat → Int64} {mabs : Nat → Int64} {mmeas : Nat → Int32} {mdays : Nat → Int32} {mfacs : Nat → Int32} {out : Nat → Int64} {y4 : Int32} (hI : pI N ch cnt gr fm fsz rows szs lns below msz solved ents above prods mats sys rgt csz ca cb cc meas joined dsz days facs thr mch pks libs msolved under smps ma mb mc stds mabove mbelow mcnt mbk mnx mfnd mlns mlm ments sums mabs mmeas mdays mfacs out) (hR : ∀ {ch cnt gr fm fsz rows szs lns below msz solved ents above prods mats sys rgt csz ca cb cc meas joined dsz days facs thr mch pks libs msolved under smps ma mb mc stds mabove mbelow mcnt mbk mnx mfnd mlns mlm ments sums mabs mmeas mdays mfacs out}, pI N ch cnt gr fm fsz rows szs lns below msz solved ents above prods mats sys rgt csz ca cb cc meas joined dsz days facs thr mch pks libs msolved under smps ma mb mc stds mabove mbelow mcnt mbk mnx mfnd mlns mlm ments sums mabs mmeas mdays mfacs out → R ch cnt gr fm fsz rows szs lns below msz solved ents above prods mats sys rgt csz ca cb cc meas joined dsz days facs thr mch pks libs msolved under smps ma mb mc stds mabove mbelow mcnt mbk mnx mfnd mlns mlm ments sums mabs mmeas mdays mfacs out) (hy1 : vp_in (y4 + (1 : Int32)) L) (hy2 : vp_in (y4 + (2 : Int32)) L) (hy3 : vp_in (y4 + (3 : Int32)) L) : vc_L_case_11 R xs L N ch cnt gr fm fsz rows szs lns below msz solved ents above prods mats sys rgt csz ca cb cc meas joined dsz days facs thr mch pks libs msolved under smps ma mb mc stds mabove mbelow mcnt mbk mnx mfnd mlns mlm ments sums mabs mmeas mdays mfacs out y4 := by
  unfold vc_L_case_11
  obtain ⟨hSp, hPe, hLi, hMi, hSa, hSt⟩ := hI
  unfold vc_L_share vc_X_share
  generalize xs ((y4 + (1 : Int32)).toNatClampNeg) = a1
  generalize xs ((y4 + (2 : Int32)).toNatClampNeg) = a2
  obtain ⟨l, hl, rfl, rfl, he, hz, hs⟩ := id hMi
  have el : (nI l).toInt = l := nI_toInt (by omega)
  have hsp : solved = bi (solved = 1) ∧ msolved = bi (solved = 1) := by
    rcases hs with ⟨e1, e2⟩ | ⟨e1, e2, _⟩
    · rw [e1, e2]; exact ⟨rfl, rfl⟩
    · rw [e1, e2]; exact ⟨rfl, rfl⟩
  refine ⟨hy1, hy2, t_needIndex (fun i1 i2 => t_needIndex (fun j1 (j2 : a2.toInt < 2) => t_needState (fun q => ?_) (fun q => ?_)) (fun (j : ¬ (0 ≤ a2.toInt ∧ a2.toInt < 2)) => ?_)) (fun i => ?_)⟩
  · rcases hs with ⟨e1, e2⟩ | ⟨e1, e2, eb, hb0, hbm, hab⟩
    · exact absurd e1 q
    · obtain ⟨i, hi, ei, rfl⟩ := z_nat i1
      obtain ⟨ha, ha0, ham⟩ := hab i (by omega)
      obtain ⟨x, hx⟩ : ∃ x : Nat, (above i).toInt = x := ⟨(above i).toInt.toNat, by omega⟩
      obtain ⟨y, hy⟩ : ∃ y : Nat, below.toInt = y := ⟨below.toInt.toNat, by omega⟩
      rw [nI_clamp hi]
      refine ⟨in_nI (by omega) (by omega), x_lessened hx hy (by omega) (fun g hg => ⟨in_01, hy1, hy2, m_share hl hsp.2 (fun n => absurd ⟨⟨i1, by omega⟩, j1, by omega⟩ n) (fun _ n => absurd e1 n) (fun i' hi' ee _ _ => ?_)⟩)⟩
      obtain rfl : i = i' := (n_eq (by omega) (by omega)).mp ee
      refine m_fraction (a := x) (b := y) (by rw [← ha]; exact hx) (by rw [← eb]; exact hy) (by omega) (fun g' hg' => ?_)
      have egg : g = g' := y_eq.mpr (by rw [hg, hg'])
      subst egg
      refine ⟨fun c => fin_l rfl (fun _ => ?_) (hR ⟨hSp, hPe, hLi, hMi, hSa, hSt⟩), fun c => fin_l rfl (fun _ => ?_) (hR ⟨hSp, hPe, hLi, hMi, hSa, hSt⟩)⟩
      · rw [out_0, if_neg c, eb]
      · rw [out_0, if_pos c, ha]
  · rw [q] at hsp
    exact Or.inr ⟨rfl, hy1, hy2, m_share (sp := (0 : Int32) = 1) hl hsp.2 (fun n => absurd ⟨⟨i1, by omega⟩, j1, by omega⟩ n) (fun _ _ => fin_l rfl (fun n => absurd n (by decide)) (hR ⟨hSp, hPe, hLi, hMi, hSa, hSt⟩)) (fun _ _ _ _ n => absurd n (by decide))⟩
  · exact Or.inl ⟨rfl, hy1, hy2, m_share hl hsp.2 (fun _ => fin_l rfl (fun n => absurd n (by decide)) (hR ⟨hSp, hPe, hLi, hMi, hSa, hSt⟩)) (fun n => absurd (by omega) j) (fun _ _ _ n => absurd (by omega) j)⟩
  · exact Or.inl ⟨rfl, hy1, hy2, m_share hl hsp.2 (fun _ => fin_l rfl (fun n => absurd n (by decide)) (hR ⟨hSp, hPe, hLi, hMi, hSa, hSt⟩)) (fun n => absurd (by omega) i) (fun i' hi' ee _ => absurd (by rw [ee, nI_toInt (by omega)]; omega) i)⟩
theorem pc_16 {R : Int32 → (Nat → Int32) → (Nat → Int32) → (Nat → Int32) → Int32 → (Nat → Nat → Int32) → (Nat → Int32) → (Nat → Nat → Int32) → Int64 → Int32 → Int32 → (Nat → Nat → Int32) → (Nat → Int64) → (Nat → Nat → Int64) → (Nat → Int64) → (Nat → Nat → Int64) → (Nat → Int64) → Int32 → Int64 → Int64 → Int64 → (Nat → Nat → Int32) → (Nat → Int32) → Int32 → (Nat → Int32) → (Nat → Int32) → Int32 → Int32 → Int32 → Int32 → Int32 → Int64 → Int32 → Int32 → Int32 → Int32 → Int32 → Int64 → Int64 → (Nat → Int32) → (Nat → Int32) → (Nat → Int32) → (Nat → Int32) → (Nat → Int32) → (Nat → Int32) → (Nat → Int32) → (Nat → Int64) → (Nat → Int64) → (Nat → Int32) → (Nat → Int32) → (Nat → Int32) → (Nat → Int64) → Prop} {xs : Nat → Int32} {L N : Nat} {ch : Int32} {cnt : Nat → Int32} {gr : Nat → Int32} {fm : Nat → Int32} {fsz : Int32} {rows : Nat → Nat → Int32} {szs : Nat → Int32} {lns : Nat → Nat → Int32} {below : Int64} {msz : Int32} {solved : Int32} {ents : Nat → Nat → Int32} {above : Nat → Int64} {prods : Nat → Nat → Int64} {mats : Nat → Int64} {sys : Nat → Nat → Int64} {rgt : Nat → Int64} {csz : Int32} {ca : Int64} {cb : Int64} {cc : Int64} {meas : Nat → Nat → Int32} {joined : Nat → Int32} {dsz : Int32} {days : Nat → Int32} {facs : Nat → Int32} {thr : Int32} {mch : Int32} {pks : Int32} {libs : Int32} {msolved : Int32} {under : Int64} {smps : Int32} {ma : Int32} {mb : Int32} {mc : Int32} {stds : Int32} {mabove : Int64} {mbelow : Int64} {mcnt : Nat → Int32} {mbk : Nat → Int32} {mnx : Nat → Int32} {mfnd : Nat → Int32} {mlns : Nat → Int32} {mlm : Nat → Int32} {ments : Nat → Int32} {sums : Nat → Int64} {mabs : Nat → Int64} {mmeas : Nat → Int32} {mdays : Nat → Int32} {mfacs : Nat → Int32} {out : Nat → Int64} {y4 : Int32} (hI : pI N ch cnt gr fm fsz rows szs lns below msz solved ents above prods mats sys rgt csz ca cb cc meas joined dsz days facs thr mch pks libs msolved under smps ma mb mc stds mabove mbelow mcnt mbk mnx mfnd mlns mlm ments sums mabs mmeas mdays mfacs out) (hR : ∀ {ch cnt gr fm fsz rows szs lns below msz solved ents above prods mats sys rgt csz ca cb cc meas joined dsz days facs thr mch pks libs msolved under smps ma mb mc stds mabove mbelow mcnt mbk mnx mfnd mlns mlm ments sums mabs mmeas mdays mfacs out}, pI N ch cnt gr fm fsz rows szs lns below msz solved ents above prods mats sys rgt csz ca cb cc meas joined dsz days facs thr mch pks libs msolved under smps ma mb mc stds mabove mbelow mcnt mbk mnx mfnd mlns mlm ments sums mabs mmeas mdays mfacs out → R ch cnt gr fm fsz rows szs lns below msz solved ents above prods mats sys rgt csz ca cb cc meas joined dsz days facs thr mch pks libs msolved under smps ma mb mc stds mabove mbelow mcnt mbk mnx mfnd mlns mlm ments sums mabs mmeas mdays mfacs out) (hy1 : vp_in (y4 + (1 : Int32)) L) (hy2 : vp_in (y4 + (2 : Int32)) L) (hy3 : vp_in (y4 + (3 : Int32)) L) : vc_L_case_16 R xs L N ch cnt gr fm fsz rows szs lns below msz solved ents above prods mats sys rgt csz ca cb cc meas joined dsz days facs thr mch pks libs msolved under smps ma mb mc stds mabove mbelow mcnt mbk mnx mfnd mlns mlm ments sums mabs mmeas mdays mfacs out y4 := by
  unfold vc_L_case_16
  obtain ⟨hSp, hPe, hLi, hMi, hSa, hSt⟩ := hI
  unfold vc_L_distance vc_X_distance
  generalize xs ((y4 + (1 : Int32)).toNatClampNeg) = a1
  generalize xs ((y4 + (2 : Int32)).toNatClampNeg) = a2
  generalize xs ((y4 + (3 : Int32)).toNatClampNeg) = a3
  obtain ⟨l, hl, rfl, rfl, rfl, rfl, rfl, ha1, ha2, hb1, hb2, hc1, hc2, hd, hm⟩ := id hSa
  have el : (nI l).toInt = l := nI_toInt (by omega)
  have hm1 : ∀ i k, i < 12 → k < 2 → meas k i = mmeas (2 * i + k) := fun i k hi hk => (hm i k hi hk).1
  have hm2 : ∀ i k, i < 12 → k < 2 → -1000 ≤ (meas k i).toInt ∧ (meas k i).toInt ≤ 1000 := fun i k hi hk => (hm i k hi hk).2
  have hdet := det_i ⟨ha1, ha2⟩ ⟨hb1, hb2⟩ ⟨hc1, hc2⟩
  refine ⟨hy1, hy2, hy3, t_needIndex (fun i1 i2 => t_needIndex (fun j1 j2 => t_needIndex (fun p1 (p2 : a3.toInt < 2) => ?_) (fun (p : ¬ (0 ≤ a3.toInt ∧ a3.toInt < 2)) => ?_)) (fun j => ?_)) (fun i => ?_)⟩
  · obtain ⟨i, hi, ei, rfl⟩ := z_nat i1
    obtain ⟨j, hj, ej, rfl⟩ := z_nat j1
    refine x_apart (by omega) (by omega) ?_
    unfold vc_XSa_apartBelow
    have hn : 0 ≤ (apf ma.toInt64 mb.toInt64 mc.toInt64 meas i j).toInt := by
      rw [apf_i ⟨ha1, ha2⟩ ⟨hb1, hb2⟩ ⟨hc1, hc2⟩ hm2 (by omega) (by omega)]
      exact form_nonneg (by omega) hd
    obtain ⟨x, hx⟩ : ∃ x : Nat, (apf ma.toInt64 mb.toInt64 mc.toInt64 meas i j).toInt = x := ⟨(apf ma.toInt64 mb.toInt64 mc.toInt64 meas i j).toInt.toNat, by omega⟩
    obtain ⟨y, hy⟩ : ∃ y : Nat, ma.toInt * mc.toInt - mb.toInt * mb.toInt = y := ⟨(ma.toInt * mc.toInt - mb.toInt * mb.toInt).toNat, by omega⟩
    refine x_lessened hx (hdet.1.trans hy) (by omega) (fun g hg => ⟨in_01, hy1, hy2, hy3, m_distance hl (fun n => absurd ⟨⟨i1, by omega⟩, ⟨j1, by omega⟩, p1, by omega⟩ n) (fun i' j' hi' hj' ei' ej' _ => ?_)⟩)
    obtain rfl : i = i' := (n_eq (by omega) (by omega)).mp ei'
    obtain rfl : j = j' := (n_eq (by omega) (by omega)).mp ej'
    refine m_apart hm1 (by omega) (by omega) (m_fraction hx (hdet.2.trans hy) (by omega) (fun g' hg' => ?_))
    have egg : g = g' := y_eq.mpr (by rw [hg, hg'])
    subst egg
    have ed : ma.toInt64 * mc.toInt64 - mb.toInt64 * mb.toInt64 = (ma * mc - mb * mb).toInt64 := y_eq.mpr (by rw [hdet.1, hdet.2])
    refine ⟨fun c => fin_l rfl (fun _ => ?_) (hR ⟨hSp, hPe, hLi, hMi, hSa, hSt⟩), fun c => fin_l rfl (fun _ => ?_) (hR ⟨hSp, hPe, hLi, hMi, hSa, hSt⟩)⟩
    · rw [out_0, if_neg c, ed]
    · rw [out_0, if_pos c]
  · exact ⟨rfl, hy1, hy2, hy3, m_distance hl (fun _ => fin_l rfl (fun n => absurd n (by decide)) (hR ⟨hSp, hPe, hLi, hMi, hSa, hSt⟩)) (fun _ _ _ _ _ _ n => absurd (by omega) p)⟩
  · exact ⟨rfl, hy1, hy2, hy3, m_distance hl (fun _ => fin_l rfl (fun n => absurd n (by decide)) (hR ⟨hSp, hPe, hLi, hMi, hSa, hSt⟩)) (fun i' j' hi' hj' ei' ej' _ => absurd (by rw [ej', nI_toInt (by omega)]; omega) j)⟩
  · exact ⟨rfl, hy1, hy2, hy3, m_distance hl (fun _ => fin_l rfl (fun n => absurd n (by decide)) (hR ⟨hSp, hPe, hLi, hMi, hSa, hSt⟩)) (fun i' j' hi' hj' ei' ej' _ => absurd (by rw [ei', nI_toInt (by omega)]; omega) i)⟩
