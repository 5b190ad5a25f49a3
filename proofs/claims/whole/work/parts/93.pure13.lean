/-! sums of products -/
def dt (f g : Nat → Int) : Nat → Int
  | 0 => 0
  | n + 1 => dt f g n + f n * g n
theorem dt_b {f g : Nat → Int} {F : Int} : ∀ n, (∀ k, k < n → 0 ≤ f k * g k ∧ f k * g k ≤ F) → 0 ≤ dt f g n ∧ dt f g n ≤ F * n
  | 0, _ => ⟨Int.le_refl 0, by show (0 : Int) ≤ F * 0; omega⟩
  | n + 1, h => by
    have ih := dt_b n (fun k hk => h k (by omega))
    have hn := h n (by omega)
    have e : F * ((n + 1 : Nat) : Int) = F * n + F := by
      rw [show ((n + 1 : Nat) : Int) = (n : Int) + 1 from rfl, Int.mul_add, Int.mul_one]
    show 0 ≤ dt f g n + f n * g n ∧ dt f g n + f n * g n ≤ _
    omega
theorem dt_comm {f g : Nat → Int} : ∀ n, dt f g n = dt g f n
  | 0 => rfl
  | n + 1 => by show dt f g n + f n * g n = dt g f n + g n * f n; rw [dt_comm n, Int.mul_comm]
theorem dt_zero {f g : Nat → Int} : ∀ n, (∀ k, k < n → f k = 0) → dt f g n = 0
  | 0, _ => rfl
  | n + 1, h => by show dt f g n + f n * g n = 0; rw [dt_zero n (fun k hk => h k (by omega)), h n (by omega)]; simp
theorem dt_sq {p q r w : Nat → Int} {x y z s : Int} : ∀ n, 0 ≤ dt p p n * x * x + 2 * (dt p q n * x * y) + 2 * (dt p r n * x * z) + dt q q n * y * y + 2 * (dt q r n * y * z) + dt r r n * z * z + 2 * (dt p w n * x * s) + 2 * (dt q w n * y * s) + 2 * (dt r w n * z * s) + dt w w n * s * s
  | 0 => by simp [dt]
  | n + 1 => by
    have ih := dt_sq (p := p) (q := q) (r := r) (w := w) (x := x) (y := y) (z := z) (s := s) n
    have sq := sq_nn (p n * x + q n * y + r n * z + w n * s)
    have e : (dt p p n + p n * p n) * x * x + 2 * ((dt p q n + p n * q n) * x * y) + 2 * ((dt p r n + p n * r n) * x * z) + (dt q q n + q n * q n) * y * y + 2 * ((dt q r n + q n * r n) * y * z) + (dt r r n + r n * r n) * z * z + 2 * ((dt p w n + p n * w n) * x * s) + 2 * ((dt q w n + q n * w n) * y * s) + 2 * ((dt r w n + r n * w n) * z * s) + (dt w w n + w n * w n) * s * s = (dt p p n * x * x + 2 * (dt p q n * x * y) + 2 * (dt p r n * x * z) + dt q q n * y * y + 2 * (dt q r n * y * z) + dt r r n * z * z + 2 * (dt p w n * x * s) + 2 * (dt q w n * y * s) + 2 * (dt r w n * z * s) + dt w w n * s * s) + (p n * x + q n * y + r n * z + w n * s) * (p n * x + q n * y + r n * z + w n * s) := by grind
    show 0 ≤ (dt p p n + p n * p n) * x * x + 2 * ((dt p q n + p n * q n) * x * y) + 2 * ((dt p r n + p n * r n) * x * z) + (dt q q n + q n * q n) * y * y + 2 * ((dt q r n + q n * r n) * y * z) + (dt r r n + r n * r n) * z * z + 2 * ((dt p w n + p n * w n) * x * s) + 2 * ((dt q w n + q n * w n) * y * s) + 2 * ((dt r w n + r n * w n) * z * s) + (dt w w n + w n * w n) * s * s
    rw [e]; omega
theorem mul_in {x y X Y : Int} (h0 : 0 ≤ x) (h1 : x ≤ X) (h2 : 0 ≤ y) (h3 : y ≤ Y) : 0 ≤ x * y ∧ x * y ≤ X * Y := ⟨Int.mul_nonneg h0 h2, Int.mul_le_mul h1 h3 h2 (by omega)⟩
/-- one step of a sum -/
theorem dt_step {s : Int64} {a b : Int32} {f g : Nat → Int} {k N : Nat} (hN : N ≤ 24) (hk : k < N) (h : ∀ k, k < N → 0 ≤ f k * g k ∧ f k * g k ≤ 10000) (hs : s.toInt = dt f g k) (ha : a.toInt = f k) (hb : b.toInt = g k) : (s + (a * b).toInt64).toInt = dt f g (k + 1) := by
  have h1 := dt_b k (fun j hj => h j (by omega))
  have h2 := h k hk
  have em : (a * b).toInt64.toInt = f k * g k := by rw [z64, z_mul, ha, hb] <;> rw [ha, hb] <;> omega
  rw [y_add, em, hs]
  · rfl
  · rw [em, hs]; omega
  · rw [em, hs]; omega
theorem x_weigh {post : (Nat → Int64) → (Nat → Nat → Int64) → Prop} {N : Nat} {mt : Nat → Int64} {en : Nat → Nat → Int32} {cnt gr : Nat → Int32} {pr : Nat → Nat → Int64} {E : Nat → Nat → Int} {W : Nat → Int} (hN : N ≤ 24) (hE : ∀ i c, i < 3 → c < N → (en i c).toInt = E i c ∧ 0 ≤ E i c ∧ E i c ≤ 20) (hW : ∀ c, c < N → (netf cnt gr c).toInt = W c ∧ 0 ≤ W c ∧ W c ≤ 500) (h : ∀ mt' pr', (∀ i, i < 3 → (mt' i).toInt = dt (E i) W N) → (∀ i j, i < 3 → j < 3 → (pr' i j).toInt = dt (E i) (E j) N) → post mt' pr') : vc_XMi_weigh post N mt (nI N) en cnt gr pr := by
  unfold vc_XMi_weigh
  have hEW : ∀ i, i < 3 → ∀ k, k < N → 0 ≤ E i k * W k ∧ E i k * W k ≤ 10000 := fun i hi k hk => by
    have := mul_in (hE i k hi hk).2.1 (hE i k hi hk).2.2 (hW k hk).2.1 (hW k hk).2.2
    omega
  have hEE : ∀ i j, i < 3 → j < 3 → ∀ k, k < N → 0 ≤ E i k * E j k ∧ E i k * E j k ≤ 10000 := fun i j hi hj k hk => by
    have := mul_in (hE i k hi hk).2.1 (hE i k hi hk).2.2 (hE j k hj hk).2.1 (hE j k hj hk).2.2
    omega
  refine vlp3_i (fun y mt' pr' => ∃ i, y = nI i ∧ i ≤ 3 ∧ (∀ a, a < i → (mt' a).toInt = dt (E a) W N) ∧ (∀ a j, a < i → j < 3 → (pr' a j).toInt = dt (E a) (E j) N)) (fun y _ _ => 100 - y.toNatClampNeg) ?_ _ _ _ ⟨0, rfl, by omega, fun a ha => absurd ha (Nat.not_lt_zero a), fun a _ ha => absurd ha (Nat.not_lt_zero a)⟩
  rintro R _ mt1 pr1 ⟨i, rfl, hi, h1, h2⟩ hR
  rw [show (3 : Int32) = nI 3 from rfl, n_le (by omega) (by omega)]
  have ci : (nI i).toNatClampNeg = i := nI_clamp (by omega)
  rw [ci]
  refine ⟨fun c => ?_, fun c => ⟨in_nI (by omega) (by omega), ?_⟩⟩
  · obtain rfl : i = 3 := by omega
    exact h _ _ h1 h2
  · have ii : vp_in (nI i) 3 := in_nI (by omega) (by omega)
    refine vlp2_i (fun y mt' => ∃ k, y = nI k ∧ k ≤ N ∧ (∀ a, a < i → (mt' a).toInt = dt (E a) W N) ∧ (mt' i).toInt = dt (E i) W k) (fun y _ => 100 - y.toNatClampNeg) ?_ _ _ ⟨0, rfl, by omega, fun a ha => by rw [updL_ne (by omega)]; exact h1 a ha, by rw [updL_at]; rfl⟩
    rintro R2 _ mt2 ⟨k, rfl, hk, h3, h4⟩ hR2
    have ck : (nI k).toNatClampNeg = k := nI_clamp (by omega)
    rw [n_le (by omega) (by omega), ck]
    refine ⟨fun c2 => ?_, fun c2 => ⟨ii, ii, in_nI (by omega) (by omega), x_netAt (by omega) hN ⟨ii, ?_⟩⟩⟩
    · obtain rfl : k = N := by omega
      clear hR2 R2
      refine vlp2_i (fun y pr' => ∃ j, y = nI j ∧ j ≤ 3 ∧ (∀ a j', a < i → j' < 3 → (pr' a j').toInt = dt (E a) (E j') k) ∧ (∀ j', j' < j → (pr' i j').toInt = dt (E i) (E j') k)) (fun y _ => 100 - y.toNatClampNeg) ?_ _ _ ⟨0, rfl, by omega, h2, fun a ha => absurd ha (Nat.not_lt_zero a)⟩
      rintro R3 _ pr2 ⟨j, rfl, hj, h5, h6⟩ hR3
      have cj : (nI j).toNatClampNeg = j := nI_clamp (by omega)
      rw [n_le (by omega) (by omega), cj]
      refine ⟨fun c3 => ?_, fun c3 => ⟨ii, in_nI (by omega) (by omega), ?_⟩⟩
      · obtain rfl : j = 3 := by omega
        rw [n_add1]
        refine hR _ _ _ ⟨i + 1, rfl, by omega, fun a ha => ?_, fun a j' ha hj' => ?_⟩ (by rw [nI_clamp (by omega), ci]; omega)
        · by_cases e : a = i
          · subst e; exact h4
          · exact h3 a (by omega)
        · by_cases e : a = i
          · subst e; exact h6 j' hj'
          · exact h5 a j' (by omega) hj'
      · have ij : vp_in (nI j) 3 := in_nI (by omega) (by omega)
        refine vlp2_i (fun y pr' => ∃ c, y = nI c ∧ c ≤ k ∧ (∀ a j', a < i → j' < 3 → (pr' a j').toInt = dt (E a) (E j') k) ∧ (∀ j', j' < j → (pr' i j').toInt = dt (E i) (E j') k) ∧ (pr' i j).toInt = dt (E i) (E j) c) (fun y _ => 100 - y.toNatClampNeg) ?_ _ _ ⟨0, rfl, by omega, fun a j' ha hj' => by rw [gsetl_ne (by omega)]; exact h5 a j' ha hj', fun j' hj' => by rw [gsetl_ne (by omega)]; exact h6 j' hj', by rw [gsetl_at]; rfl⟩
        rintro R4 _ pr3 ⟨c0, rfl, hc0, h7, h8, h9⟩ hR4
        have cc : (nI c0).toNatClampNeg = c0 := nI_clamp (by omega)
        rw [n_le (by omega) (by omega), cc, n_add1, n_add1]
        refine ⟨fun c4 => ?_, fun c4 => ⟨ii, ij, ii, in_nI (by omega) (by omega), ij, in_nI (by omega) (by omega), ij, ?_⟩⟩
        · obtain rfl : c0 = k := by omega
          refine hR3 _ _ ⟨j + 1, rfl, by omega, h7, fun j' hj' => ?_⟩ (by rw [nI_clamp (by omega), cj]; omega)
          by_cases e : j' = j
          · subst e; exact h9
          · exact h8 j' (by omega)
        · refine hR4 _ _ ⟨c0 + 1, rfl, by omega, fun a j' ha hj' => by rw [gsetl_ne (by omega)]; exact h7 a j' ha hj', fun j' hj' => by rw [gsetl_ne (by omega)]; exact h8 j' hj', ?_⟩ (by rw [nI_clamp (by omega), cc]; omega)
          rw [gsetl_at]
          exact dt_step hN (by omega) (hEE i j (by omega) (by omega)) h9 (hE i c0 (by omega) (by omega)).1 (hE j c0 (by omega) (by omega)).1
    · rw [n_add1]
      refine hR2 _ _ ⟨k + 1, rfl, by omega, fun a ha => by rw [updL_ne (by omega)]; exact h3 a ha, ?_⟩ (by rw [nI_clamp (by omega), ck]; omega)
      rw [updL_at]
      exact dt_step hN (by omega) (hEW i (by omega)) h4 (hE i k (by omega) (by omega)).1 (hW k (by omega)).1
theorem n_mulc {c k : Nat} (h : c * k < 2 ^ 31) (hc : c < 2 ^ 31) (hk : k < 2 ^ 31) : nI c * nI k = nI (c * k) := by
  have e1 : (nI c).toInt = c := nI_toInt hc
  have e2 : (nI k).toInt = k := nI_toInt hk
  have e3 : ((c * k : Nat) : Int) = (c : Int) * k := Int.natCast_mul _ _
  rw [z_eq, z_mul, e1, e2, nI_toInt h]
  · omega
  · rw [e1, e2]; omega
  · rw [e1, e2]; omega
def tgt (E : Nat → Nat → Int) (W : Nat → Int) (k : Nat) : Nat → Int := if k % 4 = 3 then W else E (k % 4)
theorem m_addUp {post : (Nat → Int64) → Prop} {N : Nat} {sm : Nat → Int64} {en : Nat → Int32} {cnt gr : Nat → Int32} {E : Nat → Nat → Int} {W : Nat → Int} (hg : good N cnt gr) (hE : ∀ i c, i < 3 → c < N → (en (24 * i + c)).toInt = E i c ∧ 0 ≤ E i c ∧ E i c ≤ 20) (hW : ∀ c, c < N → (netf cnt gr c).toInt = W c ∧ 0 ≤ W c ∧ W c ≤ 500) (h : ∀ sm', (∀ k, k < 12 → (sm' k).toInt = dt (E (k / 4)) (tgt E W k) N) → post sm') : vc_M_addUp post (nI N) sm en cnt gr := by
  unfold vc_M_addUp
  have hN := hg.1
  have hET : ∀ k, k < 12 → ∀ c, c < N → 0 ≤ E (k / 4) c * tgt E W k c ∧ E (k / 4) c * tgt E W k c ≤ 10000 := fun k hk c hc => by
    have h1 := hE (k / 4) c (by omega) hc
    unfold tgt
    by_cases q : k % 4 = 3
    · rw [if_pos q]
      have := mul_in h1.2.1 h1.2.2 (hW c hc).2.1 (hW c hc).2.2
      omega
    · rw [if_neg q]
      have h2 := hE (k % 4) c (by omega) hc
      have := mul_in h1.2.1 h1.2.2 h2.2.1 h2.2.2
      omega
  refine vlp2_i (fun y sm' => ∃ k, y = nI k ∧ k ≤ 12 ∧ (∀ a, a < k → (sm' a).toInt = dt (E (a / 4)) (tgt E W a) N)) (fun y _ => 100 - y.toNatClampNeg) ?_ _ _ ⟨0, rfl, by omega, fun a ha => absurd ha (Nat.not_lt_zero a)⟩
  rintro R _ sm1 ⟨k, rfl, hk, h1⟩ hR
  have ck : (nI k).toNatClampNeg = k := nI_clamp (by omega)
  rw [show (12 : Int32) = nI 12 from rfl, n_le (by omega) (by omega), ck]
  refine ⟨fun c => ?_, fun c => ⟨in_nI (by omega) (by omega), ?_⟩⟩
  · obtain rfl : k = 12 := by omega
    exact h _ h1
  · have ik : vp_in (nI k) 12 := in_nI (by omega) (by omega)
    have hk12 : k < 12 := by omega
    rw [show (4 : Int32) = nI 4 from rfl, n_rem (by omega) (by omega) (by omega), n_div (by omega) (by omega) (by omega), show (3 : Int32) = nI 3 from rfl, n_eq (by omega) (by omega), show (24 : Int32) = nI 24 from rfl, n_mulc (by omega) (by omega) (by omega), n_mulc (by omega) (by omega) (by omega)]
    refine vlp2_i (fun y sm' => ∃ c, y = nI c ∧ c ≤ N ∧ (∀ a, a < k → (sm' a).toInt = dt (E (a / 4)) (tgt E W a) N) ∧ (sm' k).toInt = dt (E (k / 4)) (tgt E W k) c) (fun y _ => 100 - y.toNatClampNeg) ?_ _ _ ⟨0, rfl, by omega, fun a ha => by rw [updL_ne (by omega)]; exact h1 a ha, by rw [updL_at]; rfl⟩
    rintro R2 _ sm2 ⟨c0, rfl, hc0, h3, h4⟩ hR2
    have cc : (nI c0).toNatClampNeg = c0 := nI_clamp (by omega)
    have n4 : ¬ nI 4 = 0 := by decide
    rw [n_le (by omega) (by omega), n_add1, n_add1, n_add (by omega), n_add (by omega), nI_clamp (show 24 * (k / 4) + c0 < 2 ^ 31 by omega), nI_clamp (show 24 * (k % 4) + c0 < 2 ^ 31 by omega)]
    have step : ∀ v : Int32, v.toInt = tgt E W k c0 → ¬ N ≤ c0 → R2 (nI (c0 + 1)) (vp_updL sm2 k (sm2 k + (en (24 * (k / 4) + c0) * v).toInt64)) := by
      intro v hv c2
      refine hR2 _ _ ⟨c0 + 1, rfl, by omega, fun a ha => by rw [updL_ne (by omega)]; exact h3 a ha, ?_⟩ (by rw [nI_clamp (by omega), cc]; omega)
      rw [updL_at]
      exact dt_step hN (by omega) (hET k hk12) h4 (hE (k / 4) c0 (by omega) (by omega)).1 hv
    refine ⟨fun c2 => ?_, fun c2 => ⟨ik, n4, in_nI (by omega) (by omega), n4, fun c3 => ⟨n4, in_nI (by omega) (by omega), ik, ?_⟩, fun c3 => m_net hg (by omega) ⟨ik, ?_⟩⟩⟩
    · obtain rfl : c0 = N := by omega
      refine hR _ _ ⟨k + 1, rfl, by omega, fun a ha => ?_⟩ (by rw [nI_clamp (by omega), ck]; omega)
      by_cases e : a = k
      · subst e; exact h4
      · exact h3 a (by omega)
    · refine step _ ?_ c2
      unfold tgt; rw [if_neg c3]; exact (hE (k % 4) c0 (by omega) (by omega)).1
    · refine step _ ?_ c2
      unfold tgt; rw [if_pos c3]; exact (hW c0 (by omega)).1
