/-! standards -/
theorem x_placeOf {post : Int32 → Prop} {n : Nat} {days : Nat → Int32} {d : Int32} (hn : n ≤ 10) (h1 : ∀ k, k < n → days k = d → post (nI k)) (h0 : (∀ k, k < n → ¬ days k = d) → post (nI n)) : vc_XSt_placeOf post (nI n) days d := by
  unfold vc_XSt_placeOf
  refine vlp1_i (fun y => ∃ k, y = nI k ∧ k ≤ n ∧ ∀ j, j < k → ¬ days j = d) (fun y => 100 - y.toNatClampNeg) ?_ _ ⟨0, rfl, by omega, fun j hj => absurd hj (Nat.not_lt_zero j)⟩
  rintro R _ ⟨k, rfl, hk, hd⟩ hR
  rw [n_le (by omega) (by omega), nI_clamp (by omega), n_add1]
  refine ⟨fun c => ?_, fun c => ⟨in_nI (by omega) (by omega), fun q => hR _ ⟨k + 1, rfl, by omega, fun j hj => ?_⟩ (by rw [nI_clamp (by omega), nI_clamp (by omega)]; omega), fun q => h1 k (by omega) q⟩⟩
  · obtain rfl : k = n := by omega
    exact h0 hd
  · by_cases e : j = k
    · subst e; exact q
    · exact hd j (by omega)
theorem m_standard {post : Int32 → Int32 → Int32 → (Nat → Int32) → (Nat → Int32) → Prop} {thr : Int32} {n : Nat} {days facs : Nat → Int32} {d f : Int32} (hn : n ≤ 10) (h1 : ¬ ((0 ≤ d.toInt ∧ d.toInt ≤ 100000) ∧ (1 ≤ f.toInt ∧ f.toInt ≤ 10000)) → post 0 1 (nI n) days facs) (h2 : (0 ≤ d.toInt ∧ d.toInt ≤ 100000) ∧ (1 ≤ f.toInt ∧ f.toInt ≤ 10000) → (∀ k, k < n → ¬ days k = d) → ¬ n < 10 → post 0 2 (nI n) days facs) (h3 : (0 ≤ d.toInt ∧ d.toInt ≤ 100000) ∧ (1 ≤ f.toInt ∧ f.toInt ≤ 10000) → ∀ k, k < n → days k = d → post (nI n) 0 (nI n) (upd days k d) (upd facs k f)) (h4 : (0 ≤ d.toInt ∧ d.toInt ≤ 100000) ∧ (1 ≤ f.toInt ∧ f.toInt ≤ 10000) → (∀ k, k < n → ¬ days k = d) → n < 10 → post (nI (n + 1)) 0 (nI (n + 1)) (upd days n d) (upd facs n f)) : vc_M_standard post thr (nI n) days facs d f := by
  unfold vc_M_standard
  refine vlp2_i (fun z y => ∃ i, y = nI i ∧ i ≤ n ∧ ((z = -1 ∧ ∀ k, k < i → ¬ days k = d) ∨ (∃ k, k < i ∧ z = nI k ∧ days k = d))) (fun _ y => 100 - y.toNatClampNeg) ?_ _ _ ⟨0, rfl, by omega, Or.inl ⟨rfl, fun j hj => absurd hj (Nat.not_lt_zero j)⟩⟩
  rintro R z _ ⟨i, rfl, hi, hz⟩ hR
  rw [n_le (by omega) (by omega)]
  refine ⟨fun c => ?_, fun c => ?_⟩
  · obtain rfl : i = n := by omega
    clear hR
    refine t_within (fun J hJ => ?_)
    refine t_and (p := 0 ≤ d.toInt ∧ d.toInt ≤ 100000) (q := 1 ≤ f.toInt ∧ f.toInt ≤ 10000) (K := fun post => vc_M_within post f 1 10000) (fun post h => t_within h) (hJ _ ?_)
    intro J84 hJ84 J79 hJ79
    have em : ∀ k, k < i → ¬ nI k = (-1 : Int32) := fun k hk e => by
      rw [z_eq, nI_toInt (by omega)] at e
      have : (k : Int) = -1 := e
      omega
    rcases hz with ⟨rfl, hno⟩ | ⟨k, hk, rfl, hkd⟩
    · refine ⟨fun q => absurd rfl q, fun _ => ?_⟩
      rw [show (10 : Int32) = nI 10 from rfl, n_le (by omega) (by omega)]
      refine ⟨fun c2 => ?_, fun c2 => hJ79 _ ?_⟩
      · have k := hJ84 (bi ((0 ≤ d.toInt ∧ d.toInt ≤ 100000) ∧ (1 ≤ f.toInt ∧ f.toInt ≤ 10000))) (bi False) (t_goes2 (fun n => ⟨fun n => absurd rfl n, fun _ => h1 n⟩) (fun y _ => ⟨fun n => absurd rfl n, fun _ => h2 y hno (by omega)⟩) (fun _ n => absurd n (fun h => h)))
        rwa [bi_f (fun (h : False) => h)] at k
      · have k := hJ84 (bi ((0 ≤ d.toInt ∧ d.toInt ≤ 100000) ∧ (1 ≤ f.toInt ∧ f.toInt ≤ 10000))) (bi True) (t_goes2 (fun n => ⟨fun n => absurd rfl n, fun _ => h1 n⟩) (fun _ n => absurd trivial n) (fun y _ => ⟨fun _ => ?_, fun n => absurd n (by decide)⟩))
        · rwa [bi_t trivial] at k
        · intro J hJ
          refine ⟨fun q => absurd rfl q, fun _ => hJ _ (fun J2 hJ2 => ⟨fun q => absurd rfl q, fun _ => hJ2 _ ?_⟩)⟩
          rw [n_add1, nI_clamp (by omega)]
          exact ⟨in_nI (by omega) (by omega), in_nI (by omega) (by omega), h4 y hno (by omega)⟩
    · refine ⟨fun _ => hJ79 _ ?_, fun q => absurd q (em k hk)⟩
      have k' := hJ84 (bi ((0 ≤ d.toInt ∧ d.toInt ≤ 100000) ∧ (1 ≤ f.toInt ∧ f.toInt ≤ 10000))) (bi True) (t_goes2 (fun n => ⟨fun n => absurd rfl n, fun _ => h1 n⟩) (fun _ n => absurd trivial n) (fun y _ => ⟨fun _ => ?_, fun n => absurd n (by decide)⟩))
      · rwa [bi_t trivial] at k'
      · intro J hJ
        refine ⟨fun _ => hJ _ (fun J2 hJ2 => ⟨fun _ => hJ2 _ ?_, fun q => absurd q (em k hk)⟩), fun q => absurd q (em k hk)⟩
        rw [nI_clamp (by omega)]
        exact ⟨in_nI (by omega) (by omega), in_nI (by omega) (by omega), h3 y k hk hkd⟩
  · rw [nI_clamp (by omega), n_add1]
    have hm : ∀ z', (z' = -1 ∧ ∀ k, k < i + 1 → ¬ days k = d) ∨ (∃ k, k < i + 1 ∧ z' = nI k ∧ days k = d) → R z' (nI (i + 1)) := fun z' h => hR _ _ ⟨i + 1, rfl, by omega, h⟩ (by rw [nI_clamp (by omega), nI_clamp (by omega)]; omega)
    refine ⟨in_nI (by omega) (by omega), fun q => hm _ ?_, fun q => hm _ (Or.inr ⟨i, by omega, rfl, q⟩)⟩
    rcases hz with ⟨rfl, hno⟩ | ⟨k, hk, rfl, hkd⟩
    · refine Or.inl ⟨rfl, fun k hk => ?_⟩
      by_cases e : k = i
      · subst e; exact q
      · exact hno k (by omega)
    · exact Or.inr ⟨k, by omega, rfl, hkd⟩
/-! corrected -/
def oI : Option Nat → Int32
  | none => -1
  | some k => nI k
theorem oI_none {o : Option Nat} (h : ∀ k, o = some k → k < 2 ^ 31) : oI o = -1 ↔ o = none := by
  cases o with
  | none => exact ⟨fun _ => rfl, fun _ => rfl⟩
  | some k =>
    refine ⟨fun e => ?_, fun e => absurd e (by simp)⟩
    have e : nI k = -1 := e
    rw [z_eq, nI_toInt (h k rfl)] at e
    have : (k : Int) = -1 := e
    omega
/-- the standard at or ahead of a day, and the one at or behind it -/
def ahf (days : Nat → Int32) (d : Int32) : Nat → Option Nat
  | 0 => none
  | i + 1 => match ahf days d i with
    | none => if d < days i then none else some i
    | some a => if d < days i ∨ days i ≤ days a then some a else some i
def bhf (days : Nat → Int32) (d : Int32) : Nat → Option Nat
  | 0 => none
  | i + 1 => match bhf days d i with
    | none => if days i < d then none else some i
    | some a => if days i < d ∨ days a ≤ days i then some a else some i
theorem ahf_s {days : Nat → Int32} {d : Int32} : ∀ i k, ahf days d i = some k → k < i ∧ days k ≤ d
  | 0, k, h => by simp [ahf] at h
  | i + 1, k, h => by
    unfold ahf at h
    have ih := ahf_s (days := days) (d := d) i
    cases e : ahf days d i with
    | none =>
      rw [e] at h
      by_cases c : d < days i
      · simp [c] at h
      · simp only [c, if_false] at h
        obtain rfl := Option.some.inj h
        exact ⟨by omega, Int32.not_lt.mp c⟩
    | some a =>
      rw [e] at h
      have iha := ih a e
      by_cases c : d < days i ∨ days i ≤ days a
      · simp only [c, if_true] at h
        obtain rfl := Option.some.inj h
        exact ⟨by omega, iha.2⟩
      · simp only [c, if_false] at h
        obtain rfl := Option.some.inj h
        exact ⟨by omega, Int32.not_lt.mp (fun n => c (Or.inl n))⟩
theorem bhf_s {days : Nat → Int32} {d : Int32} : ∀ i k, bhf days d i = some k → k < i ∧ d ≤ days k
  | 0, k, h => by simp [bhf] at h
  | i + 1, k, h => by
    unfold bhf at h
    have ih := bhf_s (days := days) (d := d) i
    cases e : bhf days d i with
    | none =>
      rw [e] at h
      by_cases c : days i < d
      · simp [c] at h
      · simp only [c, if_false] at h
        obtain rfl := Option.some.inj h
        exact ⟨by omega, Int32.not_lt.mp c⟩
    | some a =>
      rw [e] at h
      have iha := ih a e
      by_cases c : days i < d ∨ days a ≤ days i
      · simp only [c, if_true] at h
        obtain rfl := Option.some.inj h
        exact ⟨by omega, iha.2⟩
      · simp only [c, if_false] at h
        obtain rfl := Option.some.inj h
        exact ⟨by omega, Int32.not_lt.mp (fun n => c (Or.inl n))⟩
theorem ahf_congr {days days' : Nat → Int32} {d : Int32} : ∀ i, (∀ k, k < i → days k = days' k) → ahf days d i = ahf days' d i ∧ bhf days d i = bhf days' d i
  | 0, _ => ⟨rfl, rfl⟩
  | i + 1, h => by
    obtain ⟨h1, h2⟩ := ahf_congr (d := d) i (fun k hk => h k (by omega))
    unfold ahf bhf
    rw [h1, h2, h i (by omega)]
    refine ⟨?_, ?_⟩
    · cases e : ahf days' d i with
      | none => rfl
      | some a => dsimp only; rw [h a (by have := (ahf_s i a e).1; omega)]
    · cases e : bhf days' d i with
      | none => rfl
      | some a => dsimp only; rw [h a (by have := (bhf_s i a e).1; omega)]
/-- the factor on a day -/
def facV (days facs : Nat → Int32) (d : Int32) : Option Nat → Option Nat → Int
  | none, none => 1000
  | none, some b => (facs b).toInt
  | some a, none => (facs a).toInt
  | some a, some b => if a = b then (facs a).toInt else (facs a).toInt + ((facs b).toInt - (facs a).toInt) * (d.toInt - (days a).toInt) / ((days b).toInt - (days a).toInt)
theorem fl_div {u b q : Int} (hb : 0 < b) (hq : q = u.tdiv b) : (u < q * b → q - 1 = u / b) ∧ (¬ u < q * b → q = u / b) ∧ (0 ≤ u → q = u / b) ∧ (u < 0 → q * b = u → q = u / b) ∧ (u < 0 → ¬ q * b = u → q - 1 = u / b) := by
  have e := Int.tdiv_eq_ediv (a := u) (b := b)
  have h1 := Int.emod_nonneg u (show b ≠ 0 by omega)
  have h2 := Int.emod_lt_of_pos u hb
  have h3 := Int.mul_ediv_add_emod u b
  have hs : b.sign = 1 := Int.sign_eq_one_of_pos hb
  rw [hs] at e
  have hm : u / b * b = b * (u / b) := Int.mul_comm _ _
  by_cases c : 0 ≤ u ∨ b ∣ u
  · rw [if_pos c] at e
    have eq : q = u / b := by omega
    have hle : q * b ≤ u := by rw [eq]; omega
    refine ⟨fun h => by omega, fun _ => eq, fun _ => eq, fun _ _ => eq, fun hu hn => ?_⟩
    rcases c with c | c
    · omega
    · exfalso; apply hn
      rw [eq, hm]
      have := Int.emod_eq_zero_of_dvd c
      omega
  · rw [if_neg c] at e
    have eq : q = u / b + 1 := by omega
    have hm2 : q * b = u / b * b + b := by rw [eq, Int.add_mul, Int.one_mul]
    have hne : u % b ≠ 0 := fun h => c (Or.inr (Int.dvd_of_emod_eq_zero h))
    refine ⟨fun _ => by omega, fun h => by omega, fun h => absurd (Or.inl h) c, fun hu h => ?_, fun _ _ => by omega⟩
    omega
theorem z_xor {x y : Int32} (hy : 0 < y.toInt) : 0 ≤ x ^^^ y ↔ 0 ≤ x.toInt := by
  have e : (x ^^^ y).toInt < 0 ↔ x.toInt < 0 := by
    have h1 : ∀ z : Int32, z.toInt < 0 ↔ z.toBitVec.msb = true := fun z => by
      have : z.toInt = z.toBitVec.toInt := rfl
      rw [this, BitVec.msb_eq_toInt]; simp
    rw [h1, h1, Int32.toBitVec_xor, BitVec.msb_xor]
    have : y.toBitVec.msb = false := by
      have := h1 y
      cases q : y.toBitVec.msb with
      | false => rfl
      | true => rw [q] at this; have := this.mpr rfl; omega
    rw [this]; simp
  rw [z_le]
  show (0 : Int) ≤ _ ↔ _
  omega
theorem x_floorDiv {post : Int32 → Prop} {x y : Int32} (hy : 0 < y.toInt) (hx : -2147483648 < x.toInt) (h : ∀ v : Int32, v.toInt = x.toInt / y.toInt → post v) : vc_J_floorDiv post x y := by
  unfold vc_J_floorDiv
  refine ⟨fun e => by rw [e] at hy; exact absurd hy (by decide), fun q hq => ?_⟩
  have eq : q.toInt = x.toInt.tdiv y.toInt := by rw [hq]; exact Kit.i32_div (fun n => by omega)
  obtain ⟨f1, f2, f3, f4, f5⟩ := fl_div hy eq
  rw [z_xor hy]
  have hqb : -2147483647 ≤ q.toInt ∧ -2147483647 ≤ q.toInt * y.toInt ∧ q.toInt * y.toInt ≤ 2147483647 := by
    have hxu := z_ub x
    have hyu := z_ub y
    have k := Int.mul_ediv_add_emod x.toInt y.toInt
    have k1 := Int.emod_nonneg x.toInt (show y.toInt ≠ 0 by omega)
    have k2 := Int.emod_lt_of_pos x.toInt hy
    have km : x.toInt / y.toInt * y.toInt = y.toInt * (x.toInt / y.toInt) := Int.mul_comm _ _
    rcases Int.lt_or_le x.toInt 0 with c | c
    · have kl : x.toInt ≤ x.toInt / y.toInt := by
        refine Int.le_ediv_of_mul_le hy ?_
        have := Int.mul_le_mul_of_nonpos_left (show x.toInt ≤ 0 by omega) (show (1 : Int) ≤ y.toInt by omega)
        omega
      by_cases e2 : q.toInt * y.toInt = x.toInt
      · have := f4 c e2; omega
      · have e3 := f5 c e2
        have e4 : q.toInt * y.toInt = x.toInt / y.toInt * y.toInt + y.toInt := by
          rw [show q.toInt = x.toInt / y.toInt + 1 by omega, Int.add_mul, Int.one_mul]
        omega
    · have e3 := f3 c
      have h0 : 0 ≤ x.toInt / y.toInt := Int.ediv_nonneg c (by omega)
      have h3 : 0 ≤ x.toInt / y.toInt * y.toInt := Int.mul_nonneg h0 (by omega)
      rw [e3]
      omega
  have em : (q * y).toInt = q.toInt * y.toInt := z_mul (by omega) (by omega)
  have es : (q - 1).toInt = q.toInt - 1 := z_sub (by show _ ≤ q.toInt - 1; omega) (by have := z_ub q; show q.toInt - 1 ≤ _; omega)
  refine ⟨fun c => h q (f3 c), fun c => ⟨fun c2 => h q (f4 (by omega) ?_), fun c2 => h _ ?_⟩⟩
  · rw [z_eq, em] at c2; exact c2
  · rw [es]; exact f5 (by omega) (fun n => c2 (by rw [z_eq, em]; exact n))
theorem x_onLine {post : Int32 → Prop} {n : Nat} {days facs : Nat → Int32} {d : Int32} {a b : Nat} (hn : n ≤ 10) (ha : a < n) (hb : b < n) (hd : ∀ k, k < n → 0 ≤ (days k).toInt ∧ (days k).toInt ≤ 100000 ∧ 1 ≤ (facs k).toInt ∧ (facs k).toInt ≤ 10000) (hu : ∀ i j, i < n → j < n → days i = days j → i = j) (h1 : (days a).toInt ≤ d.toInt) (h2 : d.toInt ≤ (days b).toInt) (h : ∀ v : Int32, v.toInt = facV days facs d (some a) (some b) → post v) : vc_XSt_onLine post days facs (nI a) (nI b) d := by
  unfold vc_XSt_onLine
  have ia : vp_in (nI a) 10 := in_nI (by omega) (by omega)
  have ib : vp_in (nI b) 10 := in_nI (by omega) (by omega)
  have da := hd a ha; have db := hd b hb
  rw [nI_clamp (show a < 2 ^ 31 by omega), nI_clamp (show b < 2 ^ 31 by omega)]
  refine ⟨ib, ia, fun x hx => ?_⟩
  have ex : x.toInt = (days b).toInt - (days a).toInt := by rw [hx]; exact z_sub (by omega) (by omega)
  rw [z_lt, ex]
  unfold facV at h; dsimp only at h
  refine ⟨fun (c : 0 < _) => ⟨ib, ia, ia, fun r hr => ⟨ia, ?_⟩⟩, fun (c : ¬ 0 < _) => ⟨ia, h _ ?_⟩⟩
  · have e1 : (facs b - facs a).toInt = (facs b).toInt - (facs a).toInt := z_sub (by omega) (by omega)
    have e2 : (d - days a).toInt = d.toInt - (days a).toInt := z_sub (by omega) (by omega)
    have hab : a ≠ b := fun e => by subst e; omega
    rw [if_neg hab] at h
    generalize hP : (facs b).toInt - (facs a).toInt = P at *
    generalize hT : d.toInt - (days a).toInt = T at *
    have hPT : -999900000 ≤ P * T ∧ P * T ≤ 999900000 := by
      have t0 : 0 ≤ T := by omega
      have t1 : T ≤ 100000 := by omega
      have u1 : P * T ≤ 9999 * T := Int.mul_le_mul_of_nonneg_right (by omega) t0
      have u2 : (-9999) * T ≤ P * T := Int.mul_le_mul_of_nonneg_right (by omega) t0
      omega
    have er : r.toInt = P * T := by rw [hr, z_mul (by rw [e1, e2]; omega) (by rw [e1, e2]; omega), e1, e2]
    have hq : -9999 ≤ P * T / ((days b).toInt - (days a).toInt) ∧ P * T / ((days b).toInt - (days a).toInt) ≤ 9999 := by
      have tl : T ≤ (days b).toInt - (days a).toInt := by omega
      have t0 : 0 ≤ T := by omega
      refine ⟨Int.le_ediv_of_mul_le c ?_, Int.le_of_lt_add_one (Int.ediv_lt_of_lt_mul c ?_)⟩
      · have u2 : (-9999) * T ≤ P * T := Int.mul_le_mul_of_nonneg_right (by omega) t0
        omega
      · have u1 : P * T ≤ 9999 * T := Int.mul_le_mul_of_nonneg_right (by omega) t0
        omega
    refine x_floorDiv (by rw [ex]; exact c) (by rw [er]; omega) (fun v hv => h _ ?_)
    rw [er, ex] at hv
    rw [z_add (by omega) (by omega), hv]
  · have : a = b := hu a b ha hb (z_eq.mpr (by omega))
    rw [if_pos this]
theorem x_factorOn {post : Int32 → Prop} {n : Nat} {days facs : Nat → Int32} {d : Int32} (hn : n ≤ 10) (hd : ∀ k, k < n → 0 ≤ (days k).toInt ∧ (days k).toInt ≤ 100000 ∧ 1 ≤ (facs k).toInt ∧ (facs k).toInt ≤ 10000) (hu : ∀ i j, i < n → j < n → days i = days j → i = j) (h : ∀ v : Int32, v.toInt = facV days facs d (ahf days d n) (bhf days d n) → post v) : vc_XSt_factorOn post (nI n) days facs d := by
  unfold vc_XSt_factorOn
  refine vlp3_i (fun p q y => ∃ i, y = nI i ∧ i ≤ n ∧ p = oI (ahf days d i) ∧ q = oI (bhf days d i)) (fun _ _ y => 100 - y.toNatClampNeg) ?_ _ _ _ ⟨0, rfl, by omega, rfl, rfl⟩
  rintro R _ _ _ ⟨i, rfl, hi, rfl, rfl⟩ hR
  have hA : ∀ k, ahf days d i = some k → k < i ∧ days k ≤ d := ahf_s i
  have hB : ∀ k, bhf days d i = some k → k < i ∧ d ≤ days k := bhf_s i
  have nA : oI (ahf days d i) = -1 ↔ ahf days d i = none := oI_none (fun k hk => by have := (hA k hk).1; omega)
  have nB : oI (bhf days d i) = -1 ↔ bhf days d i = none := oI_none (fun k hk => by have := (hB k hk).1; omega)
  rw [n_le (by omega) (by omega), nA, nB]
  have ii : ∀ k, k < 10 → vp_in (nI k) 10 := fun k hk => in_nI hk (by omega)
  refine ⟨fun c => ?_, fun c => ⟨ii i (by omega), ?_⟩⟩
  · obtain rfl : i = n := by omega
    cases eA : ahf days d i with
    | none =>
      rw [eA] at h
      refine ⟨fun q => absurd rfl q, fun _ => ?_⟩
      cases eB : bhf days d i with
      | none => rw [eB] at h; exact ⟨fun q => absurd rfl q, fun _ => h _ rfl⟩
      | some b =>
        rw [eB] at h
        have := (hB b eB).1
        refine ⟨fun _ => ⟨ii b (by omega), h _ ?_⟩, fun q => absurd q (by simp)⟩
        show (facs (nI b).toNatClampNeg).toInt = _
        rw [nI_clamp (by omega)]; rfl
    | some a =>
      rw [eA] at h
      have ha := hA a eA
      refine ⟨fun _ => ?_, fun q => absurd q (by simp)⟩
      cases eB : bhf days d i with
      | none =>
        rw [eB] at h
        refine ⟨fun q => absurd rfl q, fun _ => ⟨ii a (by omega), h _ ?_⟩⟩
        show (facs (nI a).toNatClampNeg).toInt = _
        rw [nI_clamp (by omega)]; rfl
      | some b =>
        rw [eB] at h
        have hb := hB b eB
        exact ⟨fun _ => x_onLine hn ha.1 hb.1 hd hu (z_le.mp ha.2) (z_le.mp hb.2) h, fun q => absurd q (by simp)⟩
  · have st : ∀ p q, p = oI (ahf days d (i + 1)) → q = oI (bhf days d (i + 1)) → R p q (nI i + 1) := by
      rintro p q rfl rfl
      rw [n_add1]
      exact hR _ _ _ ⟨i + 1, rfl, by omega, rfl, rfl⟩ (by rw [nI_clamp (by omega), nI_clamp (by omega)]; omega)
    rw [nI_clamp (show i < 2 ^ 31 by omega)]
    intro J hJ
    have kJ : ∀ p, p = oI (ahf days d (i + 1)) → J p := by
      intro p hp
      refine hJ p ⟨ii i (by omega), ?_⟩
      cases eB : bhf days d i with
      | none =>
        refine ⟨fun q => st _ _ hp ?_, fun q => ⟨fun _ => st _ _ hp ?_, fun z => absurd rfl z⟩⟩
        · unfold bhf; rw [eB]; simp only [q, if_true]
        · unfold bhf; rw [eB]; simp only [q, if_false]; rfl
      | some b =>
        have hb := (hB b eB).1
        have e1 : (oI (some b)).toNatClampNeg = b := nI_clamp (by omega)
        rw [e1]
        refine ⟨fun q => st _ _ hp ?_, fun q => ⟨fun z => absurd z (by simp), fun _ => ⟨ii i (by omega), ii b (by omega), fun q2 => st _ _ hp ?_, fun q2 => st _ _ hp ?_⟩⟩⟩
        · unfold bhf; rw [eB]; simp only [q, true_or, if_true]
        · unfold bhf; rw [eB]; simp only [q2, or_true, if_true]
        · unfold bhf; rw [eB]; simp only [q, q2, or_self, if_false]; rfl
    cases eA : ahf days d i with
    | none =>
      refine ⟨fun q => kJ _ ?_, fun q J2 hJ2 => ⟨fun _ => hJ2 (kJ _ ?_), fun z => absurd rfl z⟩⟩
      · unfold ahf; rw [eA]; simp only [q, if_true]
      · unfold ahf; rw [eA]; simp only [q, if_false]; rfl
    | some a =>
      have ha := (hA a eA).1
      have e1 : (oI (some a)).toNatClampNeg = a := nI_clamp (by omega)
      rw [e1]
      refine ⟨fun q => kJ _ ?_, fun q J2 hJ2 => ⟨fun z => absurd z (by simp), fun _ => ⟨ii i (by omega), ii a (by omega), fun q2 => kJ _ ?_, fun q2 => hJ2 (kJ _ ?_)⟩⟩⟩
      · unfold ahf; rw [eA]; simp only [q, true_or, if_true]
      · unfold ahf; rw [eA]; simp only [q2, or_true, if_true]
      · unfold ahf; rw [eA]; simp only [q, q2, or_self, if_false]; rfl
