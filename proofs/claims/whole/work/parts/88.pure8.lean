theorem z64 (x : Int32) : x.toInt64.toInt = x.toInt := Int32.toInt_toInt64 x
theorem y_mul {x y : Int64} (h1 : -9223372036854775808 ≤ x.toInt * y.toInt) (h2 : x.toInt * y.toInt ≤ 9223372036854775807) : (x * y).toInt = x.toInt * y.toInt := Kit.i64_mul (by omega) (by omega)
theorem y_add {x y : Int64} (h1 : -9223372036854775808 ≤ x.toInt + y.toInt) (h2 : x.toInt + y.toInt ≤ 9223372036854775807) : (x + y).toInt = x.toInt + y.toInt := Kit.i64_add (by omega) (by omega)
theorem y_sub {x y : Int64} (h1 : -9223372036854775808 ≤ x.toInt - y.toInt) (h2 : x.toInt - y.toInt ≤ 9223372036854775807) : (x - y).toInt = x.toInt - y.toInt := Kit.i64_sub (by omega) (by omega)
theorem y_lt {a b : Int64} : a < b ↔ a.toInt < b.toInt := Int64.lt_iff_toInt_lt
theorem y_le {a b : Int64} : a ≤ b ↔ a.toInt ≤ b.toInt := Int64.le_iff_toInt_le
theorem y_eq {a b : Int64} : a = b ↔ a.toInt = b.toInt := Int64.toInt_inj.symm
theorem cmp_le {x y : Int64} : lg_cmp x y ≤ 0 ↔ x.toInt ≤ y.toInt := by
  unfold lg_cmp
  by_cases c : x > y
  · rw [if_pos c]
    have : y.toInt < x.toInt := y_lt.mp c
    exact ⟨fun h => absurd h (by decide), fun h => by omega⟩
  · rw [if_neg c]
    have h1 : ¬ y.toInt < x.toInt := fun n => c (y_lt.mpr n)
    by_cases c2 : x = y
    · rw [if_pos c2]; exact ⟨fun _ => by omega, fun _ => by decide⟩
    · rw [if_neg c2]; exact ⟨fun _ => by omega, fun _ => by decide⟩
theorem cmp_ge {x y : Int64} : 0 ≤ lg_cmp x y ↔ y.toInt ≤ x.toInt := by
  unfold lg_cmp
  by_cases c : x > y
  · rw [if_pos c]
    have : y.toInt < x.toInt := y_lt.mp c
    exact ⟨fun h => by omega, fun h => by decide⟩
  · rw [if_neg c]
    have h1 : ¬ y.toInt < x.toInt := fun n => c (y_lt.mpr n)
    by_cases c2 : x = y
    · rw [if_pos c2]; subst c2; exact ⟨fun _ => by omega, fun _ => by decide⟩
    · rw [if_neg c2]
      have : x.toInt ≠ y.toInt := fun n => c2 (y_eq.mpr n)
      exact ⟨fun h => absurd h (by decide), fun h => by omega⟩
theorem cmp_gt {x y : Int64} : 0 < lg_cmp x y ↔ y.toInt < x.toInt := by
  have := cmp_le (x := x) (y := y)
  rw [z_le] at this; rw [z_lt]
  have e : (0 : Int32).toInt = 0 := rfl
  rw [e]; rw [e] at this; omega
theorem cmp_eq {x y : Int64} : lg_cmp x y = 0 ↔ x = y := by
  unfold lg_cmp
  by_cases c : x > y
  · rw [if_pos c]
    have : y.toInt < x.toInt := y_lt.mp c
    exact ⟨fun h => absurd h (by decide), fun h => by subst h; omega⟩
  · rw [if_neg c]
    by_cases c2 : x = y
    · rw [if_pos c2]; exact ⟨fun _ => c2, fun _ => rfl⟩
    · rw [if_neg c2]; exact ⟨fun h => absurd h (by decide), fun h => absurd h c2⟩
theorem m_factorOf {post : Int32 → Prop} {n : Nat} {days facs : Nat → Int32} {d : Int32} (hn : n ≤ 10) (hd : ∀ k, k < n → 0 ≤ (days k).toInt ∧ (days k).toInt ≤ 100000 ∧ 1 ≤ (facs k).toInt ∧ (facs k).toInt ≤ 10000) (hu : ∀ i j, i < n → j < n → days i = days j → i = j) (h : ∀ v : Int32, v.toInt = facV days facs d (ahf days d n) (bhf days d n) → post v) : vc_M_factorOf post (nI n) days facs d := by
  unfold vc_M_factorOf
  refine vlp3_i (fun p q y => ∃ i, y = nI i ∧ i ≤ n ∧ p = oI (ahf days d i) ∧ q = oI (bhf days d i)) (fun _ _ y => 100 - y.toNatClampNeg) ?_ _ _ _ ⟨0, rfl, by omega, rfl, rfl⟩
  rintro R _ _ _ ⟨i, rfl, hi, rfl, rfl⟩ hR
  have hA : ∀ k, ahf days d i = some k → k < i ∧ days k ≤ d := ahf_s i
  have hB : ∀ k, bhf days d i = some k → k < i ∧ d ≤ days k := bhf_s i
  have nA : oI (ahf days d i) = -1 ↔ ahf days d i = none := oI_none (fun k hk => by have := (hA k hk).1; omega)
  have nB : oI (bhf days d i) = -1 ↔ bhf days d i = none := oI_none (fun k hk => by have := (hB k hk).1; omega)
  rw [n_le (by omega) (by omega), nA, nB]
  have ii : ∀ k, k < 10 → vp_in (nI k) 10 := fun k hk => in_nI hk (by omega)
  refine ⟨fun c J hJ => ?_, fun c => ⟨ii i (by omega), ?_⟩⟩
  · obtain rfl : i = n := by omega
    cases eA : ahf days d i with
    | none =>
      rw [eA] at h
      cases eB : bhf days d i with
      | none =>
        rw [eB] at h
        exact ⟨fun q => absurd rfl q, fun _ => ⟨fun q => absurd rfl q, fun _ => h _ rfl⟩⟩
      | some b =>
        rw [eB] at h hJ nB
        have hb := (hB b eB).1
        have e1 : (oI (some b)).toNatClampNeg = b := nI_clamp (by omega)
        refine ⟨fun q => absurd rfl q, fun _ => ⟨fun _ => hJ (fun J2 hJ2 => ⟨fun q => absurd eA q, fun _ => hJ2 _ (fun J3 hJ3 => ⟨fun _ => hJ3 _ ⟨fun q => absurd rfl q, fun _ => ⟨ii b (by omega), ?_⟩⟩, fun q => absurd (nB.mp (nB.mpr q)) (by simp)⟩)⟩), fun q => absurd q (by simp)⟩⟩
        rw [e1]; exact h _ rfl
    | some a =>
      rw [eA] at h hJ nA
      have ha := hA a eA
      have ea : (oI (some a)).toNatClampNeg = a := nI_clamp (by omega)
      refine ⟨fun _ => hJ (fun J2 hJ2 => ⟨fun _ => hJ2 _ (fun J3 hJ3 => ?_), fun q => absurd (nA.mp (nA.mpr q)) (by simp)⟩), fun q => absurd q (by simp)⟩
      cases eB : bhf days d i with
      | none =>
        rw [eB] at h
        refine ⟨fun q => absurd rfl q, fun _ => hJ3 _ ⟨fun q => absurd rfl q, fun _ => ⟨ii a (by omega), ?_⟩⟩⟩
        rw [ea]; exact h _ rfl
      | some b =>
        rw [eB] at h
        have hb := hB b eB
        have eb : (oI (some b)).toNatClampNeg = b := nI_clamp (by omega)
        have eab : oI (some a) = oI (some b) ↔ a = b := n_eq (by omega) (by omega)
        refine ⟨fun _ => hJ3 _ ⟨fun q => ?_, fun q => ⟨ii a (by omega), ?_⟩⟩, fun q => absurd q (by simp)⟩
        · rw [ea, eb]
          rw [eab] at q
          have da := hd a ha.1; have db := hd b hb.1
          have h1 := z_le.mp ha.2; have h2 := z_le.mp hb.2
          have hne : (days a).toInt ≠ (days b).toInt := fun e => q (hu a b ha.1 hb.1 (z_eq.mpr e))
          refine ⟨ii b (by omega), ii a (by omega), ii a (by omega), fun x6 hx6 => ⟨ii b (by omega), ii a (by omega), fun x8 hx8 => ?_⟩⟩
          have e1 : (facs b - facs a).toInt = (facs b).toInt - (facs a).toInt := z_sub (by omega) (by omega)
          have e2 : (d - days a).toInt = d.toInt - (days a).toInt := z_sub (by omega) (by omega)
          have e3 : x8.toInt = (days b).toInt - (days a).toInt := by rw [hx8, z64]; exact z_sub (by omega) (by omega)
          unfold facV at h; dsimp only at h
          rw [if_neg q] at h
          generalize hP : (facs b).toInt - (facs a).toInt = P at *
          generalize hT : d.toInt - (days a).toInt = T at *
          have hPT : -999900000 ≤ P * T ∧ P * T ≤ 999900000 := by
            have t0 : 0 ≤ T := by omega
            have u1 : P * T ≤ 9999 * T := Int.mul_le_mul_of_nonneg_right (by omega) t0
            have u2 : (-9999) * T ≤ P * T := Int.mul_le_mul_of_nonneg_right (by omega) t0
            omega
          have e6 : x6.toInt = P * T := by rw [hx6, y_mul, z64, z64, e1, e2] <;> rw [z64, z64, e1, e2] <;> omega
          have c8 : 0 < (days b).toInt - (days a).toInt := by omega
          have hq : -9999 ≤ P * T / ((days b).toInt - (days a).toInt) ∧ P * T / ((days b).toInt - (days a).toInt) ≤ 9999 := by
            have tl : T ≤ (days b).toInt - (days a).toInt := by omega
            have t0 : 0 ≤ T := by omega
            refine ⟨Int.le_ediv_of_mul_le c8 ?_, Int.le_of_lt_add_one (Int.ediv_lt_of_lt_mul c8 ?_)⟩
            · have u2 : (-9999) * T ≤ P * T := Int.mul_le_mul_of_nonneg_right (by omega) t0
              omega
            · have u1 : P * T ≤ 9999 * T := Int.mul_le_mul_of_nonneg_right (by omega) t0
              omega
          refine ⟨fun e => by rw [e] at e3; have : (0 : Int) = _ := e3; omega, fun x10 hx10 => ?_⟩
          have e10 : x10.toInt = (P * T).tdiv ((days b).toInt - (days a).toInt) := by
            rw [hx10, Kit.i64_div (fun n => by omega), e6, e3]
          obtain ⟨f1, f2, f3, f4, f5⟩ := fl_div c8 e10
          have hxb : -10000 ≤ x10.toInt ∧ x10.toInt ≤ 10000 := by
            by_cases z : P * T < x10.toInt * ((days b).toInt - (days a).toInt)
            · have := f1 z; omega
            · have := f2 z; omega
          generalize hL : (days b).toInt - (days a).toInt = Ln at *
          have hml : -2000000000 ≤ x10.toInt * Ln ∧ x10.toInt * Ln ≤ 2000000000 := by
            have l0 : 0 ≤ Ln := by omega
            have u1 : x10.toInt * Ln ≤ 10000 * Ln := Int.mul_le_mul_of_nonneg_right (by omega) l0
            have u2 : (-10000) * Ln ≤ x10.toInt * Ln := Int.mul_le_mul_of_nonneg_right (by omega) l0
            omega
          have em : (x10 * x8).toInt = x10.toInt * Ln := by rw [y_mul, e3] <;> rw [e3] <;> omega
          rw [cmp_le, em, e6]
          have fin : ∀ w : Int64, w.toInt = P * T / Ln → post (facs a + w.toInt32) := by
            intro w hw
            have e32 : w.toInt32.toInt = w.toInt := Kit.i32_of_i64 (by omega) (by omega)
            refine h _ ?_
            rw [z_add (by omega) (by omega), e32, hw]
          refine ⟨fun z => ⟨ii a (by omega), fin _ (f2 (by omega))⟩, fun z x11 hx11 => ⟨ii a (by omega), fin _ ?_⟩⟩
          rw [hx11, y_sub]
          · show x10.toInt - 1 = _; exact f1 (by omega)
          · show _ ≤ x10.toInt - 1; omega
          · show x10.toInt - 1 ≤ _; omega
        · rw [ea]
          rw [eab] at q
          refine h _ ?_
          unfold facV; dsimp only; rw [if_pos q]
  · have st : ∀ p q, p = oI (ahf days d (i + 1)) → q = oI (bhf days d (i + 1)) → R p q (nI i + 1) := by
      rintro p q rfl rfl
      rw [n_add1]
      exact hR _ _ _ ⟨i + 1, rfl, by omega, rfl, rfl⟩ (by rw [nI_clamp (by omega), nI_clamp (by omega)]; omega)
    rw [nI_clamp (show i < 2 ^ 31 by omega)]
    intro J hJ
    have kJ : ∀ p, p = oI (ahf days d (i + 1)) → J p := by
      intro p hp
      refine hJ p ⟨ii i (by omega), ?_⟩
      cases eB : bhf days d i with
      | none =>
        refine ⟨fun q => st _ _ hp ?_, fun q => ⟨fun _ => st _ _ hp ?_, fun z => absurd rfl z⟩⟩
        · unfold bhf; rw [eB]; simp only [q, if_true]
        · unfold bhf; rw [eB]; simp only [q, if_false]; rfl
      | some b =>
        have hb := (hB b eB).1
        have e1 : (oI (some b)).toNatClampNeg = b := nI_clamp (by omega)
        rw [e1]
        refine ⟨fun q => st _ _ hp ?_, fun q => ⟨fun z => absurd z (by simp), fun _ => ⟨ii i (by omega), ii b (by omega), fun q2 => st _ _ hp ?_, fun q2 => st _ _ hp ?_⟩⟩⟩
        · unfold bhf; rw [eB]; simp only [q, true_or, if_true]
        · unfold bhf; rw [eB]; simp only [q2, or_true, if_true]
        · unfold bhf; rw [eB]; simp only [q, q2, or_self, if_false]; rfl
    intro J2 hJ2
    cases eA : ahf days d i with
    | none =>
      refine ⟨fun q => hJ2 (kJ _ ?_), fun q J3 hJ3 => ⟨fun _ => hJ3 (kJ _ ?_), fun z => absurd rfl z⟩⟩
      · rw [eA]; unfold ahf; rw [eA]; simp only [q, if_true]
      · unfold ahf; rw [eA]; simp only [q, if_false]; rfl
    | some a =>
      have ha := (hA a eA).1
      have e1 : (oI (some a)).toNatClampNeg = a := nI_clamp (by omega)
      rw [e1]
      refine ⟨fun q => hJ2 (kJ _ ?_), fun q J3 hJ3 => ⟨fun z => absurd z (by simp), fun _ => ⟨ii i (by omega), ii a (by omega), fun q2 => hJ2 (kJ _ ?_), fun q2 => hJ3 (kJ _ ?_)⟩⟩⟩
      · rw [eA]; unfold ahf; rw [eA]; simp only [q, true_or, if_true]
      · rw [eA]; unfold ahf; rw [eA]; simp only [q2, or_true, if_true]
      · unfold ahf; rw [eA]; simp only [q, q2, or_self, if_false]; rfl
theorem facV_pos {n : Nat} {days facs : Nat → Int32} {d : Int32} (hd : ∀ k, k < n → 0 ≤ (days k).toInt ∧ (days k).toInt ≤ 100000 ∧ 1 ≤ (facs k).toInt ∧ (facs k).toInt ≤ 10000) : 0 < facV days facs d (ahf days d n) (bhf days d n) := by
  have hA : ∀ k, ahf days d n = some k → k < n ∧ days k ≤ d := ahf_s n
  have hB : ∀ k, bhf days d n = some k → k < n ∧ d ≤ days k := bhf_s n
  cases eA : ahf days d n with
  | none =>
    cases eB : bhf days d n with
    | none => show (0 : Int) < 1000; omega
    | some b => show 0 < (facs b).toInt; have := hd b (hB b eB).1; omega
  | some a =>
    have da := hd a (hA a eA).1
    cases eB : bhf days d n with
    | none => show 0 < (facs a).toInt; omega
    | some b =>
      have db := hd b (hB b eB).1
      unfold facV; dsimp only
      by_cases q : a = b
      · rw [if_pos q]; omega
      · rw [if_neg q]
        have h1 := z_le.mp (hA a eA).2; have h2 := z_le.mp (hB b eB).2
        rcases Int.lt_or_le 0 ((days b).toInt - (days a).toInt) with c | c
        · have t0 : 0 ≤ d.toInt - (days a).toInt := by omega
          have tl : d.toInt - (days a).toInt ≤ (days b).toInt - (days a).toInt := by omega
          generalize d.toInt - (days a).toInt = T at *
          generalize (days b).toInt - (days a).toInt = Ln at *
          have : 1 - (facs a).toInt ≤ ((facs b).toInt - (facs a).toInt) * T / Ln := by
            refine Int.le_ediv_of_mul_le c ?_
            have u1 : (1 - (facs a).toInt) * T ≤ ((facs b).toInt - (facs a).toInt) * T := Int.mul_le_mul_of_nonneg_right (by omega) t0
            have u2 := Int.mul_le_mul_of_nonpos_left (show 1 - (facs a).toInt ≤ 0 by omega) tl
            omega
          omega
        · have e : (days b).toInt - (days a).toInt = 0 := by omega
          rw [e, Int.ediv_zero]; omega
theorem m_corrected {post : Int64 → Int32 → Prop} {thr : Int32} {n : Nat} {days facs : Nat → Int32} {d v : Int32} (hn : n ≤ 10) (hd : ∀ k, k < n → 0 ≤ (days k).toInt ∧ (days k).toInt ≤ 100000 ∧ 1 ≤ (facs k).toInt ∧ (facs k).toInt ≤ 10000) (hu : ∀ i j, i < n → j < n → days i = days j → i = j) (h1 : ¬ ((0 ≤ d.toInt ∧ d.toInt ≤ 100000) ∧ (0 ≤ v.toInt ∧ v.toInt ≤ 1000000)) → post 0 1) (h3 : (0 ≤ d.toInt ∧ d.toInt ≤ 100000) ∧ (0 ≤ v.toInt ∧ v.toInt ≤ 1000000) → ∀ w : Int32, w.toInt = facV days facs d (ahf days d n) (bhf days d n) → post (1000 * v.toInt64 / w.toInt64) 0) : vc_M_corrected post thr (nI n) days facs d v := by
  unfold vc_M_corrected
  refine t_within (fun J hJ => ?_)
  refine t_and (p := 0 ≤ d.toInt ∧ d.toInt ≤ 100000) (q := 0 ≤ v.toInt ∧ v.toInt ≤ 1000000) (K := fun post => vc_M_within post v 0 1000000) (fun post h => t_within h) (hJ _ ?_)
  refine t_goes1 (fun c => ⟨fun n => absurd rfl n, fun _ => h1 c⟩) (fun c => ⟨fun _ => m_factorOf hn hd hu (fun w hw => ⟨fun e => ?_, h3 c w hw⟩), fun n => absurd n (by decide)⟩)
  have := facV_pos (d := d) hd
  rw [y_eq, z64, hw] at e
  have : facV days facs d (ahf days d n) (bhf days d n) = 0 := e
  omega
theorem rSt.md {n : Nat} {days facs mdays mfacs : Nat → Int32} (h : ∀ k, k < n → days k = mdays k ∧ facs k = mfacs k ∧ 0 ≤ (days k).toInt ∧ (days k).toInt ≤ 100000 ∧ 1 ≤ (facs k).toInt ∧ (facs k).toInt ≤ 10000) (hu : ∀ i j, i < n → j < n → days i = days j → i = j) : (∀ k, k < n → 0 ≤ (mdays k).toInt ∧ (mdays k).toInt ≤ 100000 ∧ 1 ≤ (mfacs k).toInt ∧ (mfacs k).toInt ≤ 10000) ∧ (∀ i j, i < n → j < n → mdays i = mdays j → i = j) := by
  refine ⟨fun k hk => ?_, fun i j hi hj e => hu i j hi hj ?_⟩
  · have := h k hk; rw [← this.1, ← this.2.1]; exact this.2.2
  · rw [(h i hi).1, (h j hj).1, e]
theorem facV_congr {n : Nat} {days facs mdays mfacs : Nat → Int32} {d : Int32} (h : ∀ k, k < n → days k = mdays k ∧ facs k = mfacs k) : facV days facs d (ahf days d n) (bhf days d n) = facV mdays mfacs d (ahf mdays d n) (bhf mdays d n) := by
  have e := ahf_congr (d := d) n (fun k hk => (h k hk).1)
  rw [e.1, e.2]
  have hA : ∀ k, ahf mdays d n = some k → k < n ∧ mdays k ≤ d := ahf_s n
  have hB : ∀ k, bhf mdays d n = some k → k < n ∧ d ≤ mdays k := bhf_s n
  cases eA : ahf mdays d n with
  | none =>
    cases eB : bhf mdays d n with
    | none => rfl
    | some b => show (facs b).toInt = (mfacs b).toInt; rw [(h b (hB b eB).1).2]
  | some a =>
    have ha := h a (hA a eA).1
    cases eB : bhf mdays d n with
    | none => show (facs a).toInt = (mfacs a).toInt; rw [ha.2]
    | some b =>
      have hb := h b (hB b eB).1
      unfold facV; dsimp only; rw [ha.1, ha.2, hb.1, hb.2]
theorem pc_18 {R : Int32 → (Nat → Int32) → (Nat → Int32) → (Nat → Int32) → Int32 → (Nat → Nat → Int32) → (Nat → Int32) → (Nat → Nat → Int32) → Int64 → Int32 → Int32 → (Nat → Nat → Int32) → (Nat → Int64) → (Nat → Nat → Int64) → (Nat → Int64) → (Nat → Nat → Int64) → (Nat → Int64) → Int32 → Int64 → Int64 → Int64 → (Nat → Nat → Int32) → (Nat → Int32) → Int32 → (Nat → Int32) → (Nat → Int32) → Int32 → Int32 → Int32 → Int32 → Int32 → Int64 → Int32 → Int32 → Int32 → Int32 → Int32 → Int64 → Int64 → (Nat → Int32) → (Nat → Int32) → (Nat → Int32) → (Nat → Int32) → (Nat → Int32) → (Nat → Int32) → (Nat → Int32) → (Nat → Int64) → (Nat → Int64) → (Nat → Int32) → (Nat → Int32) → (Nat → Int32) → (Nat → Int64) → Prop} {xs : Nat → Int32} {L N : Nat} {ch : Int32} {cnt : Nat → Int32} {gr : Nat → Int32} {fm : Nat → Int32} {fsz : Int32} {rows : Nat → Nat → Int32} {szs : Nat → Int32} {lns : Nat → Nat → Int32} {below : Int64} {msz : Int32} {solved : Int32} {ents : Nat → Nat → Int32} {above : Nat → Int64} {prods : Nat → Nat → Int64} {mats : Nat → Int64} {sys : Nat → Nat → Int64} {rgt : Nat → Int64} {csz : Int32} {ca : Int64} {cb : Int64} {cc : Int64} {meas : Nat → Nat → Int32} {joined : Nat → Int32} {dsz : Int32} {days : Nat → Int32} {facs : Nat → Int32} {thr : Int32} {mch : Int32} {pks : Int32} {libs : Int32} {msolved : Int32} {under : Int64} {smps : Int32} {ma : Int32} {mb : Int32} {mc : Int32} {stds : Int32} {mabove : Int64} {mbelow : Int64} {mcnt : Nat → Int32} {mbk : Nat → Int32} {mnx : Nat → Int32} {mfnd : Nat → Int32} {mlns : Nat → Int32} {mlm : Nat → Int32} {ments : Nat → Int32} {sums : Nat → Int64} {mabs : Nat → Int64} {mmeas : Nat → Int32} {mdays : Nat → Int32} {mfacs : Nat → Int32} {out : Nat → Int64} {y4 : Int32} (hI : pI N ch cnt gr fm fsz rows szs lns below msz solved ents above prods mats sys rgt csz ca cb cc meas joined dsz days facs thr mch pks libs msolved under smps ma mb mc stds mabove mbelow mcnt mbk mnx mfnd mlns mlm ments sums mabs mmeas mdays mfacs out) (hR : ∀ {ch cnt gr fm fsz rows szs lns below msz solved ents above prods mats sys rgt csz ca cb cc meas joined dsz days facs thr mch pks libs msolved under smps ma mb mc stds mabove mbelow mcnt mbk mnx mfnd mlns mlm ments sums mabs mmeas mdays mfacs out}, pI N ch cnt gr fm fsz rows szs lns below msz solved ents above prods mats sys rgt csz ca cb cc meas joined dsz days facs thr mch pks libs msolved under smps ma mb mc stds mabove mbelow mcnt mbk mnx mfnd mlns mlm ments sums mabs mmeas mdays mfacs out → R ch cnt gr fm fsz rows szs lns below msz solved ents above prods mats sys rgt csz ca cb cc meas joined dsz days facs thr mch pks libs msolved under smps ma mb mc stds mabove mbelow mcnt mbk mnx mfnd mlns mlm ments sums mabs mmeas mdays mfacs out) (hy1 : vp_in (y4 + (1 : Int32)) L) (hy2 : vp_in (y4 + (2 : Int32)) L) (hy3 : vp_in (y4 + (3 : Int32)) L) : vc_L_case_18 R xs L N ch cnt gr fm fsz rows szs lns below msz solved ents above prods mats sys rgt csz ca cb cc meas joined dsz days facs thr mch pks libs msolved under smps ma mb mc stds mabove mbelow mcnt mbk mnx mfnd mlns mlm ments sums mabs mmeas mdays mfacs out y4 := by
  unfold vc_L_case_18
  obtain ⟨hSp, hPe, hLi, hMi, hSa, hSt⟩ := hI
  unfold vc_L_standard vc_X_standard
  generalize xs ((y4 + (1 : Int32)).toNatClampNeg) = a1
  generalize xs ((y4 + (2 : Int32)).toNatClampNeg) = a2
  obtain ⟨n, hn, rfl, rfl, hk, hu⟩ := id hSt
  refine ⟨hy1, hy2, t_needValue (fun (u1 : 0 ≤ a1.toInt) (u2 : a1.toInt ≤ 100000) => t_needValue (fun (v1 : 1 ≤ a2.toInt) (v2 : a2.toInt ≤ 10000) => ?_) (fun (v : ¬ (1 ≤ a2.toInt ∧ a2.toInt ≤ 10000)) => ?_)) (fun (u : ¬ (0 ≤ a1.toInt ∧ a1.toInt ≤ 100000)) => ?_)⟩
  · have ok : (0 ≤ a1.toInt ∧ a1.toInt ≤ 100000) ∧ (1 ≤ a2.toInt ∧ a2.toInt ≤ 10000) := ⟨⟨u1, u2⟩, v1, v2⟩
    have upd_rel : ∀ k, k ≤ n → (k < n → days k = a1) → (k = n → ∀ j, j < n → ¬ days j = a1) → ∀ n', n' ≤ 10 → (k < n → n' = n) → (k = n → n' = n + 1) → rSt (nI n') (upd days k a1) (upd facs k a2) (nI n') (upd mdays k a1) (upd mfacs k a2) := by
      intro k hkn h1 h2 n' hn' e1 e2
      refine ⟨n', hn', rfl, rfl, fun j hj => ?_, fun i j hi hj e => ?_⟩
      · by_cases q : j = k
        · subst q; rw [upd_at, upd_at, upd_at, upd_at]; exact ⟨rfl, rfl, u1, u2, v1, v2⟩
        · rw [upd_ne q, upd_ne q, upd_ne q, upd_ne q]; exact hk j (by omega)
      · by_cases qi : i = k
        · by_cases qj : j = k
          · omega
          · rw [qi, upd_at, upd_ne qj] at e
            by_cases z : k < n
            · have := hu k j z (by omega) (by rw [h1 z, e]); omega
            · exact absurd e.symm (h2 (by omega) j (by omega))
        · by_cases qj : j = k
          · rw [qj, upd_at, upd_ne qi] at e
            by_cases z : k < n
            · have := hu k i z (by omega) (by rw [h1 z, e]); omega
            · exact absurd e (h2 (by omega) i (by omega))
          · rw [upd_ne qi, upd_ne qj] at e
            exact hu i j (by omega) (by omega) e
    refine x_placeOf hn (fun k hkn hkd J hJ => ?_) (fun hno J hJ => ?_)
    · rw [show (10 : Int32) = nI 10 from rfl, n_le (by omega) (by omega)]
      refine ⟨fun c => absurd c (by omega), fun _ => hJ _ (t_needState (fun _ => ?_) (fun q => absurd q (by decide)))⟩
      unfold vc_XSt_put
      have ik : vp_in (nI k) 10 := in_nI (by omega) (by omega)
      rw [n_add1, nI_clamp (by omega), if_neg (by rw [n_lt (by omega) (by omega)]; omega)]
      refine ⟨ik, ik, in_01, hy1, hy2, m_standard hn (fun q => absurd ok q) (fun _ q => absurd ((hk k hkn).1.symm.trans hkd) (q k hkn)) (fun _ j hj hjd => fin_i rfl (fun _ => by rw [out_0]) (hR ⟨hSp, hPe, hLi, hMi, hSa, ?_⟩)) (fun _ q => absurd ((hk k hkn).1.symm.trans hkd) (q k hkn))⟩
      obtain rfl : j = k := hu j k hj hkn (by rw [(hk j hj).1, hjd, hkd])
      exact upd_rel j (by omega) (fun _ => hkd) (fun q => by omega) n hn (fun _ => rfl) (fun q => by omega)
    · have hno' : ∀ j, j < n → ¬ mdays j = a1 := fun j hj e => hno j hj ((hk j hj).1.trans e)
      rw [show (10 : Int32) = nI 10 from rfl, n_le (by omega) (by omega)]
      refine ⟨fun c => hJ _ (t_needState (fun q => absurd rfl q) (fun _ => ?_)), fun c => hJ _ (t_needState (fun _ => ?_) (fun q => absurd q (by decide)))⟩
      · exact Or.inr ⟨rfl, hy1, hy2, m_standard hn (fun q => absurd ok q) (fun _ _ _ => fin_i rfl (fun n => absurd n (by decide)) (hR ⟨hSp, hPe, hLi, hMi, hSa, hSt⟩)) (fun _ j hj hjd => absurd hjd (hno' j hj)) (fun _ _ q => absurd q (by omega))⟩
      · unfold vc_XSt_put
        have ik : vp_in (nI n) 10 := in_nI (by omega) (by omega)
        rw [n_add1, nI_clamp (by omega), if_pos (by rw [n_lt (by omega) (by omega)]; omega)]
        refine ⟨ik, ik, in_01, hy1, hy2, m_standard hn (fun q => absurd ok q) (fun _ _ q => absurd (by omega) q) (fun _ j hj hjd => absurd hjd (hno' j hj)) (fun _ _ _ => fin_i rfl (fun _ => by rw [out_0]) (hR ⟨hSp, hPe, hLi, hMi, hSa, ?_⟩))⟩
        exact upd_rel n (by omega) (fun q => by omega) (fun _ => hno) (n + 1) (by omega) (fun q => by omega) (fun _ => rfl)
  · exact Or.inl ⟨rfl, hy1, hy2, m_standard hn (fun _ => fin_i rfl (fun n => absurd n (by decide)) (hR ⟨hSp, hPe, hLi, hMi, hSa, hSt⟩)) (fun q => absurd q.2 v) (fun q => absurd q.2 v) (fun q => absurd q.2 v)⟩
  · exact Or.inl ⟨rfl, hy1, hy2, m_standard hn (fun _ => fin_i rfl (fun n => absurd n (by decide)) (hR ⟨hSp, hPe, hLi, hMi, hSa, hSt⟩)) (fun q => absurd q.1 u) (fun q => absurd q.1 u) (fun q => absurd q.1 u)⟩
theorem pc_19 {R : Int32 → (Nat → Int32) → (Nat → Int32) → (Nat → Int32) → Int32 → (Nat → Nat → Int32) → (Nat → Int32) → (Nat → Nat → Int32) → Int64 → Int32 → Int32 → (Nat → Nat → Int32) → (Nat → Int64) → (Nat → Nat → Int64) → (Nat → Int64) → (Nat → Nat → Int64) → (Nat → Int64) → Int32 → Int64 → Int64 → Int64 → (Nat → Nat → Int32) → (Nat → Int32) → Int32 → (Nat → Int32) → (Nat → Int32) → Int32 → Int32 → Int32 → Int32 → Int32 → Int64 → Int32 → Int32 → Int32 → Int32 → Int32 → Int64 → Int64 → (Nat → Int32) → (Nat → Int32) → (Nat → Int32) → (Nat → Int32) → (Nat → Int32) → (Nat → Int32) → (Nat → Int32) → (Nat → Int64) → (Nat → Int64) → (Nat → Int32) → (Nat → Int32) → (Nat → Int32) → (Nat → Int64) → Prop} {xs : Nat → Int32} {L N : Nat} {ch : Int32} {cnt : Nat → Int32} {gr : Nat → Int32} {fm : Nat → Int32} {fsz : Int32} {rows : Nat → Nat → Int32} {szs : Nat → Int32} {lns : Nat → Nat → Int32} {below : Int64} {msz : Int32} {solved : Int32} {ents : Nat → Nat → Int32} {above : Nat → Int64} {prods : Nat → Nat → Int64} {mats : Nat → Int64} {sys : Nat → Nat → Int64} {rgt : Nat → Int64} {csz : Int32} {ca : Int64} {cb : Int64} {cc : Int64} {meas : Nat → Nat → Int32} {joined : Nat → Int32} {dsz : Int32} {days : Nat → Int32} {facs : Nat → Int32} {thr : Int32} {mch : Int32} {pks : Int32} {libs : Int32} {msolved : Int32} {under : Int64} {smps : Int32} {ma : Int32} {mb : Int32} {mc : Int32} {stds : Int32} {mabove : Int64} {mbelow : Int64} {mcnt : Nat → Int32} {mbk : Nat → Int32} {mnx : Nat → Int32} {mfnd : Nat → Int32} {mlns : Nat → Int32} {mlm : Nat → Int32} {ments : Nat → Int32} {sums : Nat → Int64} {mabs : Nat → Int64} {mmeas : Nat → Int32} {mdays : Nat → Int32} {mfacs : Nat → Int32} {out : Nat → Int64} {y4 : Int32} (hI : pI N ch cnt gr fm fsz rows szs lns below msz solved ents above prods mats sys rgt csz ca cb cc meas joined dsz days facs thr mch pks libs msolved under smps ma mb mc stds mabove mbelow mcnt mbk mnx mfnd mlns mlm ments sums mabs mmeas mdays mfacs out) (hR : ∀ {ch cnt gr fm fsz rows szs lns below msz solved ents above prods mats sys rgt csz ca cb cc meas joined dsz days facs thr mch pks libs msolved under smps ma mb mc stds mabove mbelow mcnt mbk mnx mfnd mlns mlm ments sums mabs mmeas mdays mfacs out}, pI N ch cnt gr fm fsz rows szs lns below msz solved ents above prods mats sys rgt csz ca cb cc meas joined dsz days facs thr mch pks libs msolved under smps ma mb mc stds mabove mbelow mcnt mbk mnx mfnd mlns mlm ments sums mabs mmeas mdays mfacs out → R ch cnt gr fm fsz rows szs lns below msz solved ents above prods mats sys rgt csz ca cb cc meas joined dsz days facs thr mch pks libs msolved under smps ma mb mc stds mabove mbelow mcnt mbk mnx mfnd mlns mlm ments sums mabs mmeas mdays mfacs out) (hy1 : vp_in (y4 + (1 : Int32)) L) (hy2 : vp_in (y4 + (2 : Int32)) L) (hy3 : vp_in (y4 + (3 : Int32)) L) : vc_L_case_19 R xs L N ch cnt gr fm fsz rows szs lns below msz solved ents above prods mats sys rgt csz ca cb cc meas joined dsz days facs thr mch pks libs msolved under smps ma mb mc stds mabove mbelow mcnt mbk mnx mfnd mlns mlm ments sums mabs mmeas mdays mfacs out y4 := by
  unfold vc_L_case_19
  obtain ⟨hSp, hPe, hLi, hMi, hSa, hSt⟩ := hI
  unfold vc_L_corrected vc_X_corrected
  generalize xs ((y4 + (1 : Int32)).toNatClampNeg) = a1
  generalize xs ((y4 + (2 : Int32)).toNatClampNeg) = a2
  obtain ⟨n, hn, rfl, rfl, hk, hu⟩ := id hSt
  obtain ⟨hmd, hmu⟩ := rSt.md hk hu
  refine ⟨hy1, hy2, t_needValue (fun (u1 : 0 ≤ a1.toInt) (u2 : a1.toInt ≤ 100000) => t_needValue (fun (v1 : 0 ≤ a2.toInt) (v2 : a2.toInt ≤ 1000000) => ?_) (fun (v : ¬ (0 ≤ a2.toInt ∧ a2.toInt ≤ 1000000)) => ?_)) (fun (u : ¬ (0 ≤ a1.toInt ∧ a1.toInt ≤ 100000)) => ?_)⟩
  · refine x_factorOn hn (fun k hkn => (hk k hkn).2.2) hu (fun w hw => ?_)
    have pos := facV_pos (d := a1) (fun k hkn => (hk k hkn).2.2)
    rw [z_le]
    refine ⟨fun (q : w.toInt ≤ 0) => by omega, fun _ => ⟨fun e => ?_, in_01, hy1, hy2, m_corrected hn hmd hmu (fun q => absurd ⟨⟨u1, u2⟩, v1, v2⟩ q) (fun _ w' hw' => fin_l rfl (fun _ => ?_) (hR ⟨hSp, hPe, hLi, hMi, hSa, hSt⟩))⟩⟩
    · rw [y_eq, z64] at e
      have : w.toInt = 0 := e
      omega
    · have e : w = w' := z_eq.mpr (by rw [hw, hw', facV_congr (fun k hkn => ⟨(hk k hkn).1, (hk k hkn).2.1⟩)])
      rw [out_0, e, Int64.mul_comm]
  · exact ⟨rfl, hy1, hy2, m_corrected hn hmd hmu (fun _ => fin_l rfl (fun n => absurd n (by decide)) (hR ⟨hSp, hPe, hLi, hMi, hSa, hSt⟩)) (fun q => absurd q.2 v)⟩
  · exact ⟨rfl, hy1, hy2, m_corrected hn hmd hmu (fun _ => fin_l rfl (fun n => absurd n (by decide)) (hR ⟨hSp, hPe, hLi, hMi, hSa, hSt⟩)) (fun q => absurd q.1 u)⟩
