/-! element and detect -/
def absf (d : Int32) : Int32 := if 0 ≤ d then d else 0 - d
def nin (l : Nat → Int32) (c : Int32) (e : Nat) : Nat → Int32 × Int32 → Int32 × Int32
  | 0, s => s
  | k + 1, s => if (nin l c e k s).2 ≤ absf (l k - c) then nin l c e k s else (nI e, absf (l k - c))
def nout (l : Nat → Nat → Int32) (sz : Nat → Nat) (c tol : Int32) : Nat → Int32 × Int32
  | 0 => (-1, tol + 1)
  | e + 1 => nin (l e) c e (sz e) (nout l sz c tol e)
theorem x_nearest {post : Int32 → Prop} {szs : Nat → Int32} {l : Nat → Nat → Int32} {sz : Nat → Nat} {c tol : Int32} (hs : ∀ e, e < 8 → sz e ≤ 3 ∧ szs e = nI (sz e)) (h : post (nout l sz c tol 8).1) : vc_XLi_nearest post szs l c tol := by
  unfold vc_XLi_nearest
  rintro x rfl
  refine vlp3_i (fun b g y => ∃ e, y = nI e ∧ e ≤ 8 ∧ (b, g) = nout l sz c tol e) (fun _ _ y => 100 - y.toNatClampNeg) ?_ _ _ _ ⟨0, rfl, by omega, rfl⟩
  rintro R b g _ ⟨e, rfl, he, hbg⟩ hR
  rw [show (8 : Int32) = nI 8 from rfl, n_le (by omega) (by omega)]
  refine ⟨fun q => ?_, fun q => ?_⟩
  · obtain rfl : e = 8 := by omega
    rw [← hbg] at h; exact h
  · obtain ⟨hs3, hse⟩ := hs e (by omega)
    have ie : vp_in (nI e) 8 := in_nI (by omega) (by omega)
    refine vlp3_i (fun b' g' y => ∃ k, y = nI k ∧ k ≤ sz e ∧ (b', g') = nin (l e) c e k (b, g)) (fun _ _ y => 100 - y.toNatClampNeg) ?_ _ _ _ ⟨0, rfl, by omega, rfl⟩
    rintro R2 b' g' _ ⟨k, rfl, hk, hb'⟩ hR2
    rw [nI_clamp (by omega), hse, n_le (by omega) (by omega)]
    refine ⟨ie, fun q2 => ?_, fun q2 => ⟨ie, in_nI (by omega) (by omega), fun x hx => ?_⟩⟩
    · obtain rfl : k = sz e := by omega
      rw [n_add1]
      refine hR _ _ _ ⟨e + 1, rfl, by omega, ?_⟩ (by rw [nI_clamp (by omega), nI_clamp (by omega)]; omega)
      rw [hb', hbg]; rfl
    · rw [nI_clamp (by omega)] at hx
      have hx : x = absf (l e k - c) := hx
      rw [n_add1]
      have hd : (nI (k + 1)).toNatClampNeg = k + 1 := nI_clamp (by omega)
      have hd' : (nI k).toNatClampNeg = k := nI_clamp (by omega)
      refine ⟨fun q3 => hR2 _ _ _ ⟨k + 1, rfl, by omega, ?_⟩ (by rw [hd, hd']; omega), fun q3 => hR2 _ _ _ ⟨k + 1, rfl, by omega, ?_⟩ (by rw [hd, hd']; omega)⟩
      · unfold nin; rw [← hb', if_pos (by rw [← hx]; exact q3)]
      · unfold nin; rw [← hb', if_neg (by rw [← hx]; exact q3), hx]
theorem m_element {post : Int32 → Int32 → Prop} {thr : Int32} {p : Nat} {mlm mln f : Nat → Int32} {l : Nat → Nat → Int32} {sz : Nat → Nat} {a tol : Int32} (hp : p ≤ 12) (hs : ∀ e, e < 8 → sz e ≤ 3 ∧ mlm e = nI (sz e) ∧ ∀ k, k < sz e → l e k = mln (3 * e + k)) (h1 : ¬ (0 ≤ a.toInt ∧ a.toInt < p) → post 0 1) (h2 : (0 ≤ a.toInt ∧ a.toInt < p) → ¬ (0 ≤ tol.toInt ∧ tol.toInt ≤ 24) → post 0 2) (h3 : ∀ i, i < p → a = nI i → (0 ≤ tol.toInt ∧ tol.toInt ≤ 24) → post (nout l sz (f (5 * i)) tol 8).1 0) : vc_M_element post thr (nI p) mlm mln f a tol := by
  unfold vc_M_element
  have ep : (nI p).toInt = p := nI_toInt (by omega)
  refine t_isFound (by omega) (t_within (t_goes2 (fun c => ⟨fun n => absurd rfl n, fun _ => h1 (by rw [← ep]; exact c)⟩) (fun c c2 => ⟨fun n => absurd rfl n, fun _ => h2 (by rw [← ep]; exact c) c2⟩) (fun c c2 => ⟨fun _ => ?_, fun n => absurd n (by decide)⟩)))
  obtain ⟨i, hi, ei, rfl⟩ := z_nat c.1
  have h := h3 i (by omega) rfl c2
  have e5 : (5 : Int32) * nI i = nI (5 * i) := by
    rw [z_eq, z_mulc (n := 5) rfl (by omega) (by omega), ← ei, nI_toInt (by omega)]; omega
  rw [e5, nI_clamp (show 5 * i < 2 ^ 31 by omega)]
  have i5 : vp_in (nI (5 * i)) 60 := in_nI (by omega) (by omega)
  generalize f (5 * i) = c0 at h ⊢
  rintro x rfl
  refine vlp3_i (fun b g y => ∃ e, y = nI e ∧ e ≤ 8 ∧ (b, g) = nout l sz c0 tol e) (fun _ _ y => 100 - y.toNatClampNeg) ?_ _ _ _ ⟨0, rfl, by omega, rfl⟩
  rintro R b g _ ⟨e, rfl, he, hbg⟩ hR
  rw [show (8 : Int32) = nI 8 from rfl, n_le (by omega) (by omega)]
  refine ⟨fun q => ?_, fun q => ?_⟩
  · obtain rfl : e = 8 := by omega
    rw [← hbg] at h; exact h
  · obtain ⟨hs3, hse, hl⟩ := hs e (by omega)
    have ie : vp_in (nI e) 8 := in_nI (by omega) (by omega)
    have ee : (nI e).toInt = e := nI_toInt (by omega)
    have e3 : (3 : Int32) * nI e = nI (3 * e) := by
      rw [z_eq, z_mulc (n := 3) rfl (by omega) (by omega), ee, nI_toInt (by omega)]; omega
    rintro x rfl
    rw [e3]
    refine vlp3_i (fun b' g' y => ∃ k, y = nI (3 * e + k) ∧ k ≤ sz e ∧ (b', g') = nin (l e) c0 e k (b, g)) (fun _ _ y => 100 - y.toNatClampNeg) ?_ _ _ _ ⟨0, rfl, by omega, rfl⟩
    rintro R2 b' g' _ ⟨k, rfl, hk, hb'⟩ hR2
    rw [nI_clamp (show e < 2 ^ 31 by omega), hse, n_add (by omega), n_le (by omega) (by omega)]
    refine ⟨ie, fun q2 => ?_, fun q2 => ⟨in_nI (by omega) (by omega), i5, fun x hx => ?_⟩⟩
    · obtain rfl : k = sz e := by omega
      rw [n_add1]
      refine hR _ _ _ ⟨e + 1, rfl, by omega, ?_⟩ (by rw [nI_clamp (by omega), nI_clamp (by omega)]; omega)
      rw [hb', hbg]; rfl
    · rw [nI_clamp (by omega), ← hl k (by omega)] at hx
      intro J hJ
      have hd : (nI (3 * e + k + 1)).toNatClampNeg = 3 * e + k + 1 := nI_clamp (by omega)
      have hd' : (nI (3 * e + k)).toNatClampNeg = 3 * e + k := nI_clamp (by omega)
      have kJ : J (absf (l e k - c0)) := by
        refine hJ _ (fun J2 hJ2 => ?_)
        rw [n_add1] at hJ2
        refine ⟨fun q3 => hJ2 _ ⟨fun _ => ?_, fun n => absurd q3 n⟩, fun q3 => hJ2 _ ⟨fun n => absurd n q3, fun _ => ?_⟩⟩
        · refine hR2 _ _ _ ⟨k + 1, rfl, by omega, ?_⟩ (by rw [hd, hd']; omega)
          unfold nin; rw [← hb', if_pos q3]
        · refine hR2 _ _ _ ⟨k + 1, rfl, by omega, ?_⟩ (by rw [hd, hd']; omega)
          unfold nin; rw [← hb', if_neg q3]
      unfold absf at kJ
      rw [← hx] at kJ
      refine ⟨fun q => ?_, fun q => ?_⟩
      · rwa [if_pos q] at kJ
      · rwa [if_neg q] at kJ
/-- the sizes of rLi as numbers -/
theorem rLi.nat {szs : Nat → Int32} {lns : Nat → Nat → Int32} {mlm mlns : Nat → Int32} (h : rLi szs lns mlm mlns) : ∃ sz : Nat → Nat, ∀ e, e < 8 → sz e ≤ 3 ∧ szs e = nI (sz e) ∧ mlm e = nI (sz e) ∧ ∀ k, k < sz e → lns e k = mlns (3 * e + k) ∧ 0 ≤ (lns e k).toInt ∧ (lns e k).toInt < 24 := by
  refine ⟨fun e => (szs e).toNatClampNeg, fun e he => ?_⟩
  obtain ⟨s, hs, h1, h2, h3⟩ := h e he
  have : (szs e).toNatClampNeg = s := by rw [h1, nI_clamp (by omega)]
  dsimp only
  rw [this]
  exact ⟨hs, h1, h2, h3⟩
/-- a line at or next to a channel -/
def nrP (l : Nat → Int32) (i n : Nat) : Prop := ∃ k, k < n ∧ (l k).toInt ≤ i + 1 ∧ (i : Int) ≤ (l k).toInt + 1
noncomputable def dsum (l : Nat → Int32) (n : Nat) (gr : Nat → Int32) : Nat → Int32
  | 0 => 0
  | i + 1 => @ite Int32 (nrP l i n) (Classical.propDecidable _) (dsum l n gr i + gr i) (dsum l n gr i)
theorem dsum_no {l : Nat → Int32} {n : Nat} {gr : Nat → Int32} {i : Nat} (h : ¬ nrP l i n) : dsum l n gr (i + 1) = dsum l n gr i := if_neg h
theorem dsum_yes {l : Nat → Int32} {n : Nat} {gr : Nat → Int32} {i : Nat} (h : nrP l i n) : dsum l n gr (i + 1) = dsum l n gr i + gr i := if_pos h
theorem dsum_b {l : Nat → Int32} {n : Nat} {gr : Nat → Int32} {N : Nat} (hN : N ≤ 24) (h : ∀ k, k < N → 0 ≤ (gr k).toInt ∧ (gr k).toInt ≤ 500) : ∀ i, i ≤ N → 0 ≤ (dsum l n gr i).toInt ∧ (dsum l n gr i).toInt ≤ 500 * i
  | 0, _ => ⟨by show (0 : Int) ≤ 0; omega, by show (0 : Int) ≤ 500 * 0; omega⟩
  | i + 1, hi => by
    have ih := dsum_b (l := l) (n := n) hN h i (by omega)
    have hg := h i (by omega)
    unfold dsum
    by_cases c : nrP l i n
    · rw [if_pos c, z_add (by omega) (by omega)]; omega
    · rw [if_neg c]; omega
theorem dsum_congr {l : Nat → Int32} {n : Nat} {g g' : Nat → Int32} : ∀ i, (∀ k, k < i → g k = g' k) → dsum l n g i = dsum l n g' i
  | 0, _ => rfl
  | i + 1, h => by
    unfold dsum
    rw [dsum_congr i (fun k hk => h k (by omega)), h i (by omega)]
theorem x_isAt {post : Int32 → Prop} {szs : Nat → Int32} {l : Nat → Nat → Int32} {e s i : Nat} (he : e < 8) (hs : s ≤ 3) (hse : szs e = nI s) (hl : ∀ k, k < s → 0 ≤ (l e k).toInt ∧ (l e k).toInt < 24) (hi : i < 24) (h1 : nrP (l e) i s → post 1) (h0 : ¬ nrP (l e) i s → post 0) : vc_XLi_isAtOrNextTo post szs l (nI e) (nI i) := by
  unfold vc_XLi_isAtOrNextTo
  have ie : vp_in (nI e) 8 := in_nI (by omega) (by omega)
  rw [nI_clamp (show e < 2 ^ 31 by omega), hse]
  refine vlp1_i (fun y => ∃ k, y = nI k ∧ k ≤ s ∧ ¬ nrP (l e) i k) (fun y => 100 - y.toNatClampNeg) ?_ _ ⟨0, rfl, by omega, fun ⟨k, hk, _⟩ => absurd hk (Nat.not_lt_zero k)⟩
  rintro R _ ⟨k, rfl, hk, hn⟩ hR
  rw [n_le (by omega) (by omega)]
  refine ⟨ie, fun c => ?_, fun c => ⟨ie, in_nI (by omega) (by omega), ?_⟩⟩
  · obtain rfl : k = s := by omega
    exact h0 hn
  · rw [nI_clamp (by omega), n_add1]
    have hb := hl k (by omega)
    have ei : (nI i).toInt = i := nI_toInt (by omega)
    have es : (l e k - nI i).toInt = (l e k).toInt - i := by rw [z_sub, ei] <;> rw [ei] <;> omega
    have ea : (if 0 ≤ l e k - nI i then l e k - nI i else 0 - (l e k - nI i)).toInt = if 0 ≤ (l e k).toInt - i then (l e k).toInt - i else i - (l e k).toInt := by
      by_cases q : 0 ≤ (l e k).toInt - (i : Int)
      · rw [if_pos (by rw [z_le, es]; exact q), if_pos q, es]
      · rw [if_neg (by rw [z_le, es]; exact q), if_neg q, z_sub, es]
        · show 0 - _ = _; omega
        · rw [es]; show _ ≤ 0 - _; omega
        · rw [es]; show 0 - _ ≤ _; omega
    rw [z_lt, ea]
    refine ⟨fun (c2 : 1 < _) => hR _ ⟨k + 1, rfl, by omega, ?_⟩ (by rw [nI_clamp (by omega), nI_clamp (by omega)]; omega), fun (c2 : ¬ 1 < _) => h1 ⟨k, by omega, ?_⟩⟩
    · rintro ⟨j, hj, hj1, hj2⟩
      by_cases q : j = k
      · subst q
        by_cases z : 0 ≤ (l e j).toInt - (i : Int)
        · rw [if_pos z] at c2; omega
        · rw [if_neg z] at c2; omega
      · exact hn ⟨j, by omega, hj1, hj2⟩
    · by_cases z : 0 ≤ (l e k).toInt - (i : Int)
      · rw [if_pos z] at c2; omega
      · rw [if_neg z] at c2; omega
theorem sq_sq {r s : Nat} (h : r < s) : (r + 1) * (r + 1) ≤ s * s := Nat.mul_le_mul h h
theorem root_eq {r s v : Nat} (h1 : r * r ≤ v) (h2 : v < (r + 1) * (r + 1)) (h3 : s * s ≤ v) (h4 : v < (s + 1) * (s + 1)) : r = s := by
  rcases Nat.lt_trichotomy r s with c | c | c
  · have := sq_sq c; omega
  · exact c
  · have := sq_sq c; omega
theorem n_sq {r : Nat} (hr : r ≤ 1000) : (nI r + 1) * (nI r + 1) = nI ((r + 1) * (r + 1)) := by
  have hm : (r + 1) * (r + 1) ≤ 1001 * 1001 := Nat.mul_le_mul (by omega) (by omega)
  have e1 : (nI (r + 1)).toInt = ((r + 1 : Nat) : Int) := nI_toInt (by omega)
  rw [n_add1, z_eq, z_mul, e1, nI_toInt (by omega)]
  · rfl
  · rw [e1]; have : (0 : Int) ≤ ((r + 1 : Nat) : Int) * ((r + 1 : Nat) : Int) := Int.mul_nonneg (by omega) (by omega); omega
  · rw [e1]; have : ((r + 1 : Nat) : Int) * ((r + 1 : Nat) : Int) = (((r + 1) * (r + 1) : Nat) : Int) := rfl
    omega
theorem x_root {post : Int32 → Prop} {v : Nat} (hv : v ≤ 900000) (h : ∀ r, r * r ≤ v → v < (r + 1) * (r + 1) → post (nI r)) : vc_X_rootDown post (nI v) := by
  unfold vc_X_rootDown
  refine vlp1_i (fun y => ∃ r, y = nI r ∧ r ≤ 1000 ∧ r * r ≤ v) (fun y => 2000 - y.toNatClampNeg) ?_ _ ⟨0, rfl, by omega, by omega⟩
  rintro R _ ⟨r, rfl, hr, hrv⟩ hR
  have hm : (r + 1) * (r + 1) ≤ 1001 * 1001 := Nat.mul_le_mul (by omega) (by omega)
  rw [n_sq hr, show (1000 : Int32) = nI 1000 from rfl, n_le (by omega) (by omega), n_lt (by omega) (by omega)]
  refine ⟨fun c => ?_, fun c => ⟨fun c2 => h r hrv c2, fun c2 => ?_⟩⟩
  · obtain rfl : r = 1000 := by omega
    omega
  · rw [n_add1]
    exact hR _ ⟨r + 1, rfl, by omega, by omega⟩ (by rw [nI_clamp (by omega), nI_clamp (by omega)]; omega)
theorem m_detect {post : Int32 → Int32 → Prop} {thr : Int32} {N : Nat} {mlm mln bk : Nat → Int32} {l : Nat → Nat → Int32} {sz : Nat → Nat} {a : Int32} (hN : N ≤ 24) (hs : ∀ e, e < 8 → sz e ≤ 3 ∧ mlm e = nI (sz e) ∧ ∀ k, k < sz e → l e k = mln (3 * e + k) ∧ 0 ≤ (l e k).toInt ∧ (l e k).toInt < 24) (hb : ∀ k, k < N → 0 ≤ (bk k).toInt ∧ (bk k).toInt ≤ 500) (h1 : ¬ (0 ≤ a.toInt ∧ a.toInt ≤ 7) → post 0 1) (h3 : ∀ e, e < 8 → a = nI e → ∀ r : Nat, ((r * r : Nat) : Int) ≤ 9 * (dsum (l e) (sz e) bk N).toInt → 9 * (dsum (l e) (sz e) bk N).toInt < (((r + 1) * (r + 1) : Nat) : Int) → post (nI r) 0) : vc_M_detect post thr (nI N) mlm mln bk a := by
  unfold vc_M_detect
  refine t_within (t_goes1 (fun c => ⟨fun n => absurd rfl n, fun _ => h1 c⟩) (fun c => ⟨fun _ => ?_, fun n => absurd n (by decide)⟩))
  obtain ⟨e, he', ee, rfl⟩ := z_nat c.1
  have he : e < 8 := by have : (nI e).toInt ≤ 7 := c.2; omega
  have h3 := h3 e he rfl
  obtain ⟨hs3, hse, hl⟩ := hs e he
  have ie : vp_in (nI e) 8 := in_nI (by omega) (by omega)
  have e3 : (3 : Int32) * nI e = nI (3 * e) := by
    rw [z_eq, z_mulc (n := 3) rfl (by omega) (by omega), ← ee, nI_toInt (by omega)]; omega
  rw [e3, nI_clamp (show e < 2 ^ 31 by omega), hse, n_add (by omega)]
  refine vlp2_i (fun s y => ∃ i, y = nI i ∧ i ≤ N ∧ s = dsum (l e) (sz e) bk i) (fun _ y => 100 - y.toNatClampNeg) ?_ _ _ ⟨0, rfl, by omega, rfl⟩
  rintro R _ _ ⟨i, rfl, hi, rfl⟩ hR
  rw [n_le (by omega) (by omega)]
  refine ⟨fun c => ?_, fun c => ?_⟩
  · obtain rfl : i = N := by omega
    have hd := dsum_b (l := l e) (n := sz e) hN hb i (Nat.le_refl _)
    obtain ⟨v, hv, ev, evv⟩ := z_nat hd.1
    rw [← ev] at h3 hd
    have e9 : (9 : Int32) * dsum (l e) (sz e) bk i = nI (9 * v) := by
      rw [z_eq, z_mulc (n := 9) rfl (by omega) (by omega), ← ev, nI_toInt (by omega)]; omega
    rw [e9]
    refine vlp1_i (fun y => ∃ r, y = nI r ∧ r ≤ 1000 ∧ r * r ≤ 9 * v) (fun y => 2000 - y.toNatClampNeg) ?_ _ ⟨0, rfl, by omega, by omega⟩
    rintro R _ ⟨r, rfl, hr, hrv⟩ hR
    have hm : (r + 1) * (r + 1) ≤ 1001 * 1001 := Nat.mul_le_mul (by omega) (by omega)
    rw [n_sq hr, n_lt (by omega) (by omega)]
    refine ⟨fun c2 => h3 r (by omega) (by omega), fun c2 => ?_⟩
    rw [n_add1]
    refine hR _ ⟨r + 1, rfl, ?_, by omega⟩ (by rw [nI_clamp (by omega), nI_clamp (by omega)]; omega)
    rcases Nat.lt_or_ge r 1000 with q | q
    · omega
    · have : 1001 * 1001 ≤ (r + 1) * (r + 1) := Nat.mul_le_mul (by omega) (by omega)
      omega
  · rintro x rfl
    have it : vp_in (nI i) 24 := in_nI (by omega) (by omega)
    have hd : (nI (i + 1)).toNatClampNeg = i + 1 := nI_clamp (by omega)
    have hd' : (nI i).toNatClampNeg = i := nI_clamp (by omega)
    refine vlp2_i (fun z y => ∃ k, y = nI (3 * e + k) ∧ k ≤ sz e ∧ ((z = 0 ∧ ¬ nrP (l e) i k) ∨ (z = 1 ∧ nrP (l e) i k))) (fun _ y => 100 - y.toNatClampNeg) ?_ _ _ ⟨0, rfl, by omega, Or.inl ⟨rfl, fun ⟨k, hk, _⟩ => absurd hk (Nat.not_lt_zero k)⟩⟩
    rintro R2 z _ ⟨k, rfl, hk, hz⟩ hR2
    rw [n_le (by omega) (by omega)]
    have nx : ∀ z', ¬ sz e ≤ k → ((z' = 0 ∧ ¬ nrP (l e) i (k + 1)) ∨ (z' = 1 ∧ nrP (l e) i (k + 1))) → R2 z' (nI (3 * e + k) + 1) := by
      intro z' c2 hz'
      rw [n_add1]
      exact hR2 _ _ ⟨k + 1, rfl, by omega, hz'⟩ (by rw [nI_clamp (by omega), nI_clamp (by omega)]; omega)
    refine ⟨ie, fun c2 => ?_, fun c2 => ?_⟩
    · obtain rfl : k = sz e := by omega
      rw [n_add1]
      rcases hz with ⟨rfl, hn⟩ | ⟨rfl, hn⟩
      · refine ⟨fun _ => hR _ _ ⟨i + 1, rfl, by omega, ?_⟩ (by rw [hd, hd']; omega), fun n => absurd rfl n⟩
        rw [dsum_no hn]
      · refine ⟨fun n => absurd n (by decide), fun _ => ⟨it, fun x hx => hR _ _ ⟨i + 1, rfl, by omega, ?_⟩ (by rw [hd, hd']; omega)⟩⟩
        rw [hx, hd', dsum_yes hn]
    · have c2 : ¬ sz e ≤ k := by omega
      rcases hz with ⟨rfl, hn⟩ | ⟨rfl, hn⟩
      · refine ⟨fun n => absurd rfl n, fun _ => ⟨in_nI (by omega) (by omega), t_within ?_⟩⟩
        rw [nI_clamp (by omega), ← (hl k (by omega)).1]
        have ei : (nI i).toInt = i := nI_toInt (by omega)
        have em : (nI i - 1).toInt = (i : Int) - 1 := by
          rw [z_sub, ei]; rfl
          · rw [ei]; show _ ≤ (i : Int) - 1; omega
          · rw [ei]; show (i : Int) - 1 ≤ _; omega
        have ea : (nI i + 1).toInt = (i : Int) + 1 := by rw [n_add1, nI_toInt (by omega)]; rfl
        rw [em, ea]
        simp only [bi_0, Classical.not_not]
        refine ⟨fun q => nx _ c2 (Or.inl ⟨rfl, ?_⟩), fun q => nx _ c2 (Or.inr ⟨rfl, k, by omega, by omega, by omega⟩)⟩
        rintro ⟨j, hj, hj1, hj2⟩
        by_cases z : j = k
        · subst z; exact q ⟨by omega, by omega⟩
        · exact hn ⟨j, by omega, hj1, hj2⟩
      · exact ⟨fun _ => nx _ c2 (Or.inr ⟨rfl, by obtain ⟨j, hj, r⟩ := hn; exact ⟨j, by omega, r⟩⟩), fun n => absurd n (by decide)⟩
theorem pc_6 {R : Int32 → (Nat → Int32) → (Nat → Int32) → (Nat → Int32) → Int32 → (Nat → Nat → Int32) → (Nat → Int32) → (Nat → Nat → Int32) → Int64 → Int32 → Int32 → (Nat → Nat → Int32) → (Nat → Int64) → (Nat → Nat → Int64) → (Nat → Int64) → (Nat → Nat → Int64) → (Nat → Int64) → Int32 → Int64 → Int64 → Int64 → (Nat → Nat → Int32) → (Nat → Int32) → Int32 → (Nat → Int32) → (Nat → Int32) → Int32 → Int32 → Int32 → Int32 → Int32 → Int64 → Int32 → Int32 → Int32 → Int32 → Int32 → Int64 → Int64 → (Nat → Int32) → (Nat → Int32) → (Nat → Int32) → (Nat → Int32) → (Nat → Int32) → (Nat → Int32) → (Nat → Int32) → (Nat → Int64) → (Nat → Int64) → (Nat → Int32) → (Nat → Int32) → (Nat → Int32) → (Nat → Int64) → Prop} {xs : Nat → Int32} {L N : Nat} {ch : Int32} {cnt : Nat → Int32} {gr : Nat → Int32} {fm : Nat → Int32} {fsz : Int32} {rows : Nat → Nat → Int32} {szs : Nat → Int32} {lns : Nat → Nat → Int32} {below : Int64} {msz : Int32} {solved : Int32} {ents : Nat → Nat → Int32} {above : Nat → Int64} {prods : Nat → Nat → Int64} {mats : Nat → Int64} {sys : Nat → Nat → Int64} {rgt : Nat → Int64} {csz : Int32} {ca : Int64} {cb : Int64} {cc : Int64} {meas : Nat → Nat → Int32} {joined : Nat → Int32} {dsz : Int32} {days : Nat → Int32} {facs : Nat → Int32} {thr : Int32} {mch : Int32} {pks : Int32} {libs : Int32} {msolved : Int32} {under : Int64} {smps : Int32} {ma : Int32} {mb : Int32} {mc : Int32} {stds : Int32} {mabove : Int64} {mbelow : Int64} {mcnt : Nat → Int32} {mbk : Nat → Int32} {mnx : Nat → Int32} {mfnd : Nat → Int32} {mlns : Nat → Int32} {mlm : Nat → Int32} {ments : Nat → Int32} {sums : Nat → Int64} {mabs : Nat → Int64} {mmeas : Nat → Int32} {mdays : Nat → Int32} {mfacs : Nat → Int32} {out : Nat → Int64} {y4 : Int32} (hI : pI N ch cnt gr fm fsz rows szs lns below msz solved ents above prods mats sys rgt csz ca cb cc meas joined dsz days facs thr mch pks libs msolved under smps ma mb mc stds mabove mbelow mcnt mbk mnx mfnd mlns mlm ments sums mabs mmeas mdays mfacs out) (hR : ∀ {ch cnt gr fm fsz rows szs lns below msz solved ents above prods mats sys rgt csz ca cb cc meas joined dsz days facs thr mch pks libs msolved under smps ma mb mc stds mabove mbelow mcnt mbk mnx mfnd mlns mlm ments sums mabs mmeas mdays mfacs out}, pI N ch cnt gr fm fsz rows szs lns below msz solved ents above prods mats sys rgt csz ca cb cc meas joined dsz days facs thr mch pks libs msolved under smps ma mb mc stds mabove mbelow mcnt mbk mnx mfnd mlns mlm ments sums mabs mmeas mdays mfacs out → R ch cnt gr fm fsz rows szs lns below msz solved ents above prods mats sys rgt csz ca cb cc meas joined dsz days facs thr mch pks libs msolved under smps ma mb mc stds mabove mbelow mcnt mbk mnx mfnd mlns mlm ments sums mabs mmeas mdays mfacs out) (hy1 : vp_in (y4 + (1 : Int32)) L) (hy2 : vp_in (y4 + (2 : Int32)) L) (hy3 : vp_in (y4 + (3 : Int32)) L) : vc_L_case_6 R xs L N ch cnt gr fm fsz rows szs lns below msz solved ents above prods mats sys rgt csz ca cb cc meas joined dsz days facs thr mch pks libs msolved under smps ma mb mc stds mabove mbelow mcnt mbk mnx mfnd mlns mlm ments sums mabs mmeas mdays mfacs out y4 := by
  unfold vc_L_case_6
  obtain ⟨hSp, hPe, hLi, hMi, hSa, hSt⟩ := hI
  unfold vc_L_element vc_X_element
  generalize xs ((y4 + (1 : Int32)).toNatClampNeg) = a1
  generalize xs ((y4 + (2 : Int32)).toNatClampNeg) = a2
  obtain ⟨p, hp12, hpN, rfl, rfl, hrow, hr0⟩ := id hPe
  obtain ⟨sz, hz⟩ := hLi.nat
  obtain ⟨hch, hmch, hN4, hN⟩ := hSp.ch
  have ep : (nI p).toInt = p := nI_toInt (by omega)
  have hz1 : ∀ e, e < 8 → sz e ≤ 3 ∧ szs e = nI (sz e) := fun e he => ⟨(hz e he).1, (hz e he).2.1⟩
  have hz2 : ∀ e, e < 8 → sz e ≤ 3 ∧ mlm e = nI (sz e) ∧ ∀ k, k < sz e → lns e k = mlns (3 * e + k) := fun e he => ⟨(hz e he).1, (hz e he).2.2.1, fun k hk => ((hz e he).2.2.2 k hk).1⟩
  refine ⟨hy1, hy2, t_needIndex (fun i1 i2 => t_needValue (fun (v1 : 0 ≤ a2.toInt) (v2 : a2.toInt ≤ 24) => ?_) (fun (vn : ¬ (0 ≤ a2.toInt ∧ a2.toInt ≤ 24)) => ?_)) (fun i => ?_)⟩
  · obtain ⟨k, hk, ek, rfl⟩ := z_nat i1
    refine ⟨vp_in_iff.mpr (by decide), in_nI (by omega) (by omega), x_nearest hz1 ⟨in_01, hy1, hy2, m_element hp12 hz2 (fun n => absurd ⟨i1, by omega⟩ n) (fun _ n => absurd ⟨v1, v2⟩ n) (fun k2 hk2 e2 _ => fin_i rfl (fun _ => ?_) (hR ⟨hSp, hPe, hLi, hMi, hSa, hSt⟩))⟩⟩
    obtain rfl : k = k2 := (n_eq (by omega) (by omega)).mp e2
    rw [out_0, nI_clamp (show k < 2 ^ 31 by omega)]
    show (nout lns sz (rows 0 k) a2 8).1.toInt64 = _
    rw [hrow k 0 (by omega) (by omega)]
    rfl
  · exact Or.inr ⟨rfl, hy1, hy2, m_element hp12 hz2 (fun n => absurd ⟨i1, by omega⟩ n) (fun _ _ => fin_i rfl (fun n => absurd n (by decide)) (hR ⟨hSp, hPe, hLi, hMi, hSa, hSt⟩)) (fun _ _ _ n => absurd n vn)⟩
  · exact Or.inl ⟨rfl, hy1, hy2, m_element hp12 hz2 (fun _ => fin_i rfl (fun n => absurd n (by decide)) (hR ⟨hSp, hPe, hLi, hMi, hSa, hSt⟩)) (fun n => absurd (by omega) i) (fun k hk e => absurd (by rw [e, nI_toInt (by omega)]; omega) i)⟩
theorem pc_7 {R : Int32 → (Nat → Int32) → (Nat → Int32) → (Nat → Int32) → Int32 → (Nat → Nat → Int32) → (Nat → Int32) → (Nat → Nat → Int32) → Int64 → Int32 → Int32 → (Nat → Nat → Int32) → (Nat → Int64) → (Nat → Nat → Int64) → (Nat → Int64) → (Nat → Nat → Int64) → (Nat → Int64) → Int32 → Int64 → Int64 → Int64 → (Nat → Nat → Int32) → (Nat → Int32) → Int32 → (Nat → Int32) → (Nat → Int32) → Int32 → Int32 → Int32 → Int32 → Int32 → Int64 → Int32 → Int32 → Int32 → Int32 → Int32 → Int64 → Int64 → (Nat → Int32) → (Nat → Int32) → (Nat → Int32) → (Nat → Int32) → (Nat → Int32) → (Nat → Int32) → (Nat → Int32) → (Nat → Int64) → (Nat → Int64) → (Nat → Int32) → (Nat → Int32) → (Nat → Int32) → (Nat → Int64) → Prop} {xs : Nat → Int32} {L N : Nat} {ch : Int32} {cnt : Nat → Int32} {gr : Nat → Int32} {fm : Nat → Int32} {fsz : Int32} {rows : Nat → Nat → Int32} {szs : Nat → Int32} {lns : Nat → Nat → Int32} {below : Int64} {msz : Int32} {solved : Int32} {ents : Nat → Nat → Int32} {above : Nat → Int64} {prods : Nat → Nat → Int64} {mats : Nat → Int64} {sys : Nat → Nat → Int64} {rgt : Nat → Int64} {csz : Int32} {ca : Int64} {cb : Int64} {cc : Int64} {meas : Nat → Nat → Int32} {joined : Nat → Int32} {dsz : Int32} {days : Nat → Int32} {facs : Nat → Int32} {thr : Int32} {mch : Int32} {pks : Int32} {libs : Int32} {msolved : Int32} {under : Int64} {smps : Int32} {ma : Int32} {mb : Int32} {mc : Int32} {stds : Int32} {mabove : Int64} {mbelow : Int64} {mcnt : Nat → Int32} {mbk : Nat → Int32} {mnx : Nat → Int32} {mfnd : Nat → Int32} {mlns : Nat → Int32} {mlm : Nat → Int32} {ments : Nat → Int32} {sums : Nat → Int64} {mabs : Nat → Int64} {mmeas : Nat → Int32} {mdays : Nat → Int32} {mfacs : Nat → Int32} {out : Nat → Int64} {y4 : Int32} (hI : pI N ch cnt gr fm fsz rows szs lns below msz solved ents above prods mats sys rgt csz ca cb cc meas joined dsz days facs thr mch pks libs msolved under smps ma mb mc stds mabove mbelow mcnt mbk mnx mfnd mlns mlm ments sums mabs mmeas mdays mfacs out) (hR : ∀ {ch cnt gr fm fsz rows szs lns below msz solved ents above prods mats sys rgt csz ca cb cc meas joined dsz days facs thr mch pks libs msolved under smps ma mb mc stds mabove mbelow mcnt mbk mnx mfnd mlns mlm ments sums mabs mmeas mdays mfacs out}, pI N ch cnt gr fm fsz rows szs lns below msz solved ents above prods mats sys rgt csz ca cb cc meas joined dsz days facs thr mch pks libs msolved under smps ma mb mc stds mabove mbelow mcnt mbk mnx mfnd mlns mlm ments sums mabs mmeas mdays mfacs out → R ch cnt gr fm fsz rows szs lns below msz solved ents above prods mats sys rgt csz ca cb cc meas joined dsz days facs thr mch pks libs msolved under smps ma mb mc stds mabove mbelow mcnt mbk mnx mfnd mlns mlm ments sums mabs mmeas mdays mfacs out) (hy1 : vp_in (y4 + (1 : Int32)) L) (hy2 : vp_in (y4 + (2 : Int32)) L) (hy3 : vp_in (y4 + (3 : Int32)) L) : vc_L_case_7 R xs L N ch cnt gr fm fsz rows szs lns below msz solved ents above prods mats sys rgt csz ca cb cc meas joined dsz days facs thr mch pks libs msolved under smps ma mb mc stds mabove mbelow mcnt mbk mnx mfnd mlns mlm ments sums mabs mmeas mdays mfacs out y4 := by
  unfold vc_L_case_7
  obtain ⟨hSp, hPe, hLi, hMi, hSa, hSt⟩ := hI
  unfold vc_L_detect vc_X_detect
  generalize xs ((y4 + (1 : Int32)).toNatClampNeg) = a1
  obtain ⟨sz, hz⟩ := hLi.nat
  obtain ⟨hN4, hN, rfl, rfl, hcn, hgr⟩ := id hSp
  have hz2 : ∀ e, e < 8 → sz e ≤ 3 ∧ mlm e = nI (sz e) ∧ ∀ k, k < sz e → lns e k = mlns (3 * e + k) ∧ 0 ≤ (lns e k).toInt ∧ (lns e k).toInt < 24 := fun e he => ⟨(hz e he).1, (hz e he).2.2.1, fun k hk => (hz e he).2.2.2 k hk⟩
  have hb : ∀ k, k < N → 0 ≤ (mbk k).toInt ∧ (mbk k).toInt ≤ 500 := fun k hk => by rw [← (hgr k hk).1]; exact (hgr k hk).2
  refine ⟨hy1, t_needIndex (fun i1 (i2 : a1.toInt < 8) => ?_) (fun (i : ¬ (0 ≤ a1.toInt ∧ a1.toInt < 8)) => ?_)⟩
  · obtain ⟨e, he, ee, rfl⟩ := z_nat i1
    have he8 : e < 8 := by omega
    refine vlp2_i (fun s y => ∃ i, y = nI i ∧ i ≤ N ∧ s = dsum (lns e) (sz e) gr i) (fun _ y => 100 - y.toNatClampNeg) ?_ _ _ ⟨0, rfl, by omega, rfl⟩
    rintro R2 _ _ ⟨i, rfl, hi, rfl⟩ hR2
    rw [n_le (by omega) (by omega), n_add1]
    have hd : (nI (i + 1)).toNatClampNeg = i + 1 := nI_clamp (by omega)
    have hd' : (nI i).toNatClampNeg = i := nI_clamp (by omega)
    refine ⟨fun c => ?_, fun c => x_isAt he8 (hz e he8).1 (hz e he8).2.1 (fun k hk => ((hz e he8).2.2.2 k hk).2) (by omega) (fun hn => ⟨fun n => absurd n (by decide), fun _ => ⟨in_nI (by omega) (by omega), fun x hx => hR2 _ _ ⟨i + 1, rfl, by omega, ?_⟩ (by rw [hd, hd']; omega)⟩⟩) (fun hn => ⟨fun _ => hR2 _ _ ⟨i + 1, rfl, by omega, ?_⟩ (by rw [hd, hd']; omega), fun n => absurd rfl n⟩)⟩
    · obtain rfl : i = N := by omega
      have hdb := dsum_b (l := lns e) (n := sz e) hN (fun k hk => (hgr k hk).2) i (Nat.le_refl _)
      obtain ⟨v, hv, ev, evv⟩ := z_nat hdb.1
      have e9 : (9 : Int32) * dsum (lns e) (sz e) gr i = nI (9 * v) := by
        rw [z_eq, z_mulc (n := 9) rfl (by omega) (by omega), ← ev, nI_toInt (by omega)]; omega
      rw [e9]
      refine x_root (by omega) (fun r hr1 hr2 => ⟨in_01, hy1, m_detect hN hz2 hb (fun n => absurd ⟨i1, by omega⟩ n) (fun e2 he2 ee2 s hs1 hs2 => fin_i rfl (fun _ => ?_) (hR ⟨hSp, hPe, hLi, hMi, hSa, hSt⟩))⟩)
      obtain rfl : e = e2 := (n_eq (by omega) (by omega)).mp ee2
      rw [← dsum_congr i (fun k hk => (hgr k hk).1), ← ev] at hs1 hs2
      rw [out_0, root_eq hr1 hr2 (s := s) (by omega) (by omega)]
    · rw [hx, hd', dsum_yes hn]
    · rw [dsum_no hn]
  · exact ⟨rfl, hy1, m_detect hN hz2 hb (fun _ => fin_i rfl (fun n => absurd n (by decide)) (hR ⟨hSp, hPe, hLi, hMi, hSa, hSt⟩)) (fun e he ee => absurd (by rw [ee, nI_toInt (by omega)]; omega) i)⟩
