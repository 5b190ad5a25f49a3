/-! peaks -/
def netf (cnt gr : Nat → Int32) (k : Nat) : Int32 := if (0 : Int32) < cnt k - gr k then cnt k - gr k else 0
theorem netf_i {cnt gr : Nat → Int32} {k : Nat} (h1 : 0 ≤ (cnt k).toInt) (h2 : (cnt k).toInt ≤ 500) (h3 : 0 ≤ (gr k).toInt) (h4 : (gr k).toInt ≤ 500) : (netf cnt gr k).toInt = if (gr k).toInt < (cnt k).toInt then (cnt k).toInt - (gr k).toInt else 0 := by
  unfold netf
  have e : (cnt k - gr k).toInt = (cnt k).toInt - (gr k).toInt := z_sub (by omega) (by omega)
  by_cases c : (gr k).toInt < (cnt k).toInt
  · rw [if_pos (by rw [z_lt, e]; show 0 < _; omega), if_pos c, e]
  · rw [if_neg (by rw [z_lt, e]; show ¬ 0 < _; omega), if_neg c]; rfl
theorem netf_b {cnt gr : Nat → Int32} {k : Nat} (h1 : 0 ≤ (cnt k).toInt) (h2 : (cnt k).toInt ≤ 500) (h3 : 0 ≤ (gr k).toInt) (h4 : (gr k).toInt ≤ 500) : 0 ≤ (netf cnt gr k).toInt ∧ (netf cnt gr k).toInt ≤ 500 := by
  rw [netf_i h1 h2 h3 h4]
  by_cases c : (gr k).toInt < (cnt k).toInt
  · rw [if_pos c]; omega
  · rw [if_neg c]; omega
theorem netf_congr {c g c' g' : Nat → Int32} {k : Nat} (h1 : c k = c' k) (h2 : g k = g' k) : netf c g k = netf c' g' k := by
  unfold netf; rw [h1, h2]
theorem x_netAt {post : Int32 → Prop} {N : Nat} {cnt gr : Nat → Int32} {k : Nat} (hk : k < N) (hN : N ≤ 24) (h : post (netf cnt gr k)) : vc_XSp_netAt post N cnt gr (nI k) := by
  unfold vc_XSp_netAt
  rw [nI_clamp (by omega)]
  exact ⟨in_nI hk (by omega), in_nI hk (by omega), h⟩
/-- the net channels are good ones -/
def good (N : Nat) (cnt gr : Nat → Int32) : Prop := N ≤ 24 ∧ ∀ k, k < N → 0 ≤ (cnt k).toInt ∧ (cnt k).toInt ≤ 500 ∧ 0 ≤ (gr k).toInt ∧ (gr k).toInt ≤ 500
theorem m_net {post : Int32 → Prop} {N : Nat} {cnt gr : Nat → Int32} {k : Nat} (hg : good N cnt gr) (hk : k < N) (h : post (netf cnt gr k)) : vc_M_net post cnt gr (nI k) := by
  unfold vc_M_net
  have hN := hg.1
  have hi : vp_in (nI k) 24 := in_nI (by omega) (by omega)
  obtain ⟨h1, h2, h3, h4⟩ := hg.2 k hk
  have e : (cnt k - gr k).toInt = (cnt k).toInt - (gr k).toInt := z_sub (by omega) (by omega)
  rw [nI_clamp (by omega), z_le]
  unfold netf at h
  refine ⟨hi, hi, fun c => ?_, fun c => ⟨hi, hi, ?_⟩⟩
  · rwa [if_neg (by rw [z_lt, e]; show ¬ 0 < _; omega)] at h
  · rwa [if_pos (by rw [z_lt, e]; show 0 < _; omega)] at h
abbrev isT (w : Nat → Int32) (N i : Nat) : Prop := (i = 0 ∨ w (i - 1) < w i) ∧ (N ≤ i + 1 ∨ w (i + 1) ≤ w i)
abbrev isP (w : Nat → Int32) (lvl : Int32) (N i : Nat) : Prop := lvl < w i ∧ isT w N i
theorem x_isTop {post : Int32 → Prop} {N : Nat} {cnt gr : Nat → Int32} {i : Nat} (hi : i < N) (hN : N ≤ 24) (h : post (bi (isT (netf cnt gr) N i))) : vc_XPe_isTop post N (nI N) cnt gr (nI i) := by
  unfold vc_XPe_isTop
  refine x_netAt hi hN (fun J hJ => ?_)
  have hi0 : nI i ≤ 0 ↔ i = 0 := by rw [n_0, n_le (by omega) (by omega)]; omega
  have kJ : (i = 0 ∨ netf cnt gr (i - 1) < netf cnt gr i) → J := by
    intro c
    refine hJ ?_
    rw [n_add1, n_le (by omega) (by omega)]
    refine ⟨fun c2 => ?_, fun c2 => x_netAt (by omega) hN ⟨fun c3 => ?_, fun c3 => ?_⟩⟩
    · rwa [bi_t ⟨c, Or.inl c2⟩] at h
    · rwa [bi_f (fun n => by rcases n.2 with n | n; exact absurd n c2; exact absurd c3 (Int32.not_lt.mpr n))] at h
    · rwa [bi_t ⟨c, Or.inr (Int32.not_lt.mp c3)⟩] at h
  rw [hi0]
  refine ⟨fun c => kJ (Or.inl c), fun c => ?_⟩
  rw [n_1, n_sub (by omega) (by omega)]
  refine x_netAt (by omega) hN ⟨fun c2 => kJ (Or.inr c2), fun c2 => ?_⟩
  rwa [bi_f (fun n => by rcases n.1 with n | n; exact absurd n c; exact absurd n c2)] at h
theorem m_isPeak {post : Int32 → Prop} {N : Nat} {cnt gr : Nat → Int32} {i : Nat} {lvl : Int32} (hg : good N cnt gr) (hi : i < N) (h : post (bi (isP (netf cnt gr) lvl N i))) : vc_M_isPeak post (nI N) cnt gr (nI i) lvl := by
  unfold vc_M_isPeak
  have hN := hg.1
  intro J hJ
  have k1 : ∀ z : Int32, z = bi (i = 0 ∨ netf cnt gr (i - 1) < netf cnt gr i) → J z := by
    rintro z rfl
    refine hJ _ (fun J2 hJ2 => ?_)
    have k2 : ∀ z : Int32, z = bi (N ≤ i + 1 ∨ netf cnt gr (i + 1) ≤ netf cnt gr i) → J2 z := by
      rintro z rfl
      refine hJ2 _ (m_net hg hi ⟨fun c => ?_, fun c => ?_⟩)
      · rwa [bi_f (fun n => absurd c (Int32.not_le.mpr n.1))] at h
      · simp only [bi_0, Classical.not_not]
        refine ⟨fun c2 => ?_, fun c2 => ⟨fun c3 => ?_, fun c3 => ?_⟩⟩
        · rwa [bi_f (fun n => c2 n.2.1)] at h
        · rwa [bi_f (fun n => c3 n.2.2)] at h
        · rwa [bi_t ⟨Int32.not_le.mp c, c2, c3⟩] at h
    intro J3 hJ3
    rw [n_1, n_sub (by omega) (by omega), n_eq (by omega) (by omega)]
    refine ⟨fun c => hJ3 (k2 _ (bi_t (Or.inl (by omega))).symm), fun c => ?_⟩
    rw [n_add (by omega)]
    refine m_net hg hi (m_net hg (by omega) ⟨fun c2 => k2 _ (bi_f (fun n => by rcases n with n | n; omega; exact absurd c2 (Int32.not_lt.mpr n))).symm, fun c2 => hJ3 (k2 _ (bi_t (Or.inr (Int32.not_lt.mp c2))).symm)⟩)
  intro J4 hJ4
  have hi0 : nI i = 0 ↔ i = 0 := by rw [n_0, n_eq (by omega) (by omega)]
  rw [hi0]
  refine ⟨fun c => hJ4 (k1 _ (bi_t (Or.inl c)).symm), fun c => ?_⟩
  rw [n_1, n_sub (by omega) (by omega)]
  exact m_net hg hi (m_net hg (by omega) ⟨fun c2 => k1 _ (bi_f (fun n => by rcases n with n | n; exact absurd n c; exact absurd c2 (Int32.not_le.mpr n))).symm, fun c2 => hJ4 (k1 _ (bi_t (Or.inr (Int32.not_le.mp c2))).symm)⟩)
def firstf (w : Nat → Int32) : Nat → Nat
  | 0 => 0
  | k + 1 => if 0 < w k ∧ w k < w (k + 1) then firstf w k else k + 1
def lastf (w : Nat → Int32) (N : Nat) : Nat → Nat → Nat
  | 0, k => k
  | f + 1, k => if k + 1 < N ∧ 0 < w (k + 1) ∧ w (k + 1) ≤ w k then lastf w N f (k + 1) else k
theorem firstf_le (w : Nat → Int32) : ∀ k, firstf w k ≤ k
  | 0 => Nat.le_refl _
  | k + 1 => by
    unfold firstf
    by_cases c : 0 < w k ∧ w k < w (k + 1)
    · rw [if_pos c]; have := firstf_le w k; omega
    · rw [if_neg c]; exact Nat.le_refl _
theorem lastf_ge (w : Nat → Int32) (N : Nat) : ∀ f k, k < N → k ≤ lastf w N f k ∧ lastf w N f k < N
  | 0, k, h => ⟨Nat.le_refl _, h⟩
  | f + 1, k, h => by
    unfold lastf
    by_cases c : k + 1 < N ∧ 0 < w (k + 1) ∧ w (k + 1) ≤ w k
    · rw [if_pos c]; have := lastf_ge w N f (k + 1) c.1; omega
    · rw [if_neg c]; exact ⟨Nat.le_refl _, h⟩
def sumr (w : Nat → Int32) (a : Nat) : Nat → Int32
  | 0 => 0
  | n + 1 => sumr w a n + w (a + n)
theorem x_first {post : Int32 → Prop} {N : Nat} {cnt gr : Nat → Int32} {i : Nat} (hi : i < N) (hN : N ≤ 24) (h : post (nI (firstf (netf cnt gr) i))) : vc_XPe_firstOfSpan post N cnt gr (nI i) := by
  unfold vc_XPe_firstOfSpan
  refine vlp1_i (fun y => ∃ k, y = nI k ∧ k ≤ i ∧ firstf (netf cnt gr) k = firstf (netf cnt gr) i) (fun y => y.toNatClampNeg) ?_ _ ⟨i, rfl, Nat.le_refl _, rfl⟩
  rintro R _ ⟨k, rfl, hk, e⟩ hR
  rw [← e] at h
  have hk0 : nI k ≤ 0 ↔ k = 0 := by rw [n_0, n_le (by omega) (by omega)]; omega
  rw [hk0]
  refine ⟨fun c => ?_, fun c => ?_⟩
  · subst c; exact h
  · obtain ⟨k, rfl⟩ : ∃ j, k = j + 1 := ⟨k - 1, by omega⟩
    rw [nI_pred]
    have st : ¬ (0 < netf cnt gr k ∧ netf cnt gr k < netf cnt gr (k + 1)) → post (nI (k + 1)) := fun n => by
      unfold firstf at h; rwa [if_neg n] at h
    refine x_netAt (by omega) hN ⟨fun c2 => st (fun n => absurd n.1 (Int32.not_lt.mpr c2)), fun c2 => x_netAt (by omega) hN (x_netAt (by omega) hN ⟨fun c3 => st (fun n => absurd n.2 (Int32.not_lt.mpr c3)), fun c3 => ?_⟩)⟩
    have e1 : nI (k + 1) + (-1 : Int32) = nI k := by
      rw [z_eq, z_add, nI_toInt (by omega), nI_toInt (by omega)]
      · show ((k + 1 : Nat) : Int) + -1 = _; omega
      · rw [nI_toInt (by omega)]; show _ ≤ ((k + 1 : Nat) : Int) + -1; omega
      · rw [nI_toInt (by omega)]; show ((k + 1 : Nat) : Int) + -1 ≤ _; omega
    rw [e1]
    refine hR _ ⟨k, rfl, by omega, ?_⟩ (by rw [nI_clamp (by omega), nI_clamp (by omega)]; omega)
    rw [← e]
    conv => rhs; unfold firstf
    rw [if_pos ⟨Int32.not_le.mp c2, Int32.not_le.mp c3⟩]
theorem x_last {post : Int32 → Prop} {N : Nat} {cnt gr : Nat → Int32} {i : Nat} (hi : i < N) (hN : N ≤ 24) (h : post (nI (lastf (netf cnt gr) N (N - i) i))) : vc_XPe_lastOfSpan post N (nI N) cnt gr (nI i) := by
  unfold vc_XPe_lastOfSpan
  refine vlp1_i (fun y => ∃ k, y = nI k ∧ k < N ∧ lastf (netf cnt gr) N (N - k) k = lastf (netf cnt gr) N (N - i) i) (fun y => 100 - y.toNatClampNeg) ?_ _ ⟨i, rfl, hi, rfl⟩
  rintro R _ ⟨k, rfl, hk, e⟩ hR
  rw [← e] at h
  obtain ⟨f, hf⟩ : ∃ f, N - k = f + 1 := ⟨N - k - 1, by omega⟩
  have hf' : N - (k + 1) = f := by omega
  rw [n_add1, n_le (by omega) (by omega)]
  have st : ¬ (k + 1 < N ∧ 0 < netf cnt gr (k + 1) ∧ netf cnt gr (k + 1) ≤ netf cnt gr k) → post (nI k) := fun n => by
    rw [hf] at h; unfold lastf at h; rwa [if_neg n] at h
  refine ⟨fun c => st (by omega), fun c => x_netAt (by omega) hN ⟨fun c2 => st (fun n => absurd n.2.1 (Int32.not_lt.mpr c2)), fun c2 => x_netAt (by omega) hN (x_netAt (by omega) hN ⟨fun c3 => st (fun n => absurd n.2.2 (Int32.not_le.mpr c3)), fun c3 => ?_⟩)⟩⟩
  refine hR _ ⟨k + 1, rfl, by omega, ?_⟩ (by rw [nI_clamp (by omega), nI_clamp (by omega)]; omega)
  rw [← e, hf, hf']
  conv => rhs; unfold lastf
  rw [if_pos ⟨by omega, Int32.not_le.mp c2, Int32.not_lt.mp c3⟩]
/-- what is kept of a peak at channel i -/
def pkv (w : Nat → Int32) (N i j : Nat) : Int32 :=
  if j = 0 then nI i else if j = 1 then w i else if j = 2 then sumr w (firstf w i) (lastf w N (N - i) i + 1 - firstf w i) else if j = 3 then nI (firstf w i) else nI (lastf w N (N - i) i)
def pkn (w : Nat → Int32) (lvl : Int32) (N : Nat) : Nat → Nat
  | 0 => 0
  | i + 1 => if isP w lvl N i then pkn w lvl N i + 1 else pkn w lvl N i
def pkr (w : Nat → Int32) (lvl : Int32) (N : Nat) : Nat → Nat → Nat → Int32
  | 0 => fun _ _ => 0
  | i + 1 => fun j k => if isP w lvl N i ∧ k = pkn w lvl N i then pkv w N i j else pkr w lvl N i j k
theorem pkn_no {w : Nat → Int32} {lvl : Int32} {N i : Nat} (c : ¬ isP w lvl N i) : pkn w lvl N (i + 1) = pkn w lvl N i := if_neg c
theorem pkn_yes {w : Nat → Int32} {lvl : Int32} {N i : Nat} (c : isP w lvl N i) : pkn w lvl N (i + 1) = pkn w lvl N i + 1 := if_pos c
theorem pkn_le {w : Nat → Int32} {lvl : Int32} {N : Nat} : ∀ i, i ≤ N → 2 * pkn w lvl N i ≤ i + 1 ∧ (2 * pkn w lvl N i = i + 1 → ∃ i', i = i' + 1 ∧ isP w lvl N i')
  | 0, _ => ⟨by show 2 * 0 ≤ 0 + 1; omega, fun h => absurd (show 2 * 0 = 0 + 1 from h) (by omega)⟩
  | i + 1, hi => by
    have ih := pkn_le (w := w) (lvl := lvl) (N := N) i (by omega)
    unfold pkn
    by_cases c : isP w lvl N i
    · rw [if_pos c]
      refine ⟨?_, fun _ => ⟨i, rfl, c⟩⟩
      by_cases q : 2 * pkn w lvl N i = i + 1
      · obtain ⟨i', rfl, hp⟩ := ih.2 q
        exfalso
        rcases c.2.1 with c1 | c1
        · omega
        · rcases hp.2.2 with c2 | c2
          · omega
          · exact absurd (show w i' < w (i' + 1) from c1) (Int32.not_lt.mpr c2)
      · omega
    · rw [if_neg c]; exact ⟨by omega, fun q => by omega⟩
/-- at a peak there is room -/
theorem pkn_room {w : Nat → Int32} {lvl : Int32} {N i : Nat} (hi : i < N) (c : isP w lvl N i) : 2 * pkn w lvl N i ≤ i := by
  have ih := pkn_le (w := w) (lvl := lvl) (N := N) i (by omega)
  by_cases q : 2 * pkn w lvl N i = i + 1
  · obtain ⟨i', rfl, hp⟩ := ih.2 q
    exfalso
    rcases c.2.1 with c1 | c1
    · omega
    · rcases hp.2.2 with c2 | c2
      · omega
      · exact absurd (show w i' < w (i' + 1) from c1) (Int32.not_lt.mpr c2)
  · omega
theorem pkr_0 {w : Nat → Int32} {lvl : Int32} {N : Nat} : ∀ i, i ≤ N → N ≤ 24 → ∀ k, k < pkn w lvl N i → 0 ≤ (pkr w lvl N i 0 k).toInt ∧ (pkr w lvl N i 0 k).toInt < N
  | 0, _, _, k, hk => absurd hk (Nat.not_lt_zero k)
  | i + 1, hi, hN, k, hk => by
    have ih := pkr_0 (w := w) (lvl := lvl) (N := N) i (by omega) hN k
    unfold pkn at hk
    unfold pkr
    by_cases c : isP w lvl N i
    · rw [if_pos c] at hk
      by_cases q : k = pkn w lvl N i
      · rw [if_pos ⟨c, q⟩]
        unfold pkv; rw [if_pos rfl, nI_toInt (by omega)]; omega
      · rw [if_neg (fun n => q n.2)]; exact ih (by omega)
    · rw [if_neg c] at hk
      rw [if_neg (fun n => c n.1)]; exact ih hk
/-- rows of the class, or cells of the reference, hold the peaks up to channel i -/
def holds (w : Nat → Int32) (lvl : Int32) (N i : Nat) (rows : Nat → Nat → Int32) : Prop := ∀ k j, k < pkn w lvl N i → j < 5 → rows j k = pkr w lvl N i j k
theorem holds_no {w : Nat → Int32} {lvl : Int32} {N i : Nat} {rows : Nat → Nat → Int32} (h : holds w lvl N i rows) (c : ¬ isP w lvl N i) : holds w lvl N (i + 1) rows := by
  intro k j hk hj
  unfold pkn at hk; rw [if_neg c] at hk
  unfold pkr; rw [if_neg (fun n => c n.1)]; exact h k j hk hj
theorem holds_yes {w : Nat → Int32} {lvl : Int32} {N i : Nat} {rows rows' : Nat → Nat → Int32} (h : holds w lvl N i rows) (c : isP w lvl N i) (h1 : ∀ j, j < 5 → rows' j (pkn w lvl N i) = pkv w N i j) (h2 : ∀ k j, k < pkn w lvl N i → j < 5 → rows' j k = rows j k) : holds w lvl N (i + 1) rows' := by
  intro k j hk hj
  unfold pkn at hk; rw [if_pos c] at hk
  unfold pkr
  by_cases q : k = pkn w lvl N i
  · rw [if_pos ⟨c, q⟩, q]; exact h1 j hj
  · rw [if_neg (fun n => q n.2), h2 k j (by omega) hj]; exact h k j (by omega) hj
theorem x_keep {post : Int32 → (Nat → Nat → Int32) → Prop} {N : Nat} {cnt gr : Nat → Int32} {rows : Nat → Nat → Int32} {i p : Nat} (hi : i < N) (hN : N ≤ 24) (hp : p < N) (h : ∀ rows', (∀ j, j < 5 → rows' j p = pkv (netf cnt gr) N i j) → (∀ k j, k < p → j < 5 → rows' j k = rows j k) → post (nI (p + 1)) rows') : vc_XPe_keep post N (nI N) cnt gr (nI p) rows (nI i) := by
  unfold vc_XPe_keep
  have hf := firstf_le (netf cnt gr) i
  have hl := lastf_ge (netf cnt gr) N (N - i) i hi
  refine x_first hi hN (x_last hi hN ?_)
  generalize hF : firstf (netf cnt gr) i = F at hf ⊢
  generalize hL : lastf (netf cnt gr) N (N - i) i = L at hl ⊢
  refine vlp2_i (fun s y => ∃ n, y = nI (F + n) ∧ F + n ≤ L + 1 ∧ s = sumr (netf cnt gr) F n) (fun _ y => 100 - y.toNatClampNeg) ?_ _ _ ⟨0, rfl, by omega, rfl⟩
  rintro R _ _ ⟨n, rfl, hn, rfl⟩ hR
  rw [n_lt (by omega) (by omega)]
  have hp' : vp_in (nI p) N := in_nI hp (by omega)
  have d : ∀ c : Int32, (0 ≤ c.toInt ∧ c.toInt < (5 : Nat)) → vp_in c 5 := fun c h => vp_in_iff.mpr h
  refine ⟨fun c => ⟨d _ (by decide), hp', d _ (by decide), x_netAt hi hN ⟨hp', d _ (by decide), hp', d _ (by decide), hp', d _ (by decide), hp', ?_⟩⟩, fun c => x_netAt (by omega) hN (fun x ex => ?_)⟩
  · obtain rfl : n = L + 1 - F := by omega
    rw [n_add1, nI_clamp (by omega)]
    have e0 : (0 : Int32).toNatClampNeg = 0 := rfl
    have e1 : (1 : Int32).toNatClampNeg = 1 := rfl
    have e2 : (2 : Int32).toNatClampNeg = 2 := rfl
    have e3 : (3 : Int32).toNatClampNeg = 3 := rfl
    have e4 : (4 : Int32).toNatClampNeg = 4 := rfl
    rw [e0, e1, e2, e3, e4]
    refine h _ (fun j hj => ?_) (fun k j hk hj => ?_)
    · unfold pkv
      rw [hF, hL]
      rcases (show j = 0 ∨ j = 1 ∨ j = 2 ∨ j = 3 ∨ j = 4 by omega) with rfl | rfl | rfl | rfl | rfl
      · rw [gseti_ne (by omega), gseti_ne (by omega), gseti_ne (by omega), gseti_ne (by omega), gseti_at]; rfl
      · rw [gseti_ne (by omega), gseti_ne (by omega), gseti_ne (by omega), gseti_at]; rfl
      · rw [gseti_ne (by omega), gseti_ne (by omega), gseti_at]; rfl
      · rw [gseti_ne (by omega), gseti_at]; rfl
      · rw [gseti_at]; rfl
    · rw [gseti_ne (by omega), gseti_ne (by omega), gseti_ne (by omega), gseti_ne (by omega), gseti_ne (by omega)]
  · rw [n_add1, ex]
    exact hR _ _ ⟨n + 1, rfl, by omega, rfl⟩ (by rw [nI_clamp (by omega), nI_clamp (by omega)]; omega)
theorem x_lookFor {post : Int32 → (Nat → Nat → Int32) → Prop} {N : Nat} {cnt gr : Nat → Int32} {sz : Int32} {rows : Nat → Nat → Int32} {lvl : Int32} (hN : N ≤ 24) (h : ∀ rows', holds (netf cnt gr) lvl N N rows' → post (nI (pkn (netf cnt gr) lvl N N)) rows') : vc_XPe_lookFor post N sz (nI N) cnt gr rows lvl := by
  unfold vc_XPe_lookFor
  refine vlp3_i (fun y s rows' => ∃ i, y = nI i ∧ i ≤ N ∧ s = nI (pkn (netf cnt gr) lvl N i) ∧ holds (netf cnt gr) lvl N i rows') (fun y _ _ => 100 - y.toNatClampNeg) ?_ _ _ _ ⟨0, rfl, by omega, rfl, fun k j hk _ => absurd hk (Nat.not_lt_zero k)⟩
  rintro R _ _ rows' ⟨i, rfl, hi, rfl, hr⟩ hR
  have next : ¬ N ≤ i → ∀ s r', s = nI (pkn (netf cnt gr) lvl N (i + 1)) → holds (netf cnt gr) lvl N (i + 1) r' → R (nI i + 1) s r' := by
    intro c s r' hs hr'
    rw [n_add1]
    exact hR _ _ _ ⟨i + 1, rfl, by omega, hs, hr'⟩ (by rw [nI_clamp (by omega), nI_clamp (by omega)]; omega)
  rw [n_le (by omega) (by omega)]
  refine ⟨fun c => ?_, fun c => x_netAt (by omega) hN ⟨fun c2 => ?_, fun c2 => x_isTop (by omega) hN ?_⟩⟩
  · obtain rfl : i = N := by omega
    exact h _ hr
  · have np : ¬ isP (netf cnt gr) lvl N i := fun n => absurd n.1 (Int32.not_lt.mpr c2)
    exact next c _ _ (by rw [pkn_no np]) (holds_no hr np)
  · simp only [bi_0, Classical.not_not]
    refine ⟨fun c3 => ?_, fun c3 => ?_⟩
    · have np : ¬ isP (netf cnt gr) lvl N i := fun n => c3 n.2
      exact next c _ _ (by rw [pkn_no np]) (holds_no hr np)
    · have yp : isP (netf cnt gr) lvl N i := ⟨Int32.not_le.mp c2, c3⟩
      have room := pkn_room (show i < N by omega) yp
      refine x_keep (by omega) hN (by omega) (fun r' h1 h2 => next c _ _ (by rw [pkn_yes yp]) (holds_yes hr yp h1 h2))
theorem m_add {post : Int32 → (Nat → Int32) → Prop} {N : Nat} {cnt gr : Nat → Int32} {f : Nat → Int32} {i p : Nat} (hg : good N cnt gr) (hi : i < N) (hp : p < 12) (h : ∀ f', (∀ j, j < 5 → f' (5 * p + j) = pkv (netf cnt gr) N i j) → (∀ k j, k < p → j < 5 → f' (5 * k + j) = f (5 * k + j)) → post (nI (p + 1)) f') : vc_M_add post (nI N) (nI p) cnt gr f (nI i) := by
  unfold vc_M_add
  have hN := hg.1
  refine vlp1_i (fun y => ∃ k, y = nI k ∧ k ≤ i ∧ firstf (netf cnt gr) k = firstf (netf cnt gr) i) (fun y => y.toNatClampNeg) ?_ _ ⟨i, rfl, Nat.le_refl _, rfl⟩
  rintro R _ ⟨k, rfl, hk, ef⟩ hR J hJ
  have hk0 : nI k ≤ 0 ↔ k = 0 := by rw [n_0, n_le (by omega) (by omega)]; omega
  have fin : firstf (netf cnt gr) i = k → J := by
    intro hF
    refine hJ ?_
    refine vlp1_i (fun y => ∃ k, y = nI k ∧ i ≤ k ∧ k < N ∧ lastf (netf cnt gr) N (N - k) k = lastf (netf cnt gr) N (N - i) i) (fun y => 100 - y.toNatClampNeg) ?_ _ ⟨i, rfl, Nat.le_refl _, hi, rfl⟩
    rintro R2 _ ⟨q, rfl, hiq, hq, e⟩ hR2 J2 hJ2
    have fin2 : lastf (netf cnt gr) N (N - i) i = q → J2 := by
      intro hL
      refine hJ2 ?_
      refine vlp2_i (fun s y => ∃ n, y = nI (k + n) ∧ k + n ≤ q + 1 ∧ s = sumr (netf cnt gr) k n) (fun _ y => 100 - y.toNatClampNeg) ?_ _ _ ⟨0, rfl, by omega, rfl⟩
      rintro R3 _ _ ⟨n, rfl, hn, rfl⟩ hR3
      rw [n_lt (by omega) (by omega)]
      refine ⟨fun c => ?_, fun c => m_net hg (by omega) (fun x ex => ?_)⟩
      · obtain rfl : n = q + 1 - k := by omega
        have ep : (nI p).toInt = p := nI_toInt (by omega)
        have e5 : (5 : Int32) * nI p = nI (5 * p) := by
          rw [z_eq, z_mulc (n := 5) rfl (by omega) (by omega), ep, nI_toInt (by omega)]; omega
        rw [e5, n_1, show (2 : Int32) = nI 2 from rfl, show (3 : Int32) = nI 3 from rfl, show (4 : Int32) = nI 4 from rfl]
        rw [n_add (by omega), n_add (by omega), n_add (by omega), n_add (by omega), n_add (by omega)]
        rw [nI_clamp (by omega), nI_clamp (by omega), nI_clamp (by omega), nI_clamp (by omega), nI_clamp (by omega)]
        refine ⟨in_nI (by omega) (by omega), m_net hg hi ⟨in_nI (by omega) (by omega), in_nI (by omega) (by omega), in_nI (by omega) (by omega), in_nI (by omega) (by omega), h _ (fun j hj => ?_) (fun a j ha hj => ?_)⟩⟩
        · unfold pkv
          rw [hF, hL]
          rcases (show j = 0 ∨ j = 1 ∨ j = 2 ∨ j = 3 ∨ j = 4 by omega) with rfl | rfl | rfl | rfl | rfl
          · rw [upd_ne (by omega), upd_ne (by omega), upd_ne (by omega), upd_ne (by omega)]; exact upd_at
          · rw [upd_ne (by omega), upd_ne (by omega), upd_ne (by omega), upd_at]; rfl
          · rw [upd_ne (by omega), upd_ne (by omega), upd_at]; rfl
          · rw [upd_ne (by omega), upd_at]; rfl
          · rw [upd_at]; rfl
        · rw [upd_ne (by omega), upd_ne (by omega), upd_ne (by omega), upd_ne (by omega), upd_ne (by omega)]
      · rw [n_add1, ex]
        exact hR3 _ _ ⟨n + 1, rfl, by omega, rfl⟩ (by rw [nI_clamp (by omega), nI_clamp (by omega)]; omega)
    obtain ⟨f', hf⟩ : ∃ f, N - q = f + 1 := ⟨N - q - 1, by omega⟩
    have hf' : N - (q + 1) = f' := by omega
    have st : ¬ (q + 1 < N ∧ 0 < netf cnt gr (q + 1) ∧ netf cnt gr (q + 1) ≤ netf cnt gr q) → J2 := fun n => by
      refine fin2 ?_; rw [← e, hf]; unfold lastf; rw [if_neg n]
    rw [n_1, n_sub (by omega) (by omega), n_le (by omega) (by omega), n_add (by omega)]
    refine ⟨fun c => st (by omega), fun c => m_net hg (by omega) ⟨fun c2 => st (fun n => absurd n.2.1 (Int32.not_lt.mpr c2)), fun c2 => m_net hg (by omega) (m_net hg (by omega) ⟨fun c3 => st (fun n => absurd n.2.2 (Int32.not_le.mpr c3)), fun c3 => ?_⟩)⟩⟩
    refine hR2 _ ⟨q + 1, rfl, by omega, by omega, ?_⟩ (by rw [nI_clamp (by omega), nI_clamp (by omega)]; omega)
    rw [← e, hf, hf']
    conv => rhs; unfold lastf
    rw [if_pos ⟨by omega, Int32.not_le.mp c2, Int32.not_lt.mp c3⟩]
  rw [hk0]
  refine ⟨fun c => fin ?_, fun c => ?_⟩
  · subst c; exact ef.symm
  · obtain ⟨k, rfl⟩ : ∃ j, k = j + 1 := ⟨k - 1, by omega⟩
    rw [nI_pred]
    have st : ¬ (0 < netf cnt gr k ∧ netf cnt gr k < netf cnt gr (k + 1)) → J := fun n => by
      refine fin ?_; rw [← ef]; unfold firstf; rw [if_neg n]
    refine m_net hg (by omega) ⟨fun c2 => st (fun n => absurd n.1 (Int32.not_lt.mpr c2)), fun c2 => m_net hg (by omega) (m_net hg (by omega) ⟨fun c3 => st (fun n => absurd n.2 (Int32.not_lt.mpr c3)), fun c3 => ?_⟩)⟩
    have e1 : nI (k + 1) + (-1 : Int32) = nI k := by
      rw [z_eq, z_add, nI_toInt (by omega), nI_toInt (by omega)]
      · show ((k + 1 : Nat) : Int) + -1 = _; omega
      · rw [nI_toInt (by omega)]; show _ ≤ ((k + 1 : Nat) : Int) + -1; omega
      · rw [nI_toInt (by omega)]; show ((k + 1 : Nat) : Int) + -1 ≤ _; omega
    rw [e1]
    refine hR _ ⟨k, rfl, by omega, ?_⟩ (by rw [nI_clamp (by omega), nI_clamp (by omega)]; omega)
    rw [← ef]
    conv => rhs; unfold firstf
    rw [if_pos ⟨Int32.not_le.mp c2, Int32.not_le.mp c3⟩]
theorem m_peaks {post : Int32 → Int32 → Int32 → (Nat → Int32) → Prop} {thr : Int32} {N : Nat} {pk : Int32} {cnt gr : Nat → Int32} {f : Nat → Int32} {lvl : Int32} (hg : good N cnt gr) (h1 : ¬ 0 ≤ lvl.toInt → post 0 1 pk f) (h3 : 0 ≤ lvl.toInt → ∀ f', holds (netf cnt gr) lvl N N (fun j k => f' (5 * k + j)) → post (nI (pkn (netf cnt gr) lvl N N)) 0 (nI (pkn (netf cnt gr) lvl N N)) f') : vc_M_peaks post thr (nI N) pk cnt gr f lvl := by
  unfold vc_M_peaks
  have hN := hg.1
  intro J hJ
  have k : J (bi (0 ≤ lvl.toInt)) := by
    refine hJ _ (t_goes1 (fun c => ⟨fun n => absurd rfl n, fun _ => h1 c⟩) (fun c => ⟨fun _ => ?_, fun n => absurd n (by decide)⟩))
    refine vlp3_i (fun y s f' => ∃ i, y = nI i ∧ i ≤ N ∧ s = nI (pkn (netf cnt gr) lvl N i) ∧ holds (netf cnt gr) lvl N i (fun j k => f' (5 * k + j))) (fun y _ _ => 100 - y.toNatClampNeg) ?_ _ _ _ ⟨0, rfl, by omega, rfl, fun k j hk _ => absurd hk (Nat.not_lt_zero k)⟩
    rintro R _ _ f' ⟨i, rfl, hi, rfl, hr⟩ hR
    have next : ¬ N ≤ i → ∀ s r', s = nI (pkn (netf cnt gr) lvl N (i + 1)) → holds (netf cnt gr) lvl N (i + 1) (fun j k => r' (5 * k + j)) → R (nI i + 1) s r' := by
      intro c s r' hs hr'
      rw [n_add1]
      exact hR _ _ _ ⟨i + 1, rfl, by omega, hs, hr'⟩ (by rw [nI_clamp (by omega), nI_clamp (by omega)]; omega)
    rw [n_le (by omega) (by omega)]
    refine ⟨fun c2 => ?_, fun c2 => m_isPeak hg (by omega) ?_⟩
    · obtain rfl : i = N := by omega
      exact h3 c _ hr
    · simp only [bi_0, Classical.not_not]
      refine ⟨fun np => next c2 _ _ (by rw [pkn_no np]) (holds_no hr np), fun yp => ?_⟩
      have room := pkn_room (show i < N by omega) yp
      exact m_add hg (by omega) (by omega) (fun r' h1 h2 => next c2 _ _ (by rw [pkn_yes yp]) (holds_yes hr yp h1 h2))
  rw [z_lt]
  refine ⟨fun (c : lvl.toInt < 0) => ?_, fun (c : ¬ lvl.toInt < 0) => ?_⟩
  · rwa [bi_f (by omega)] at k
  · rwa [bi_t (by omega)] at k
theorem holds_congr {w w' : Nat → Int32} {lvl : Int32} {N : Nat} (h : ∀ k, k < N → w k = w' k) : (∀ i, i < N → (isP w lvl N i ↔ isP w' lvl N i)) ∧ (∀ i, i < N → ∀ j, pkv w N i j = pkv w' N i j) := by
  have hl : ∀ f i, i < N → lastf w N f i = lastf w' N f i := by
    intro f
    induction f with
    | zero => intro i _; rfl
    | succ f ih =>
      intro i hi
      unfold lastf
      by_cases c : i + 1 < N
      · rw [h i hi, h (i + 1) c, ih (i + 1) c]
      · rw [if_neg (fun n => c n.1), if_neg (fun n => c n.1)]
  have hf : ∀ i, i < N → firstf w i = firstf w' i := by
    intro i
    induction i with
    | zero => intro _; rfl
    | succ i ih => intro hi; unfold firstf; rw [h i (by omega), h (i + 1) hi, ih (by omega)]
  have hs : ∀ a n, a + n ≤ N → sumr w a n = sumr w' a n := by
    intro a n
    induction n with
    | zero => intro _; rfl
    | succ n ih => intro hn; show sumr w a n + w (a + n) = sumr w' a n + w' (a + n); rw [ih (by omega), h _ (by omega)]
  refine ⟨fun i hi => ?_, fun i hi j => ?_⟩
  · unfold isP isT
    rw [h i hi, h (i - 1) (by omega)]
    by_cases c : i + 1 < N
    · rw [h (i + 1) c]
    · have : N ≤ i + 1 := by omega
      simp [this]
  · unfold pkv
    have := lastf_ge w' N (N - i) i hi
    have := firstf_le w' i
    rw [hf i hi, hl _ i hi, h i hi, hs _ _ (by omega)]
theorem pk_congr {w w' : Nat → Int32} {lvl : Int32} {N : Nat} (h : ∀ k, k < N → w k = w' k) : ∀ i, i ≤ N → pkn w lvl N i = pkn w' lvl N i ∧ ∀ j k, pkr w lvl N i j k = pkr w' lvl N i j k
  | 0, _ => ⟨rfl, fun _ _ => rfl⟩
  | i + 1, hi => by
    obtain ⟨h1, h2⟩ := pk_congr h i (by omega)
    have hc := holds_congr (lvl := lvl) h
    have hp := hc.1 i (by omega)
    by_cases c : isP w lvl N i
    · refine ⟨by rw [pkn_yes c, pkn_yes (hp.mp c), h1], fun j k => ?_⟩
      unfold pkr
      rw [h1, h2 j k, hc.2 i (by omega) j]
      by_cases q : k = pkn w' lvl N i
      · rw [if_pos ⟨c, q⟩, if_pos ⟨hp.mp c, q⟩]
      · rw [if_neg (fun n => q n.2), if_neg (fun n => q n.2)]
    · have c' : ¬ isP w' lvl N i := fun n => c (hp.mpr n)
      refine ⟨by rw [pkn_no c, pkn_no c', h1], fun j k => ?_⟩
      unfold pkr
      rw [if_neg (fun n => c n.1), if_neg (fun n => c' n.1), h2]
theorem rSp.good {N : Nat} {ch : Int32} {cnt gr : Nat → Int32} {mch : Int32} {mcnt mb : Nat → Int32} (h : rSp N ch cnt gr mch mcnt mb) : good N mcnt mb := by
  refine ⟨h.2.1, fun k hk => ?_⟩
  have h1 := h.cnt hk; have h2 := h.gr hk
  rw [← h1.1, ← h2.1]; exact ⟨h1.2.1, h1.2.2, h2.2.1, h2.2.2⟩
theorem rSp.net {N : Nat} {ch : Int32} {cnt gr : Nat → Int32} {mch : Int32} {mcnt mb : Nat → Int32} (h : rSp N ch cnt gr mch mcnt mb) : ∀ k, k < N → netf cnt gr k = netf mcnt mb k := fun k hk => netf_congr (h.cnt hk).1 (h.gr hk).1
theorem pc_3 {R : Int32 → (Nat → Int32) → (Nat → Int32) → (Nat → Int32) → Int32 → (Nat → Nat → Int32) → (Nat → Int32) → (Nat → Nat → Int32) → Int64 → Int32 → Int32 → (Nat → Nat → Int32) → (Nat → Int64) → (Nat → Nat → Int64) → (Nat → Int64) → (Nat → Nat → Int64) → (Nat → Int64) → Int32 → Int64 → Int64 → Int64 → (Nat → Nat → Int32) → (Nat → Int32) → Int32 → (Nat → Int32) → (Nat → Int32) → Int32 → Int32 → Int32 → Int32 → Int32 → Int64 → Int32 → Int32 → Int32 → Int32 → Int32 → Int64 → Int64 → (Nat → Int32) → (Nat → Int32) → (Nat → Int32) → (Nat → Int32) → (Nat → Int32) → (Nat → Int32) → (Nat → Int32) → (Nat → Int64) → (Nat → Int64) → (Nat → Int32) → (Nat → Int32) → (Nat → Int32) → (Nat → Int64) → Prop} {xs : Nat → Int32} {L N : Nat} {ch : Int32} {cnt : Nat → Int32} {gr : Nat → Int32} {fm : Nat → Int32} {fsz : Int32} {rows : Nat → Nat → Int32} {szs : Nat → Int32} {lns : Nat → Nat → Int32} {below : Int64} {msz : Int32} {solved : Int32} {ents : Nat → Nat → Int32} {above : Nat → Int64} {prods : Nat → Nat → Int64} {mats : Nat → Int64} {sys : Nat → Nat → Int64} {rgt : Nat → Int64} {csz : Int32} {ca : Int64} {cb : Int64} {cc : Int64} {meas : Nat → Nat → Int32} {joined : Nat → Int32} {dsz : Int32} {days : Nat → Int32} {facs : Nat → Int32} {thr : Int32} {mch : Int32} {pks : Int32} {libs : Int32} {msolved : Int32} {under : Int64} {smps : Int32} {ma : Int32} {mb : Int32} {mc : Int32} {stds : Int32} {mabove : Int64} {mbelow : Int64} {mcnt : Nat → Int32} {mbk : Nat → Int32} {mnx : Nat → Int32} {mfnd : Nat → Int32} {mlns : Nat → Int32} {mlm : Nat → Int32} {ments : Nat → Int32} {sums : Nat → Int64} {mabs : Nat → Int64} {mmeas : Nat → Int32} {mdays : Nat → Int32} {mfacs : Nat → Int32} {out : Nat → Int64} {y4 : Int32} (hI : pI N ch cnt gr fm fsz rows szs lns below msz solved ents above prods mats sys rgt csz ca cb cc meas joined dsz days facs thr mch pks libs msolved under smps ma mb mc stds mabove mbelow mcnt mbk mnx mfnd mlns mlm ments sums mabs mmeas mdays mfacs out) (hR : ∀ {ch cnt gr fm fsz rows szs lns below msz solved ents above prods mats sys rgt csz ca cb cc meas joined dsz days facs thr mch pks libs msolved under smps ma mb mc stds mabove mbelow mcnt mbk mnx mfnd mlns mlm ments sums mabs mmeas mdays mfacs out}, pI N ch cnt gr fm fsz rows szs lns below msz solved ents above prods mats sys rgt csz ca cb cc meas joined dsz days facs thr mch pks libs msolved under smps ma mb mc stds mabove mbelow mcnt mbk mnx mfnd mlns mlm ments sums mabs mmeas mdays mfacs out → R ch cnt gr fm fsz rows szs lns below msz solved ents above prods mats sys rgt csz ca cb cc meas joined dsz days facs thr mch pks libs msolved under smps ma mb mc stds mabove mbelow mcnt mbk mnx mfnd mlns mlm ments sums mabs mmeas mdays mfacs out) (hy1 : vp_in (y4 + (1 : Int32)) L) (hy2 : vp_in (y4 + (2 : Int32)) L) (hy3 : vp_in (y4 + (3 : Int32)) L) : vc_L_case_3 R xs L N ch cnt gr fm fsz rows szs lns below msz solved ents above prods mats sys rgt csz ca cb cc meas joined dsz days facs thr mch pks libs msolved under smps ma mb mc stds mabove mbelow mcnt mbk mnx mfnd mlns mlm ments sums mabs mmeas mdays mfacs out y4 := by
  unfold vc_L_case_3
  obtain ⟨hSp, hPe, hLi, hMi, hSa, hSt⟩ := hI
  unfold vc_L_peaks vc_X_peaks
  generalize xs ((y4 + (1 : Int32)).toNatClampNeg) = a1
  obtain ⟨hN4, hN, rfl, rfl, hcn, hgr⟩ := id hSp
  have hg := hSp.good
  refine ⟨hy1, t_needValue (fun (v1 : 0 ≤ a1.toInt) _ => ?_) (fun (vn : ¬ (0 ≤ a1.toInt ∧ a1.toInt ≤ 2147483647)) => ?_)⟩
  · refine x_lookFor hN (fun r' hr' => ⟨in_01, hy1, m_peaks hg (fun n => absurd v1 n) (fun _ f' hf' => ?_)⟩)
    have e := pk_congr (lvl := a1) hSp.net N (Nat.le_refl _)
    have hl := pkn_le (w := netf mcnt mbk) (lvl := a1) (N := N) N (Nat.le_refl _)
    rw [e.1]
    refine fin_i rfl (fun _ => by rw [out_0]) (hR ⟨hSp, ?_, hLi, hMi, hSa, hSt⟩)
    refine ⟨_, by omega, by omega, rfl, rfl, fun k j hk hj => ?_, fun k hk => ?_⟩
    · rw [hr' k j (by rw [e.1]; exact hk) hj, e.2]; exact (hf' k j hk hj).symm
    · rw [hr' k 0 (by rw [e.1]; exact hk) (by omega)]
      exact pkr_0 N (Nat.le_refl _) hN k (by rw [e.1]; exact hk)
  · have hub := z_ub a1
    exact ⟨rfl, hy1, m_peaks hg (fun n => fin_i rfl (fun n => absurd n (by decide)) (hR ⟨hSp, hPe, hLi, hMi, hSa, hSt⟩)) (fun v => absurd ⟨v, hub⟩ vn)⟩
