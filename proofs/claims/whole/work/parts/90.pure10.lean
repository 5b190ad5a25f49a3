/-! groups -/
theorem nar1 : vp_nar .boolean (1 : Int32) = 1 := by decide
theorem nar0 : vp_nar .boolean (0 : Int32) = 0 := by decide
def clo (n : Nat) (rel : Nat → Nat → Prop) (S : Nat → Prop) : Prop := ∀ a b, a < n → b < n → S a → rel a b → S b
/-- what is joined with s by a chain -/
def rc (n : Nat) (rel : Nat → Nat → Prop) (s i : Nat) : Prop := ∀ S : Nat → Prop, S s → clo n rel S → S i
theorem rc_s {n : Nat} {rel : Nat → Nat → Prop} {s : Nat} : rc n rel s s := fun _ h _ => h
theorem rc_clo {n : Nat} {rel : Nat → Nat → Prop} {s : Nat} : clo n rel (rc n rel s) := fun a b ha hb h r S hs hc => hc a b ha hb (h S hs hc) r
def cn (J : Nat → Int32) : Nat → Nat
  | 0 => 0
  | i + 1 => cn J i + (if J i = 0 then 0 else 1)
theorem cn_le (J : Nat → Int32) : ∀ n, cn J n ≤ n
  | 0 => Nat.le_refl _
  | n + 1 => by
    have := cn_le J n
    unfold cn
    by_cases c : J n = 0
    · rw [if_pos c]; omega
    · rw [if_neg c]; omega
theorem cn_mono {J K : Nat → Int32} : ∀ n, (∀ i, i < n → ¬ J i = 0 → ¬ K i = 0) → cn J n ≤ cn K n
  | 0, _ => Nat.le_refl _
  | n + 1, h => by
    have ih := cn_mono n (fun i hi => h i (by omega))
    have hn := h n (by omega)
    unfold cn
    by_cases c : J n = 0
    · rw [if_pos c]; omega
    · rw [if_neg c, if_neg (hn c)]; omega
theorem cn_lt {J K : Nat → Int32} : ∀ n, (∀ i, i < n → ¬ J i = 0 → ¬ K i = 0) → (∃ i, i < n ∧ J i = 0 ∧ ¬ K i = 0) → cn J n < cn K n
  | 0, _, ⟨i, hi, _⟩ => absurd hi (Nat.not_lt_zero i)
  | n + 1, h, ⟨i, hi, h1, h2⟩ => by
    unfold cn
    by_cases e : i = n
    · subst e
      have ih := cn_mono i (fun j hj => h j (by omega))
      rw [if_pos h1, if_neg h2]; omega
    · have ih := cn_lt n (fun i hi => h i (by omega)) ⟨i, by omega, h1, h2⟩
      have hn := h n (by omega)
      by_cases c : J n = 0
      · rw [if_pos c]; omega
      · rw [if_neg c, if_neg (hn c)]; omega
theorem x_joinOnce {post : (Nat → Int32) → Prop} {n : Nat} {ca cb cc : Int64} {J : Nat → Int32} {m : Nat → Nat → Int32} {cut : Int32} {rel : Nat → Nat → Prop} (hn : n ≤ 12) (hrel : ∀ i j, rel i j ↔ (apf ca cb cc m i j).toInt ≤ (cut.toInt64 * (ca * cc - cb * cb)).toInt) (h : ∀ J', (∀ j, j < n → ¬ J j = 0 → ¬ J' j = 0) → (∀ i j, i < n → j < n → ¬ J i = 0 → rel i j → ¬ J' j = 0) → (∀ S : Nat → Prop, clo n rel S → (∀ i, i < n → ¬ J i = 0 → S i) → ∀ j, j < n → ¬ J' j = 0 → S j) → post J') : vc_XSa_joinOnce post (nI n) ca cb cc J m cut := by
  unfold vc_XSa_joinOnce vc_XSa_apartBelow
  intro F hF
  rw [← hF] at hrel
  refine vlp2_i (fun y J' => ∃ i, y = nI i ∧ i ≤ n ∧ (∀ j, j < n → ¬ J j = 0 → ¬ J' j = 0) ∧ (∀ i' j, i' < i → j < n → ¬ J i' = 0 → rel i' j → ¬ J' j = 0) ∧ (∀ S : Nat → Prop, clo n rel S → (∀ i, i < n → ¬ J i = 0 → S i) → ∀ j, j < n → ¬ J' j = 0 → S j)) (fun y _ => 100 - y.toNatClampNeg) ?_ _ _ ⟨0, rfl, by omega, fun _ _ q => q, fun i' j hi' => absurd hi' (Nat.not_lt_zero i'), fun S _ hS j hj q => hS j hj q⟩
  rintro R _ J1 ⟨i, rfl, hi, h1, h2, h3⟩ hR
  rw [n_le (by omega) (by omega)]
  refine ⟨fun c => ?_, fun c => ?_⟩
  · obtain rfl : i = n := by omega
    exact h J1 h1 h2 h3
  · refine vlp2_i (fun y J' => ∃ j, y = nI j ∧ j ≤ n ∧ (∀ j, j < n → ¬ J j = 0 → ¬ J' j = 0) ∧ (∀ i' j, i' < i → j < n → ¬ J i' = 0 → rel i' j → ¬ J' j = 0) ∧ (∀ j', j' < j → ¬ J i = 0 → rel i j' → ¬ J' j' = 0) ∧ (∀ S : Nat → Prop, clo n rel S → (∀ i, i < n → ¬ J i = 0 → S i) → ∀ j, j < n → ¬ J' j = 0 → S j)) (fun y _ => 100 - y.toNatClampNeg) ?_ _ _ ⟨0, rfl, by omega, h1, h2, fun j hj => absurd hj (Nat.not_lt_zero j), h3⟩
    rintro R2 _ J2 ⟨j, rfl, hj, k1, k2, k3, k4⟩ hR2
    rw [n_le (by omega) (by omega), n_add1, n_add1, nI_clamp (show i < 2 ^ 31 by omega)]
    have m1 : (nI (i + 1)).toNatClampNeg = i + 1 := nI_clamp (by omega)
    have m2 : (nI i).toNatClampNeg = i := nI_clamp (by omega)
    have m3 : ¬ n ≤ j → (nI (j + 1)).toNatClampNeg = j + 1 := fun q => nI_clamp (by omega)
    have m4 : (nI j).toNatClampNeg = j := nI_clamp (by omega)
    refine ⟨fun c2 => ?_, fun c2 => ⟨in_nI (by omega) (by omega), fun c3 => ?_, fun c3 => x_apart (by omega) (by omega) ⟨fun c4 => ?_, fun c4 => ⟨in_nI (by omega) (by omega), ?_⟩⟩⟩⟩
    · obtain rfl : j = n := by omega
      refine hR _ _ ⟨i + 1, rfl, by omega, k1, fun i' j' hi' hj' q r => ?_, k4⟩ (by rw [m1, m2]; omega)
      by_cases e : i' = i
      · subst e; exact k3 j' hj' q r
      · exact k2 i' j' (by omega) hj' q r
    · refine hR2 _ _ ⟨j + 1, rfl, by omega, k1, k2, fun j' hj' q r => ?_, k4⟩ (by rw [m3 c2, m4]; omega)
      exact absurd c3 (k1 i (by omega) q)
    · rw [cmp_gt] at c4
      refine hR2 _ _ ⟨j + 1, rfl, by omega, k1, k2, fun j' hj' q r => ?_, k4⟩ (by rw [m3 c2, m4]; omega)
      by_cases e : j' = j
      · subst e; rw [hrel] at r; omega
      · exact k3 j' (by omega) q r
    · rw [cmp_gt] at c4
      rw [nar1, m4]
      have ne : ∀ j', ¬ J2 j' = 0 → ¬ upd J2 j 1 j' = 0 := fun j' q => by
        by_cases e : j' = j
        · subst e; rw [upd_at]; decide
        · rw [upd_ne e]; exact q
      refine hR2 _ _ ⟨j + 1, rfl, by omega, fun j' hj' q => ne j' (k1 j' hj' q), fun i' j' hi' hj' q r => ne j' (k2 i' j' hi' hj' q r), fun j' hj' q r => ?_, fun S hc hS j' hj' q => ?_⟩ (by rw [m3 c2, m4]; omega)
      · by_cases e : j' = j
        · subst e; rw [upd_at]; decide
        · exact ne j' (k3 j' (by omega) q r)
      · by_cases e : j' = j
        · subst e
          exact hc i j' (by omega) hj' (k4 S hc hS i (by omega) c3) ((hrel i j').mpr (by omega))
        · rw [upd_ne e] at q
          exact k4 S hc hS j' hj' q
theorem x_lowest {post : Int32 → (Nat → Int32) → Prop} {n s : Nat} {ca cb cc : Int64} {J : Nat → Int32} {m : Nat → Nat → Int32} {cut : Int32} {rel : Nat → Nat → Prop} (hn : n ≤ 12) (hs : s < n) (hrel : ∀ i j, rel i j ↔ (apf ca cb cc m i j).toInt ≤ (cut.toInt64 * (ca * cc - cb * cb)).toInt) (h : ∀ k J', k ≤ s → rc n rel s k → (∀ i, i < k → ¬ rc n rel s i) → post (nI k) J') : vc_XSa_lowestJoined post (nI n) ca cb cc J m (nI s) cut := by
  unfold vc_XSa_lowestJoined
  refine vlp2_i (fun y J' => ∃ i, y = nI i ∧ i ≤ n ∧ ∀ j, j < i → (¬ J' j = 0 ↔ j = s)) (fun y _ => 100 - y.toNatClampNeg) ?_ _ _ ⟨0, rfl, by omega, fun j hj => absurd hj (Nat.not_lt_zero j)⟩
  rintro R _ J1 ⟨i, rfl, hi, h1⟩ hR
  rw [n_le (by omega) (by omega)]
  have m2 : (nI i).toNatClampNeg = i := nI_clamp (by omega)
  refine ⟨fun c => ?_, fun c => ?_⟩
  · obtain rfl : i = n := by omega
    clear hR R
    refine vlp2_i (fun y J' => ∃ t, y = nI t ∧ t ≤ i ∧ ¬ J' s = 0 ∧ (∀ j, j < i → ¬ J' j = 0 → rc i rel s j) ∧ (clo i rel (fun j => ¬ J' j = 0) ∨ t + 1 ≤ cn J' i)) (fun y _ => 100 - y.toNatClampNeg) ?_ _ _ ⟨0, rfl, by omega, (h1 s hs).mpr rfl, fun j hj q => by rw [(h1 j hj).mp q]; exact rc_s, Or.inr ?_⟩
    · rintro R _ J2 ⟨t, rfl, ht, k1, k2, k3⟩ hR
      rw [n_le (by omega) (by omega)]
      refine ⟨fun c2 => ?_, fun c2 => x_joinOnce hn hrel (fun J3 q1 q2 q3 => ?_)⟩
      · obtain rfl : t = i := by omega
        have hc : clo t rel (fun j => ¬ J2 j = 0) := by
          rcases k3 with k3 | k3
          · exact k3
          · have := cn_le J2 t; omega
        have iff : ∀ j, j < t → (¬ J2 j = 0 ↔ rc t rel s j) := fun j hj => ⟨k2 j hj, fun r => r (fun j => ¬ J2 j = 0) k1 hc⟩
        refine vlp1_i (fun y => ∃ k, y = nI k ∧ k ≤ s ∧ ∀ j, j < k → ¬ rc t rel s j) (fun y => 100 - y.toNatClampNeg) ?_ _ ⟨0, rfl, by omega, fun j hj => absurd hj (Nat.not_lt_zero j)⟩
        rintro R _ ⟨k, rfl, hk, hno⟩ hR
        have e1 : (nI k).toNatClampNeg = k := nI_clamp (by omega)
        rw [n_le (by omega) (by omega), e1, n_add1]
        refine ⟨fun c3 => ?_, fun c3 => ⟨in_nI (by omega) (by omega), fun c4 => hR _ ⟨k + 1, rfl, by omega, fun j hj => ?_⟩ (by rw [nI_clamp (by omega), e1]; omega), fun c4 => h k _ (by omega) (k2 k (by omega) c4) hno⟩⟩
        · obtain rfl : k = s := by omega
          exact h k _ (Nat.le_refl _) rc_s hno
        · by_cases e : j = k
          · subst e; exact fun r => ((iff j (by omega)).mpr r) c4
          · exact hno j (by omega)
      · rw [n_add1]
        have sound : ∀ j, j < i → ¬ J3 j = 0 → rc i rel s j := q3 (rc i rel s) rc_clo k2
        refine hR _ _ ⟨t + 1, rfl, by omega, q1 s hs k1, sound, ?_⟩ (by rw [nI_clamp (by omega), nI_clamp (by omega)]; omega)
        by_cases ex : ∃ j, j < i ∧ J2 j = 0 ∧ ¬ J3 j = 0
        · rcases k3 with k3 | k3
          · obtain ⟨j, hj, z1, z2⟩ := ex
            exact absurd z1 (sound j hj z2 (fun j => ¬ J2 j = 0) k1 k3)
          · have := cn_lt i q1 ex
            exact Or.inr (by omega)
        · have same : ∀ j, j < i → ¬ J3 j = 0 → ¬ J2 j = 0 := fun j hj z2 z1 => ex ⟨j, hj, z1, z2⟩
          exact Or.inl (fun a b ha hb z r => q2 a b ha hb (same a ha z) r)
    · have : ∀ n', s < n' → n' ≤ i → 1 ≤ cn J1 n' := by
        intro n'
        induction n' with
        | zero => intro h; omega
        | succ n' ih =>
          intro h1' h2'
          unfold cn
          by_cases e : s = n'
          · subst e; rw [if_neg ((h1 s hs).mpr rfl)]; omega
          · have := ih (by omega) (by omega); omega
      have := this i hs (Nat.le_refl _)
      omega
  · rw [n_eq (by omega) (by omega), nar0, nar1, n_add1, m2]
    have st : ∀ v : Int32, (¬ v = 0 ↔ i = s) → R (nI (i + 1)) (upd J1 i v) := fun v hv => by
      refine hR _ _ ⟨i + 1, rfl, by omega, fun j hj => ?_⟩ (by rw [nI_clamp (by omega), m2]; omega)
      by_cases e : j = i
      · subst e; rw [upd_at]; exact hv
      · rw [upd_ne e]; exact h1 j (by omega)
    exact ⟨fun q => ⟨in_nI (by omega) (by omega), st 0 ⟨fun z => absurd rfl z, fun z => absurd z q⟩⟩, fun q => ⟨in_nI (by omega) (by omega), st 1 ⟨fun _ => q, fun _ => by decide⟩⟩⟩
