/-- the best of the sets below m -/
def bst (A : Nat → Nat → Int) (B : Nat → Int) (n m T : Nat) : Prop := T < m ∧ pOkn A B n T ∧ ∀ S, S < m → pOkn A B n S → mny T < mny S ∨ (mny T = mny S ∧ T ≤ S)
theorem m_parts {post : Int32 → Int32 → Int32 → Int64 → (Nat → Int64) → (Nat → Int64) → Prop} {thr : Int32} {N n : Nat} {so : Int32} {un : Int64} {sm ab : Nat → Int64} {en cnt gr : Nat → Int32} {E : Nat → Nat → Int} {W : Nat → Int} {A : Nat → Nat → Int} {B : Nat → Int} (hg : good N cnt gr) (hn : n ≤ 3) (hE : ∀ i c, i < 3 → c < N → (en (24 * i + c)).toInt = E i c ∧ 0 ≤ E i c ∧ E i c ≤ 20) (hW : ∀ c, c < N → (netf cnt gr c).toInt = W c ∧ 0 ≤ W c ∧ W c ≤ 500) (hA : ∀ i j, i < 3 → j < 3 → A i j = dt (E i) (E j) N) (hB : ∀ i, i < 3 → B i = dt (E i) W N) (hs : sums A B) (hex : ∃ S, S < 2 ^ n ∧ pOkn A B n S) (h : ∀ T sm' (u : Int64) (a' : Nat → Int64), bst A B n (2 ^ n) T → u.toInt = sD A T → (∀ i, i < 3 → (a' i).toInt = sX A B T i) → post (nI T) 0 1 u sm' a') : vc_M_parts post thr (nI N) (nI n) so un sm en cnt gr ab := by
  unfold vc_M_parts
  have h8 := pow_8 n hn
  refine m_addUp hg hE hW (fun sm' hsm => ?_)
  have hm : hsum A B sm' := by
    refine ⟨fun i hi => ?_, fun i j hi hj => ?_⟩
    · rw [hsm (4 * i + 3) (by omega), hB i hi, show (4 * i + 3) / 4 = i by omega]
      unfold tgt; rw [if_pos (by omega)]
    · rw [hsm (4 * i + j) (by omega), hA i j hi hj, show (4 * i + j) / 4 = i by omega]
      unfold tgt; rw [if_neg (by omega), show (4 * i + j) % 4 = j by omega]
  rw [n_shl n (by omega)]
  refine vlp2_i (fun z y => ∃ m, y = nI m ∧ m ≤ 2 ^ n ∧ ((z = -1 ∧ ∀ S, S < m → ¬ pOkn A B n S) ∨ (∃ T, z = nI T ∧ bst A B n m T))) (fun _ y => 100 - y.toNatClampNeg) ?_ _ _ ⟨0, rfl, by omega, Or.inl ⟨rfl, fun a ha => absurd ha (Nat.not_lt_zero a)⟩⟩
  rintro R z _ ⟨m, rfl, hm2, hz⟩ hR
  have cm : (nI m).toNatClampNeg = m := nI_clamp (by omega)
  rw [n_le (by omega) (by omega), n_add1]
  refine ⟨fun c => ?_, fun c => ?_⟩
  · obtain rfl : m = 2 ^ n := by omega
    rcases hz with ⟨rfl, q⟩ | ⟨T, rfl, q⟩
    · obtain ⟨S, h1, h2⟩ := hex
      exact absurd h2 (q S h1)
    · have hT := q.1
      have hT8 : T < 8 := by omega
      refine m_det hT8 ?_
      have hu := (m_dets hs hm hT8).1
      refine vlp2_i (fun y a' => ∃ k, y = nI k ∧ k ≤ 3 ∧ ∀ j, j < k → (a' j).toInt = sX A B T j) (fun y _ => 100 - y.toNatClampNeg) ?_ _ _ ⟨0, rfl, by omega, fun a ha => absurd ha (Nat.not_lt_zero a)⟩
      rintro R2 _ a1 ⟨k, rfl, hk, hk2⟩ hR2
      have ck : (nI k).toNatClampNeg = k := nI_clamp (by omega)
      rw [show (3 : Int32) = nI 3 from rfl, n_le (by omega) (by omega), n_add1, ck]
      refine ⟨fun c2 => ?_, fun c2 => m_share1 hs hm hT8 (by omega) (fun v hv => ⟨in_nI (by omega) (by omega), ?_⟩)⟩
      · obtain rfl : k = 3 := by omega
        exact h T _ _ _ q hu hk2
      · refine hR2 _ _ ⟨k + 1, rfl, by omega, fun j hj => ?_⟩ (by rw [nI_clamp (by omega), ck]; omega)
        by_cases e : j = k
        · subst e; rw [updL_at]; exact hv
        · rw [updL_ne e]; exact hk2 j (by omega)
  · have hm8 : m < 8 := by omega
    have st : ∀ z', ((z' = -1 ∧ ∀ S, S < m + 1 → ¬ pOkn A B n S) ∨ (∃ T, z' = nI T ∧ bst A B n (m + 1) T)) → R z' (nI (m + 1)) := fun z' hz' => hR _ _ ⟨m + 1, rfl, by omega, hz'⟩ (by rw [nI_clamp (by omega), cm]; omega)
    intro J hJ
    rcases hz with ⟨rfl, q⟩ | ⟨T, rfl, q⟩
    · have k1 : J 1 := by
        refine hJ _ ⟨fun e => absurd e (by decide), fun _ => m_isLeast hs hm hn hm8 (fun y => ⟨fun e => absurd e (by decide), fun _ => st _ (Or.inr ⟨m, rfl, by omega, y, fun S hS hp => ?_⟩)⟩) (fun no => ⟨fun _ => st _ (Or.inl ⟨rfl, fun S hS => ?_⟩), fun e => absurd rfl e⟩)⟩
        · by_cases e : S = m
          · subst e; exact Or.inr ⟨rfl, Nat.le_refl _⟩
          · exact absurd hp (q S (by omega))
        · by_cases e : S = m
          · subst e; exact no
          · exact q S (by omega)
      intro J2 hJ2
      exact ⟨fun _ => hJ2 k1, fun e => absurd rfl e⟩
    · have hT := q.1
      have nT : ¬ nI T = (-1 : Int32) := fun e => by
        rw [z_eq, nI_toInt (by omega)] at e
        have : (T : Int) = -1 := e
        omega
      intro J2 hJ2
      refine ⟨fun e => absurd e nT, fun _ => ?_⟩
      unfold vc_M_many
      have my1 := mny_8 T (by omega)
      have my2 := mny_8 m hm8
      rw [mny_i T (by omega), mny_i m hm8]
      dsimp only
      rw [n_le (by omega) (by omega)]
      refine ⟨fun c2 => hJ _ ⟨fun _ => st _ (Or.inr ⟨T, rfl, by omega, q.2.1, fun S hS hp => ?_⟩), fun e => absurd rfl e⟩, fun c2 => hJ2 (hJ _ ⟨fun e => absurd e (by decide), fun _ => m_isLeast hs hm hn hm8 (fun y => ⟨fun e => absurd e (by decide), fun _ => st _ (Or.inr ⟨m, rfl, by omega, y, fun S hS hp => ?_⟩)⟩) (fun no => ⟨fun _ => st _ (Or.inr ⟨T, rfl, by omega, q.2.1, fun S hS hp => ?_⟩), fun e => absurd rfl e⟩)⟩)⟩
      · by_cases e : S = m
        · subst e
          rcases Nat.lt_or_eq_of_le c2 with w | w
          · exact Or.inl w
          · exact Or.inr ⟨w, by omega⟩
        · exact q.2.2 S (by omega) hp
      · by_cases e : S = m
        · subst e; exact Or.inr ⟨rfl, Nat.le_refl _⟩
        · have := q.2.2 S (by omega) hp; omega
      · by_cases e : S = m
        · subst e; exact absurd hp no
        · exact q.2.2 S (by omega) hp
theorem m_least {post : Int32 → Int32 → (Nat → Int64) → Prop} {thr : Int32} {N n : Nat} {so : Int32} {sp : Prop} [Decidable sp] {un : Int64} {sm ab : Nat → Int64} {en cnt gr : Nat → Int32} {E : Nat → Nat → Int} {W : Nat → Int} {A : Nat → Nat → Int} {B : Nat → Int} {D : Int} {X : Nat → Int} (hso : so = bi sp) (hg : good N cnt gr) (hn : n ≤ 3) (hE : ∀ i c, i < 3 → c < N → (en (24 * i + c)).toInt = E i c ∧ 0 ≤ E i c ∧ E i c ≤ 20) (hW : ∀ c, c < N → (netf cnt gr c).toInt = W c ∧ 0 ≤ W c ∧ W c ≤ 500) (hA : ∀ i j, i < 3 → j < 3 → A i j = dt (E i) (E j) N) (hB : ∀ i, i < 3 → B i = dt (E i) W N) (hs : sums A B) (h1 : ¬ sp → post 0 1 sm) (hx : sp → shares D X ∧ un.toInt = D ∧ ∀ k, k < 3 → (ab k).toInt = X k) (h3 : sp → ∀ sm', (∀ l, l < n → pl A B D (X 0) (X 1) (X 2) l ≤ 0 ∧ (0 < X l → pl A B D (X 0) (X 1) (X 2) l = 0)) → post 1 0 sm') (h4 : sp → ∀ sm', ¬ (∀ l, l < n → pl A B D (X 0) (X 1) (X 2) l ≤ 0 ∧ (0 < X l → pl A B D (X 0) (X 1) (X 2) l = 0)) → post 0 0 sm') : vc_M_least post thr (nI N) (nI n) so un sm en cnt gr ab := by
  unfold vc_M_least
  subst hso
  refine t_goes1 (fun c => ⟨fun z => absurd rfl z, fun _ => h1 c⟩) (fun c => ⟨fun _ => m_addUp hg hE hW (fun sm' hsm => ?_), fun z => absurd z (by decide)⟩)
  obtain ⟨hsh, hun, hab⟩ := hx c
  have h3 := h3 c sm'
  have h4 := h4 c sm'
  have hm : hsum A B sm' := by
    refine ⟨fun i hi => ?_, fun i j hi hj => ?_⟩
    · rw [hsm (4 * i + 3) (by omega), hB i hi, show (4 * i + 3) / 4 = i by omega]
      unfold tgt; rw [if_pos (by omega)]
    · rw [hsm (4 * i + j) (by omega), hA i j hi hj, show (4 * i + j) / 4 = i by omega]
      unfold tgt; rw [if_neg (by omega), show (4 * i + j) % 4 = j by omega]
  have e0 : (0 : Int64).toInt = 0 := rfl
  refine vlp2_i (fun z y => ∃ l, y = nI l ∧ l ≤ n ∧ ((z = 1 ∧ ∀ j, j < l → pl A B D (X 0) (X 1) (X 2) j ≤ 0 ∧ (0 < X j → pl A B D (X 0) (X 1) (X 2) j = 0)) ∨ (z = 0 ∧ ¬ (∀ l, l < n → pl A B D (X 0) (X 1) (X 2) l ≤ 0 ∧ (0 < X l → pl A B D (X 0) (X 1) (X 2) l = 0))))) (fun _ y => 100 - y.toNatClampNeg) ?_ _ _ ⟨0, rfl, by omega, Or.inl ⟨rfl, fun a ha => absurd ha (Nat.not_lt_zero a)⟩⟩
  rintro R z _ ⟨l, rfl, hl, hz⟩ hR
  have cl : (nI l).toNatClampNeg = l := nI_clamp (by omega)
  rw [n_le (by omega) (by omega), n_add1, cl]
  refine ⟨fun c2 => ?_, fun c2 => ⟨vp_in_iff.mpr (by decide), vp_in_iff.mpr (by decide), vp_in_iff.mpr (by decide), m_pull hs hm (by omega) hsh (hab 0 (by omega)) (hab 1 (by omega)) (hab 2 (by omega)) hun (fun v hv => ?_)⟩⟩
  · obtain rfl : l = n := by omega
    rcases hz with ⟨rfl, q⟩ | ⟨rfl, q⟩
    · exact ⟨nar_1, h3 q⟩
    · exact ⟨nar_0, h4 q⟩
  · rcases hz with ⟨rfl, q⟩ | ⟨rfl, q⟩
    · have st1 : (pl A B D (X 0) (X 1) (X 2) l ≤ 0 ∧ (0 < X l → pl A B D (X 0) (X 1) (X 2) l = 0)) → R 1 (nI (l + 1)) := by
        intro w
        refine hR _ _ ⟨l + 1, rfl, by omega, Or.inl ⟨rfl, fun j hj => ?_⟩⟩ (by rw [nI_clamp (by omega), cl]; omega)
        by_cases e : j = l
        · subst e; exact w
        · exact q j (by omega)
      have st0 : ¬ (pl A B D (X 0) (X 1) (X 2) l ≤ 0 ∧ (0 < X l → pl A B D (X 0) (X 1) (X 2) l = 0)) → R 0 (nI (l + 1)) := by
        intro w
        exact hR _ _ ⟨l + 1, rfl, by omega, Or.inr ⟨rfl, fun p => w (p l (by omega))⟩⟩ (by rw [nI_clamp (by omega), cl]; omega)
      refine ⟨fun e => absurd e (by decide), fun _ => ⟨in_nI (by omega) (by omega), ?_⟩⟩
      rw [cmp_le, hab l (by omega), e0, cmp_gt, e0, cmp_eq, y_eq, e0, hv]
      exact ⟨fun w => ⟨fun w2 => st0 (fun p => by omega), fun w2 => st1 ⟨by omega, fun p => by omega⟩⟩, fun w => ⟨fun w2 => st0 (fun p => w2 (p.2 (by omega))), fun w2 => st1 ⟨by omega, fun _ => w2⟩⟩⟩
    · refine ⟨fun _ => ?_, fun e => absurd rfl e⟩
      exact hR _ _ ⟨l + 1, rfl, by omega, Or.inr ⟨rfl, q⟩⟩ (by rw [nI_clamp (by omega), cl]; omega)
/-- a set with a library that is not there has no solution alone -/
theorem sD_room {A : Nat → Nat → Int} (hA : symm3 A) {n S : Nat} (hn : n ≤ 3) (hS : S < 8) (hz : ∀ l j, n ≤ l → l < 3 → j < 3 → A l j = 0) (h : 0 < sD A S) : S < 2 ^ n := by
  obtain ⟨h1, h2, h3⟩ := hA
  apply Classical.byContradiction
  intro hc
  rcases (show n = 0 ∨ n = 1 ∨ n = 2 ∨ n = 3 by omega) with rfl | rfl | rfl | rfl
  · have z00 := hz 0 0 (by omega) (by omega) (by omega); have z01 := hz 0 1 (by omega) (by omega) (by omega); have z02 := hz 0 2 (by omega) (by omega) (by omega)
    have z11 := hz 1 1 (by omega) (by omega) (by omega); have z12 := hz 1 2 (by omega) (by omega) (by omega); have z22 := hz 2 2 (by omega) (by omega) (by omega)
    rcases lt8 hS with rfl | rfl | rfl | rfl | rfl | rfl | rfl | rfl <;> simp [sD, pD, z00, z01, z02, z11, z12, z22] at h hc
  · have z11 := hz 1 1 (by omega) (by omega) (by omega); have z12 := hz 1 2 (by omega) (by omega) (by omega); have z22 := hz 2 2 (by omega) (by omega) (by omega)
    have z01 : A 0 1 = 0 := by rw [← h1]; exact hz 1 0 (by omega) (by omega) (by omega)
    have z02 : A 0 2 = 0 := by rw [← h2]; exact hz 2 0 (by omega) (by omega) (by omega)
    rcases lt8 hS with rfl | rfl | rfl | rfl | rfl | rfl | rfl | rfl <;> simp [sD, pD, z01, z02, z11, z12, z22] at h hc
  · have z22 := hz 2 2 (by omega) (by omega) (by omega)
    have z02 : A 0 2 = 0 := by rw [← h2]; exact hz 2 0 (by omega) (by omega) (by omega)
    have z12 : A 1 2 = 0 := by rw [← h3]; exact hz 2 1 (by omega) (by omega) (by omega)
    rcases lt8 hS with rfl | rfl | rfl | rfl | rfl | rfl | rfl | rfl <;> simp [sD, pD, z02, z12, z22] at h hc
  · omega
theorem dt_sums {E : Nat → Nat → Int} {W : Nat → Int} {N : Nat} (hN : N ≤ 24) (hE : ∀ i c, i < 3 → c < N → 0 ≤ E i c ∧ E i c ≤ 20) (hW : ∀ c, c < N → 0 ≤ W c ∧ W c ≤ 500) : sums (fun i j => dt (E i) (E j) N) (fun i => dt (E i) W N) := by
  refine ⟨⟨dt_comm N, dt_comm N, dt_comm N⟩, fun i j hi hj => ?_, fun i hi => ?_⟩
  · have := dt_b (f := E i) (g := E j) (F := 400) N (fun k hk => by
      have := mul_in (hE i k hi hk).1 (hE i k hi hk).2 (hE j k hj hk).1 (hE j k hj hk).2; omega)
    dsimp only; omega
  · have := dt_b (f := E i) (g := W) (F := 10000) N (fun k hk => by
      have := mul_in (hE i k hi hk).1 (hE i k hi hk).2 (hW k hk).1 (hW k hk).2; omega)
    dsimp only; omega
theorem dt_exists {E : Nat → Nat → Int} {W : Nat → Int} {N n : Nat} (hn : n ≤ 3) (hz : ∀ i c, n ≤ i → i < 3 → c < N → E i c = 0) : ∃ S, S < 2 ^ n ∧ pOkn (fun i j => dt (E i) (E j) N) (fun i => dt (E i) W N) n S := by
  obtain ⟨S, hS, k1, k2, k3, k4, k5, k6, k7⟩ := three (fun x y z s => dt_sq (p := E 0) (q := E 1) (r := E 2) (w := W) (x := x) (y := y) (z := z) (s := s) N)
  have sy : symm3 (fun i j => dt (E i) (E j) N) := ⟨dt_comm N, dt_comm N, dt_comm N⟩
  refine ⟨S, sD_room sy hn hS (fun l j h1 h2 h3 => dt_zero N (fun c hc => hz l c h1 h2 hc)) k1, ⟨k1, fun k hk => ?_⟩, fun l hl => ?_⟩
  · rcases lt3 hk with rfl | rfl | rfl
    · exact k2
    · exact k3
    · exact k4
  · rcases lt3 (show l < 3 by omega) with rfl | rfl | rfl
    · exact k5
    · unfold pl
      rw [sy.1]; exact k6
    · unfold pl
      rw [sy.2.1, sy.2.2]; exact k7
/-- class and reference take the same set -/
theorem same_set {A : Nat → Nat → Int} {B : Nat → Int} {n k T : Nat} (hn : n ≤ 3) (hk : k < 8) (h1 : stn k < 2 ^ n) (h2 : pOkn A B n (stn k)) (h3 : ∀ j, j < k → ¬ (stn j < 2 ^ n ∧ pOkn A B n (stn j))) (hb : bst A B n (2 ^ n) T) : stn k = T := by
  have h8 := pow_8 n hn
  have hT := hb.1
  obtain ⟨j, hj, rfl⟩ := stn_on T (by omega)
  rcases Nat.lt_trichotomy j k with c | c | c
  · exact absurd ⟨hb.1, hb.2.1⟩ (h3 j c)
  · rw [c]
  · have l1 := stn_lt j hj k c
    have l2 := hb.2.2 (stn k) h1 h2
    omega
theorem fin_z {P : Prop} {k thr b : Int32} {out : Nat → Int64} (h1 : thr = k) (h2 : k = 0 → out 0 = if b = 0 then 0 else 1) (hR : P) : vc_M_thrown (fun (r : Int32) => ((r = k → ((¬ k = 0 → P) ∧ (k = 0 → (vp_in (0 : Int32) 1 ∧ (∀ J : Int64 → Int64 → Prop, (∀ (z0 : Int64) (z1 : Int64), (((lg_cmp z0 z1) = 0 → P) ∧ (¬ (lg_cmp z0 z1) = 0 → False)) → J z0 z1) → ((b = 0 → J (out ((0 : Int32).toNatClampNeg)) (0 : Int64)) ∧ (¬ b = 0 → J (out ((0 : Int32).toNatClampNeg)) (1 : Int64)))))))) ∧ (¬ r = k → False))) thr := by
  unfold vc_M_thrown
  refine ⟨fun _ => ⟨fun _ => hR, fun c => ⟨vp_in_iff.mpr (by decide), fun J hJ => ⟨fun q => hJ _ _ ⟨fun _ => hR, fun n => n ?_⟩, fun q => hJ _ _ ⟨fun _ => hR, fun n => n ?_⟩⟩⟩⟩, fun n => n h1⟩
  · rw [cmp_eq]; have := h2 c; rw [if_pos q] at this; exact this
  · rw [cmp_eq]; have := h2 c; rw [if_neg q] at this; exact this
theorem pc_10 {R : Int32 → (Nat → Int32) → (Nat → Int32) → (Nat → Int32) → Int32 → (Nat → Nat → Int32) → (Nat → Int32) → (Nat → Nat → Int32) → Int64 → Int32 → Int32 → (Nat → Nat → Int32) → (Nat → Int64) → (Nat → Nat → Int64) → (Nat → Int64) → (Nat → Nat → Int64) → (Nat → Int64) → Int32 → Int64 → Int64 → Int64 → (Nat → Nat → Int32) → (Nat → Int32) → Int32 → (Nat → Int32) → (Nat → Int32) → Int32 → Int32 → Int32 → Int32 → Int32 → Int64 → Int32 → Int32 → Int32 → Int32 → Int32 → Int64 → Int64 → (Nat → Int32) → (Nat → Int32) → (Nat → Int32) → (Nat → Int32) → (Nat → Int32) → (Nat → Int32) → (Nat → Int32) → (Nat → Int64) → (Nat → Int64) → (Nat → Int32) → (Nat → Int32) → (Nat → Int32) → (Nat → Int64) → Prop} {xs : Nat → Int32} {L N : Nat} {ch : Int32} {cnt : Nat → Int32} {gr : Nat → Int32} {fm : Nat → Int32} {fsz : Int32} {rows : Nat → Nat → Int32} {szs : Nat → Int32} {lns : Nat → Nat → Int32} {below : Int64} {msz : Int32} {solved : Int32} {ents : Nat → Nat → Int32} {above : Nat → Int64} {prods : Nat → Nat → Int64} {mats : Nat → Int64} {sys : Nat → Nat → Int64} {rgt : Nat → Int64} {csz : Int32} {ca : Int64} {cb : Int64} {cc : Int64} {meas : Nat → Nat → Int32} {joined : Nat → Int32} {dsz : Int32} {days : Nat → Int32} {facs : Nat → Int32} {thr : Int32} {mch : Int32} {pks : Int32} {libs : Int32} {msolved : Int32} {under : Int64} {smps : Int32} {ma : Int32} {mb : Int32} {mc : Int32} {stds : Int32} {mabove : Int64} {mbelow : Int64} {mcnt : Nat → Int32} {mbk : Nat → Int32} {mnx : Nat → Int32} {mfnd : Nat → Int32} {mlns : Nat → Int32} {mlm : Nat → Int32} {ments : Nat → Int32} {sums : Nat → Int64} {mabs : Nat → Int64} {mmeas : Nat → Int32} {mdays : Nat → Int32} {mfacs : Nat → Int32} {out : Nat → Int64} {y4 : Int32} (hI : pI N ch cnt gr fm fsz rows szs lns below msz solved ents above prods mats sys rgt csz ca cb cc meas joined dsz days facs thr mch pks libs msolved under smps ma mb mc stds mabove mbelow mcnt mbk mnx mfnd mlns mlm ments sums mabs mmeas mdays mfacs out) (hR : ∀ {ch cnt gr fm fsz rows szs lns below msz solved ents above prods mats sys rgt csz ca cb cc meas joined dsz days facs thr mch pks libs msolved under smps ma mb mc stds mabove mbelow mcnt mbk mnx mfnd mlns mlm ments sums mabs mmeas mdays mfacs out}, pI N ch cnt gr fm fsz rows szs lns below msz solved ents above prods mats sys rgt csz ca cb cc meas joined dsz days facs thr mch pks libs msolved under smps ma mb mc stds mabove mbelow mcnt mbk mnx mfnd mlns mlm ments sums mabs mmeas mdays mfacs out → R ch cnt gr fm fsz rows szs lns below msz solved ents above prods mats sys rgt csz ca cb cc meas joined dsz days facs thr mch pks libs msolved under smps ma mb mc stds mabove mbelow mcnt mbk mnx mfnd mlns mlm ments sums mabs mmeas mdays mfacs out) (hy1 : vp_in (y4 + (1 : Int32)) L) (hy2 : vp_in (y4 + (2 : Int32)) L) (hy3 : vp_in (y4 + (3 : Int32)) L) : vc_L_case_10 R xs L N ch cnt gr fm fsz rows szs lns below msz solved ents above prods mats sys rgt csz ca cb cc meas joined dsz days facs thr mch pks libs msolved under smps ma mb mc stds mabove mbelow mcnt mbk mnx mfnd mlns mlm ments sums mabs mmeas mdays mfacs out y4 := by
  unfold vc_L_case_10
  obtain ⟨hSp, hPe, hLi, hMi, hSa, hSt⟩ := hI
  unfold vc_X_parts
  obtain ⟨hN4, hN, rfl, rfl, hcn, hgr⟩ := id hSp
  obtain ⟨l, hl, rfl, rfl, he, hz, hso⟩ := id hMi
  have hg := hSp.good
  have gC : good N cnt gr := ⟨hN, fun k hk => ⟨(hcn k hk).2.1, (hcn k hk).2.2, (hgr k hk).2.1, (hgr k hk).2.2⟩⟩
  have hE0 : ∀ i c, i < 3 → c < N → (ents i c).toInt = (fun i c => (ents i c).toInt) i c ∧ 0 ≤ (fun i c => (ents i c).toInt) i c ∧ (fun i c => (ents i c).toInt) i c ≤ 20 := fun i c hi hc => ⟨rfl, (he i c hi hc).2⟩
  have hE1 : ∀ i c, i < 3 → c < N → (ments (24 * i + c)).toInt = (fun i c => (ents i c).toInt) i c ∧ 0 ≤ (fun i c => (ents i c).toInt) i c ∧ (fun i c => (ents i c).toInt) i c ≤ 20 := fun i c hi hc => ⟨by rw [← (he i c hi hc).1], (he i c hi hc).2⟩
  have hW0 : ∀ c, c < N → (netf cnt gr c).toInt = (fun c => (netf cnt gr c).toInt) c ∧ 0 ≤ (fun c => (netf cnt gr c).toInt) c ∧ (fun c => (netf cnt gr c).toInt) c ≤ 500 := fun c hc => ⟨rfl, netf_b (gC.2 c hc).1 (gC.2 c hc).2.1 (gC.2 c hc).2.2.1 (gC.2 c hc).2.2.2⟩
  have hW1 : ∀ c, c < N → (netf mcnt mbk c).toInt = (fun c => (netf cnt gr c).toInt) c ∧ 0 ≤ (fun c => (netf cnt gr c).toInt) c ∧ (fun c => (netf cnt gr c).toInt) c ≤ 500 := fun c hc => ⟨by rw [← hSp.net c hc], (hW0 c hc).2⟩
  have hz0 : ∀ i c, l ≤ i → i < 3 → c < N → (fun i c => (ents i c).toInt) i c = 0 := fun i c h1 h2 h3 => by dsimp only; rw [hz i c h1 h2 h3]; rfl
  generalize (fun i c => (ents i c).toInt) = E at hE0 hE1 hz0
  generalize (fun c => (netf cnt gr c).toInt) = W at hW0 hW1
  have hs := dt_sums hN (fun i c hi hc => (hE0 i c hi hc).2) (fun c hc => (hW0 c hc).2)
  have hex := dt_exists (W := W) hl hz0
  refine x_weigh hN hE0 hW0 (fun mt' pr' e1 e2 => x_solve hs hl e1 e2 hex (fun k hk q1 q2 q3 d r' s' a' hd ha => m_parts hg hl hE1 hW1 (fun _ _ _ _ => rfl) (fun _ _ => rfl) hs hex (fun T sm' u b' hb hu hb' => ?_)))
  have eT := same_set hl hk q1 q2 q3 hb
  have h8 := stn_8 k hk
  refine ⟨fun _ => hR ⟨hSp, hPe, hLi, ?_, hSa, hSt⟩, fun n => n (by rw [eT])⟩
  refine ⟨l, hl, rfl, rfl, he, hz, Or.inr ⟨rfl, rfl, y_eq.mpr (by rw [hd, hu, eT]), by rw [hd]; exact q2.1.1, by rw [hd]; exact (sD_bd hs h8).2, fun i hi => ⟨y_eq.mpr (by rw [ha i hi, hb' i hi, eT]), by rw [ha i hi]; exact q2.1.2 i hi, by rw [ha i hi]; exact (sX_bd hs h8 hi).2⟩⟩⟩
theorem pc_12 {R : Int32 → (Nat → Int32) → (Nat → Int32) → (Nat → Int32) → Int32 → (Nat → Nat → Int32) → (Nat → Int32) → (Nat → Nat → Int32) → Int64 → Int32 → Int32 → (Nat → Nat → Int32) → (Nat → Int64) → (Nat → Nat → Int64) → (Nat → Int64) → (Nat → Nat → Int64) → (Nat → Int64) → Int32 → Int64 → Int64 → Int64 → (Nat → Nat → Int32) → (Nat → Int32) → Int32 → (Nat → Int32) → (Nat → Int32) → Int32 → Int32 → Int32 → Int32 → Int32 → Int64 → Int32 → Int32 → Int32 → Int32 → Int32 → Int64 → Int64 → (Nat → Int32) → (Nat → Int32) → (Nat → Int32) → (Nat → Int32) → (Nat → Int32) → (Nat → Int32) → (Nat → Int32) → (Nat → Int64) → (Nat → Int64) → (Nat → Int32) → (Nat → Int32) → (Nat → Int32) → (Nat → Int64) → Prop} {xs : Nat → Int32} {L N : Nat} {ch : Int32} {cnt : Nat → Int32} {gr : Nat → Int32} {fm : Nat → Int32} {fsz : Int32} {rows : Nat → Nat → Int32} {szs : Nat → Int32} {lns : Nat → Nat → Int32} {below : Int64} {msz : Int32} {solved : Int32} {ents : Nat → Nat → Int32} {above : Nat → Int64} {prods : Nat → Nat → Int64} {mats : Nat → Int64} {sys : Nat → Nat → Int64} {rgt : Nat → Int64} {csz : Int32} {ca : Int64} {cb : Int64} {cc : Int64} {meas : Nat → Nat → Int32} {joined : Nat → Int32} {dsz : Int32} {days : Nat → Int32} {facs : Nat → Int32} {thr : Int32} {mch : Int32} {pks : Int32} {libs : Int32} {msolved : Int32} {under : Int64} {smps : Int32} {ma : Int32} {mb : Int32} {mc : Int32} {stds : Int32} {mabove : Int64} {mbelow : Int64} {mcnt : Nat → Int32} {mbk : Nat → Int32} {mnx : Nat → Int32} {mfnd : Nat → Int32} {mlns : Nat → Int32} {mlm : Nat → Int32} {ments : Nat → Int32} {sums : Nat → Int64} {mabs : Nat → Int64} {mmeas : Nat → Int32} {mdays : Nat → Int32} {mfacs : Nat → Int32} {out : Nat → Int64} {y4 : Int32} (hI : pI N ch cnt gr fm fsz rows szs lns below msz solved ents above prods mats sys rgt csz ca cb cc meas joined dsz days facs thr mch pks libs msolved under smps ma mb mc stds mabove mbelow mcnt mbk mnx mfnd mlns mlm ments sums mabs mmeas mdays mfacs out) (hR : ∀ {ch cnt gr fm fsz rows szs lns below msz solved ents above prods mats sys rgt csz ca cb cc meas joined dsz days facs thr mch pks libs msolved under smps ma mb mc stds mabove mbelow mcnt mbk mnx mfnd mlns mlm ments sums mabs mmeas mdays mfacs out}, pI N ch cnt gr fm fsz rows szs lns below msz solved ents above prods mats sys rgt csz ca cb cc meas joined dsz days facs thr mch pks libs msolved under smps ma mb mc stds mabove mbelow mcnt mbk mnx mfnd mlns mlm ments sums mabs mmeas mdays mfacs out → R ch cnt gr fm fsz rows szs lns below msz solved ents above prods mats sys rgt csz ca cb cc meas joined dsz days facs thr mch pks libs msolved under smps ma mb mc stds mabove mbelow mcnt mbk mnx mfnd mlns mlm ments sums mabs mmeas mdays mfacs out) (hy1 : vp_in (y4 + (1 : Int32)) L) (hy2 : vp_in (y4 + (2 : Int32)) L) (hy3 : vp_in (y4 + (3 : Int32)) L) : vc_L_case_12 R xs L N ch cnt gr fm fsz rows szs lns below msz solved ents above prods mats sys rgt csz ca cb cc meas joined dsz days facs thr mch pks libs msolved under smps ma mb mc stds mabove mbelow mcnt mbk mnx mfnd mlns mlm ments sums mabs mmeas mdays mfacs out y4 := by
  unfold vc_L_case_12
  obtain ⟨hSp, hPe, hLi, hMi, hSa, hSt⟩ := hI
  unfold vc_L_least vc_X_least
  obtain ⟨hN4, hN, rfl, rfl, hcn, hgr⟩ := id hSp
  obtain ⟨l, hl, rfl, rfl, he, hz, hso⟩ := id hMi
  have hg := hSp.good
  have gC : good N cnt gr := ⟨hN, fun k hk => ⟨(hcn k hk).2.1, (hcn k hk).2.2, (hgr k hk).2.1, (hgr k hk).2.2⟩⟩
  have hE0 : ∀ i c, i < 3 → c < N → (ents i c).toInt = (fun i c => (ents i c).toInt) i c ∧ 0 ≤ (fun i c => (ents i c).toInt) i c ∧ (fun i c => (ents i c).toInt) i c ≤ 20 := fun i c hi hc => ⟨rfl, (he i c hi hc).2⟩
  have hE1 : ∀ i c, i < 3 → c < N → (ments (24 * i + c)).toInt = (fun i c => (ents i c).toInt) i c ∧ 0 ≤ (fun i c => (ents i c).toInt) i c ∧ (fun i c => (ents i c).toInt) i c ≤ 20 := fun i c hi hc => ⟨by rw [← (he i c hi hc).1], (he i c hi hc).2⟩
  have hW0 : ∀ c, c < N → (netf cnt gr c).toInt = (fun c => (netf cnt gr c).toInt) c ∧ 0 ≤ (fun c => (netf cnt gr c).toInt) c ∧ (fun c => (netf cnt gr c).toInt) c ≤ 500 := fun c hc => ⟨rfl, netf_b (gC.2 c hc).1 (gC.2 c hc).2.1 (gC.2 c hc).2.2.1 (gC.2 c hc).2.2.2⟩
  have hW1 : ∀ c, c < N → (netf mcnt mbk c).toInt = (fun c => (netf cnt gr c).toInt) c ∧ 0 ≤ (fun c => (netf cnt gr c).toInt) c ∧ (fun c => (netf cnt gr c).toInt) c ≤ 500 := fun c hc => ⟨by rw [← hSp.net c hc], (hW0 c hc).2⟩
  have hz0 : ∀ i c, l ≤ i → i < 3 → c < N → (fun i c => (ents i c).toInt) i c = 0 := fun i c h1 h2 h3 => by dsimp only; rw [hz i c h1 h2 h3]; rfl
  generalize (fun i c => (ents i c).toInt) = E at hE0 hE1 hz0
  generalize (fun c => (netf cnt gr c).toInt) = W at hW0 hW1
  have hs := dt_sums hN (fun i c hi hc => (hE0 i c hi hc).2) (fun c hc => (hW0 c hc).2)
  have hsp : solved = bi (solved = 1) ∧ msolved = bi (solved = 1) := by
    rcases hso with ⟨e1, e2⟩ | ⟨e1, e2, _⟩
    · rw [e1, e2]; exact ⟨rfl, rfl⟩
    · rw [e1, e2]; exact ⟨rfl, rfl⟩
  have hx : solved = 1 → shares below.toInt (fun k => (above k).toInt) ∧ under.toInt = below.toInt ∧ ∀ k, k < 3 → (mabs k).toInt = (fun k => (above k).toInt) k := by
    intro e
    rcases hso with ⟨e1, e2⟩ | ⟨e1, e2, eb, b1, b2, hab⟩
    · rw [e1] at e; exact absurd e (by decide)
    · exact ⟨⟨by omega, b2, fun k hk => (hab k hk).2⟩, by rw [eb], fun k hk => by dsimp only; rw [(hab k hk).1]⟩
  refine t_needState (fun q => ?_) (fun q => ?_)
  · have e1 : solved = 1 := by
      rcases hso with ⟨e1, e2⟩ | ⟨e1, _⟩
      · exact absurd e1 q
      · exact e1
    obtain ⟨hsh, hun, hab⟩ := hx e1
    refine x_weigh hN hE0 hW0 (fun mt' pr' g1 g2 => x_isLeast (D := below.toInt) (X := fun k => (above k).toInt) hs hsh hl g1 g2 rfl (fun k _ => rfl) (fun z => ⟨nar_1, ⟨fun w => absurd w (by decide), fun _ => ⟨in_01, ?_⟩⟩⟩) (fun z => ⟨nar_0, ⟨fun _ => ⟨in_01, ?_⟩, fun w => absurd rfl w⟩⟩))
    · exact m_least hsp.2 hg hl hE1 hW1 (fun _ _ _ _ => rfl) (fun _ _ => rfl) hs (fun n => absurd e1 n) hx (fun _ sm' _ => fin_z rfl (fun _ => by rw [out_0]; rfl) (hR ⟨hSp, hPe, hLi, hMi, hSa, hSt⟩)) (fun _ sm' n => absurd z n)
    · exact m_least hsp.2 hg hl hE1 hW1 (fun _ _ _ _ => rfl) (fun _ _ => rfl) hs (fun n => absurd e1 n) hx (fun _ sm' n => absurd n z) (fun _ sm' _ => fin_z rfl (fun _ => by rw [out_0]; rfl) (hR ⟨hSp, hPe, hLi, hMi, hSa, hSt⟩))
  · exact ⟨rfl, m_least hsp.2 hg hl hE1 hW1 (fun _ _ _ _ => rfl) (fun _ _ => rfl) hs (fun _ => fin_z rfl (fun n => absurd n (by decide)) (hR ⟨hSp, hPe, hLi, hMi, hSa, hSt⟩)) hx (fun e => by rw [q] at e; exact absurd e (by decide)) (fun e => by rw [q] at e; exact absurd e (by decide))⟩
