/-! the class's solving -/
theorem x_isIn {post : Int32 → Prop} {S k : Nat} (hS : S < 8) (hk : k < 3) (h1 : S.testBit k = true → post 1) (h0 : ¬ S.testBit k = true → post 0) : vc_XMi_isIn post (nI S) (nI k) := by
  unfold vc_XMi_isIn
  rw [n_isIn (by omega) (by omega)]
  exact ⟨h0, h1⟩
def rgt (mt : Nat → Int64) (S i : Nat) : Int64 := if S.testBit i = true then mt i else 0
def sysf (pr : Nat → Nat → Int64) (S i j : Nat) : Int64 := if S.testBit i = true ∧ S.testBit j = true then pr i j else if i = j then 1 else 0
theorem x_layOut {post : (Nat → Int64) → (Nat → Nat → Int64) → Prop} {mt rg : Nat → Int64} {sy pr : Nat → Nat → Int64} {S : Nat} (hS : S < 8) (h : ∀ rg' sy', (∀ i, i < 3 → rg' i = rgt mt S i) → (∀ i j, i < 3 → j < 3 → sy' i j = sysf pr S i j) → post rg' sy') : vc_XMi_layOut post mt rg sy pr (nI S) := by
  unfold vc_XMi_layOut
  refine vlp3_i (fun y rg' sy' => ∃ i, y = nI i ∧ i ≤ 3 ∧ (∀ a, a < i → rg' a = rgt mt S a) ∧ (∀ a j, a < i → j < 3 → sy' a j = sysf pr S a j)) (fun y _ _ => 100 - y.toNatClampNeg) ?_ _ _ _ ⟨0, rfl, by omega, fun a ha => absurd ha (Nat.not_lt_zero a), fun a _ ha => absurd ha (Nat.not_lt_zero a)⟩
  rintro R _ rg1 sy1 ⟨i, rfl, hi, h1, h2⟩ hR
  rw [show (3 : Int32) = nI 3 from rfl, n_le (by omega) (by omega)]
  have ci : (nI i).toNatClampNeg = i := nI_clamp (by omega)
  rw [ci]
  refine ⟨fun c => ?_, fun c => ?_⟩
  · obtain rfl : i = 3 := by omega
    exact h _ _ h1 h2
  · have ii : vp_in (nI i) 3 := in_nI (by omega) (by omega)
    have go : ∀ v : Int64, v = rgt mt S i → (vp_in (nI i) 3 ∧ (∃ n, vlp2 (fun (R_33 : Int32 → (Nat → Nat → Int64) → Prop) (y3_33 : Int32) (v_system_33 : Nat → Nat → Int64) => ((nI 3 ≤ y3_33 → R (nI i + (1 : Int32)) (vp_updL rg1 i v) v_system_33) ∧ (¬ nI 3 ≤ y3_33 → vc_XMi_isIn (fun (r_2 : Int32) => (∀ J_73 : Prop, ((vp_in (nI i) 3 ∧ ((¬ nI i = y3_33 → (vp_in y3_33 3 ∧ R_33 (y3_33 + (1 : Int32)) (gsetl v_system_33 i y3_33.toNatClampNeg (0 : Int64)))) ∧ (nI i = y3_33 → (vp_in y3_33 3 ∧ R_33 (y3_33 + (1 : Int32)) (gsetl v_system_33 i y3_33.toNatClampNeg (1 : Int64)))))) → J_73) → ((r_2 = 0 → J_73) ∧ (¬ r_2 = 0 → vc_XMi_isIn (fun (r_4 : Int32) => ((r_4 = 0 → J_73) ∧ (¬ r_4 = 0 → (vp_in (nI i) 3 ∧ (vp_in (nI i) 3 ∧ (vp_in y3_33 3 ∧ (vp_in y3_33 3 ∧ R_33 (y3_33 + (1 : Int32)) (gsetl v_system_33 i y3_33.toNatClampNeg (pr i y3_33.toNatClampNeg))))))))) (nI S) y3_33)))) (nI S) (nI i)))) n (0 : Int32) sy1)) := by
      intro v hv
      refine ⟨ii, ?_⟩
      refine vlp2_i (fun y sy' => ∃ j, y = nI j ∧ j ≤ 3 ∧ (∀ a b, a < i → b < 3 → sy' a b = sysf pr S a b) ∧ (∀ b, b < j → sy' i b = sysf pr S i b)) (fun y _ => 100 - y.toNatClampNeg) ?_ _ _ ⟨0, rfl, by omega, h2, fun a ha => absurd ha (Nat.not_lt_zero a)⟩
      rintro R2 _ sy2 ⟨j, rfl, hj, h3, h4⟩ hR2
      have cj : (nI j).toNatClampNeg = j := nI_clamp (by omega)
      rw [n_le (by omega) (by omega), cj, n_eq (by omega) (by omega)]
      refine ⟨fun c2 => ?_, fun c2 => ?_⟩
      · obtain rfl : j = 3 := by omega
        rw [n_add1]
        refine hR _ _ _ ⟨i + 1, rfl, by omega, fun a ha => ?_, fun a b ha hb => ?_⟩ (by rw [nI_clamp (by omega), ci]; omega)
        · by_cases e : a = i
          · subst e; rw [updL_at, hv]
          · rw [updL_ne e]; exact h1 a (by omega)
        · by_cases e : a = i
          · subst e; exact h4 b hb
          · exact h3 a b (by omega) hb
      · have ij : vp_in (nI j) 3 := in_nI (by omega) (by omega)
        rw [n_add1]
        have st : ∀ w : Int64, w = sysf pr S i j → R2 (nI (j + 1)) (gsetl sy2 i j w) := by
          intro w hw
          refine hR2 _ _ ⟨j + 1, rfl, by omega, fun a b ha hb => by rw [gsetl_ne (by omega)]; exact h3 a b ha hb, fun b hb => ?_⟩ (by rw [nI_clamp (by omega), cj]; omega)
          by_cases e : b = j
          · subst e; rw [gsetl_at, hw]
          · rw [gsetl_ne (by omega)]; exact h4 b (by omega)
        have no : ¬ (S.testBit i = true ∧ S.testBit j = true) → (vp_in (nI i) 3 ∧ ((¬ i = j → (vp_in (nI j) 3 ∧ R2 (nI (j + 1)) (gsetl sy2 i j (0 : Int64)))) ∧ (i = j → (vp_in (nI j) 3 ∧ R2 (nI (j + 1)) (gsetl sy2 i j (1 : Int64)))))) := by
          intro n
          refine ⟨ii, fun q => ⟨ij, st _ ?_⟩, fun q => ⟨ij, st _ ?_⟩⟩
          · unfold sysf; rw [if_neg n, if_neg q]
          · unfold sysf; rw [if_neg n, if_pos q]
        refine x_isIn hS (by omega) (fun b1 J hJ => ⟨fun q => absurd q (by decide), fun _ => x_isIn hS (by omega) (fun b2 => ⟨fun q => absurd q (by decide), fun _ => ⟨ii, ii, ij, ij, st _ ?_⟩⟩) (fun b2 => ⟨fun _ => hJ (no (fun n => b2 n.2)), fun q => absurd rfl q⟩)⟩) (fun b1 J hJ => ⟨fun _ => hJ (no (fun n => b1 n.1)), fun q => absurd rfl q⟩)
        unfold sysf; rw [if_pos ⟨b1, b2⟩]
    refine x_isIn hS (by omega) (fun b1 J hJ => ⟨fun q => absurd q (by decide), fun _ => ⟨ii, hJ _ _ ?_⟩⟩) (fun b1 J hJ => ⟨fun _ => hJ _ _ ?_, fun q => absurd rfl q⟩)
    · rw [ci]; exact go _ (by unfold rgt; rw [if_pos b1])
    · rw [ci]; exact go _ (by unfold rgt; rw [if_neg b1])
theorem x_cell {post : Int64 → Prop} {rg : Nat → Int64} {sy : Nat → Nat → Int64} {i k : Nat} {rep : Int32} (hi : i < 3) (hk : k < 3) (h : post (if nI k = rep then rg i else sy i k)) : vc_XMi_cell post rg sy (nI i) (nI k) rep := by
  unfold vc_XMi_cell
  rw [nI_clamp (by omega), nI_clamp (by omega)]
  refine ⟨fun c => ⟨in_nI hi (by omega), in_nI hk (by omega), ?_⟩, fun c => ⟨in_nI hi (by omega), ?_⟩⟩
  · rwa [if_neg c] at h
  · rwa [if_pos c] at h
theorem x_minor {post : Int64 → Prop} {rg : Nat → Int64} {sy : Nat → Nat → Int64} {i k : Nat} {rep : Int32} (hi : i < 3) (hk : k < 3) (h : post ((if nI i = rep then rg 1 else sy 1 i) * (if nI k = rep then rg 2 else sy 2 k) - (if nI k = rep then rg 1 else sy 1 k) * (if nI i = rep then rg 2 else sy 2 i))) : vc_XMi_minor post rg sy (nI i) (nI k) rep := by
  unfold vc_XMi_minor
  exact x_cell (i := 1) (by omega) hi (x_cell (i := 2) (by omega) hk (x_cell (i := 1) (by omega) hk (x_cell (i := 2) (by omega) hi h)))
theorem x_det {post : Int64 → Prop} {rg : Nat → Int64} {sy : Nat → Nat → Int64} {rep : Int32} (h : post (det3 (fun i k => if nI k = rep then rg i else sy i k))) : vc_XMi_determinant post rg sy rep := by
  unfold vc_XMi_determinant
  exact x_cell (i := 0) (k := 0) (by omega) (by omega) (x_minor (i := 1) (k := 2) (by omega) (by omega) (x_cell (i := 0) (k := 1) (by omega) (by omega) (x_minor (i := 0) (k := 2) (by omega) (by omega) (x_cell (i := 0) (k := 2) (by omega) (by omega) (x_minor (i := 0) (k := 1) (by omega) (by omega) h)))))
/-- the sums as they stand: within their bounds, and symmetric -/
def sums (A : Nat → Nat → Int) (B : Nat → Int) : Prop := symm3 A ∧ (∀ i j, i < 3 → j < 3 → 0 ≤ A i j ∧ A i j ≤ 9600) ∧ (∀ i, i < 3 → 0 ≤ B i ∧ B i ≤ 240000)
theorem cC_bd {A : Nat → Nat → Int} {B : Nat → Int} (hs : sums A B) {S r i k : Nat} (hi : i < 3) (hk : k < 3) : (k ≠ r → -9600 ≤ cC A B S r i k ∧ cC A B S r i k ≤ 9600) ∧ -240000 ≤ cC A B S r i k ∧ cC A B S r i k ≤ 240000 := by
  unfold cC
  have h1 := hs.2.1 i k hi hk
  have h2 := hs.2.2 i hi
  by_cases c : k = r
  · rw [if_pos c]
    refine ⟨fun n => absurd c n, ?_⟩
    by_cases c2 : S.testBit i = true
    · rw [if_pos c2]; omega
    · rw [if_neg c2]; omega
  · rw [if_neg c]
    by_cases c2 : S.testBit i = true ∧ S.testBit k = true
    · rw [if_pos c2]; omega
    · rw [if_neg c2]
      by_cases c3 : i = k
      · rw [if_pos c3]; omega
      · rw [if_neg c3]; omega
theorem sD_bd {A : Nat → Nat → Int} {B : Nat → Int} (hs : sums A B) {S : Nat} (hS : S < 8) : -5308416000000 ≤ sD A S ∧ sD A S ≤ 5308416000000 := by
  rw [← detC_D (B := B) hs.1 hS]
  have := det_bd (d := cC A B S 3) (X := 9600) (Y := 9600) (Z := 9600) (fun i hi => (cC_bd hs hi (by omega)).1 (by omega)) (fun i hi => (cC_bd hs hi (by omega)).1 (by omega)) (fun i hi => (cC_bd hs hi (by omega)).1 (by omega))
  omega
theorem sX_bd {A : Nat → Nat → Int} {B : Nat → Int} (hs : sums A B) {S k : Nat} (hS : S < 8) (hk : k < 3) : -132710400000000 ≤ sX A B S k ∧ sX A B S k ≤ 132710400000000 := by
  rw [← detC_X hs.1 hS hk]
  rcases lt3 hk with rfl | rfl | rfl
  · have := det_bd (d := cC A B S 0) (X := 240000) (Y := 9600) (Z := 9600) (fun i hi => (cC_bd hs hi (by omega)).2) (fun i hi => (cC_bd hs hi (by omega)).1 (by omega)) (fun i hi => (cC_bd hs hi (by omega)).1 (by omega))
    omega
  · have := det_bd (d := cC A B S 1) (X := 9600) (Y := 240000) (Z := 9600) (fun i hi => (cC_bd hs hi (by omega)).1 (by omega)) (fun i hi => (cC_bd hs hi (by omega)).2) (fun i hi => (cC_bd hs hi (by omega)).1 (by omega))
    omega
  · have := det_bd (d := cC A B S 2) (X := 9600) (Y := 9600) (Z := 240000) (fun i hi => (cC_bd hs hi (by omega)).1 (by omega)) (fun i hi => (cC_bd hs hi (by omega)).1 (by omega)) (fun i hi => (cC_bd hs hi (by omega)).2)
    omega
theorem x_dets {A : Nat → Nat → Int} {B : Nat → Int} (hs : sums A B) {mt rg : Nat → Int64} {pr sy : Nat → Nat → Int64} {S : Nat} (hS : S < 8) (hm : ∀ i, i < 3 → (mt i).toInt = B i) (hp : ∀ i j, i < 3 → j < 3 → (pr i j).toInt = A i j) (h1 : ∀ i, i < 3 → rg i = rgt mt S i) (h2 : ∀ i j, i < 3 → j < 3 → sy i j = sysf pr S i j) : (det3 (fun i k => if nI k = (-1 : Int32) then rg i else sy i k)).toInt = sD A S ∧ ∀ r, r < 3 → (det3 (fun i k => if nI k = nI r then rg i else sy i k)).toInt = sX A B S r := by
  have o0 : (0 : Int64) = Int64.ofInt 0 := rfl
  have o1 : (1 : Int64) = Int64.ofInt 1 := rfl
  have eS : ∀ i k, i < 3 → k < 3 → sysf pr S i k = Int64.ofInt (if S.testBit i = true ∧ S.testBit k = true then A i k else if i = k then 1 else 0) := fun i k hi hk => by
    unfold sysf
    by_cases c : S.testBit i = true ∧ S.testBit k = true
    · rw [if_pos c, if_pos c, o_of (hp i k hi hk)]
    · rw [if_neg c, if_neg c]
      by_cases c2 : i = k
      · rw [if_pos c2, if_pos c2, o1]
      · rw [if_neg c2, if_neg c2, o0]
  have eR : ∀ i, i < 3 → rgt mt S i = Int64.ofInt (if S.testBit i = true then B i else 0) := fun i hi => by
    unfold rgt
    by_cases c : S.testBit i = true
    · rw [if_pos c, if_pos c, o_of (hm i hi)]
    · rw [if_neg c, if_neg c, o0]
  refine ⟨?_, fun r hr => ?_⟩
  · rw [det_of (d := cC A B S 3), detC_D hs.1 hS, o_i]
    · have := sD_bd hs hS; omega
    · have := sD_bd hs hS; omega
    · intro i k hi hk
      have n1 : ¬ nI k = (-1 : Int32) := fun e => by
        rw [z_eq, nI_toInt (by omega)] at e
        have : (k : Int) = -1 := e
        omega
      rw [if_neg n1, h2 i k hi hk, eS i k hi hk]
      unfold cC; rw [if_neg (show ¬ k = 3 by omega)]
  · rw [det_of (d := cC A B S r), detC_X hs.1 hS hr, o_i]
    · have := sX_bd hs hS hr; omega
    · have := sX_bd hs hS hr; omega
    · intro i k hi hk
      have en : nI k = nI r ↔ k = r := n_eq (by omega) (by omega)
      unfold cC
      by_cases c : k = r
      · rw [if_pos (en.mpr c), if_pos c, h1 i hi, eR i hi]
      · rw [if_neg (fun q => c (en.mp q)), if_neg c, h2 i k hi hk, eS i k hi hk]
/-- a set alone has one solution, nowhere below 0 -/
def fit (A : Nat → Nat → Int) (B : Nat → Int) (S : Nat) : Prop := 0 < sD A S ∧ ∀ k, k < 3 → 0 ≤ sX A B S k
theorem x_solveAlone {post : Int32 → Int64 → (Nat → Int64) → (Nat → Nat → Int64) → (Nat → Int64) → Prop} {be : Int64} {mt rg ab : Nat → Int64} {pr sy : Nat → Nat → Int64} {A : Nat → Nat → Int} {B : Nat → Int} (hs : sums A B) {S : Nat} (hS : S < 8) (hm : ∀ i, i < 3 → (mt i).toInt = B i) (hp : ∀ i j, i < 3 → j < 3 → (pr i j).toInt = A i j) (h0 : ¬ fit A B S → ∀ d r' s' a', post 0 d r' s' a') (h1 : fit A B S → ∀ (d : Int64) r' s' (a' : Nat → Int64), d.toInt = sD A S → (∀ k, k < 3 → (a' k).toInt = sX A B S k) → post 1 d r' s' a') : vc_XMi_solveAlone post be mt rg sy pr ab (nI S) := by
  unfold vc_XMi_solveAlone
  refine x_layOut hS (fun rg' sy' e1 e2 => x_det ?_)
  obtain ⟨hD, hX⟩ := x_dets hs hS hm hp e1 e2
  rw [cmp_gt, hD]
  refine ⟨fun (c : 0 < sD A S) => ?_, fun (c : ¬ 0 < sD A S) => h0 (fun f => c f.1) _ _ _ _⟩
  refine vlp3_i (fun z y a' => ∃ k, y = nI k ∧ k ≤ 3 ∧ (∀ j, j < k → (a' j).toInt = sX A B S j) ∧ ((z = 1 ∧ ∀ j, j < k → 0 ≤ sX A B S j) ∨ (z = 0 ∧ ¬ ∀ j, j < k → 0 ≤ sX A B S j))) (fun _ y _ => 100 - y.toNatClampNeg) ?_ _ _ _ ⟨0, rfl, by omega, fun a ha => absurd ha (Nat.not_lt_zero a), Or.inl ⟨rfl, fun a ha => absurd ha (Nat.not_lt_zero a)⟩⟩
  rintro R z _ a1 ⟨k, rfl, hk, q1, q2⟩ hR
  have ck : (nI k).toNatClampNeg = k := nI_clamp (by omega)
  rw [show (3 : Int32) = nI 3 from rfl, n_le (by omega) (by omega), ck]
  refine ⟨fun c2 => ?_, fun c2 => x_det ⟨in_nI (by omega) (by omega), ?_⟩⟩
  · obtain rfl : k = 3 := by omega
    rcases q2 with ⟨rfl, q2⟩ | ⟨rfl, q2⟩
    · exact ⟨nar_1, h1 ⟨c, q2⟩ _ _ _ _ hD q1⟩
    · exact ⟨nar_0, h0 (fun f => q2 f.2) _ _ _ _⟩
  · have hXk := hX k (by omega)
    rw [n_add1, updL_at, z_lt]
    have hlt : (lg_cmp (det3 fun i k_1 => if nI k_1 = nI k then rg' i else sy' i k_1) 0).toInt < (0 : Int32).toInt ↔ sX A B S k < 0 := by
      have := cmp_ge (x := det3 fun i k_1 => if nI k_1 = nI k then rg' i else sy' i k_1) (y := 0)
      rw [z_le, hXk] at this
      have e0 : (0 : Int64).toInt = 0 := rfl
      rw [e0] at this
      omega
    rw [hlt]
    have st : ∀ z', ((z' = 1 ∧ ∀ j, j < k + 1 → 0 ≤ sX A B S j) ∨ (z' = 0 ∧ ¬ ∀ j, j < k + 1 → 0 ≤ sX A B S j)) → R z' (nI (k + 1)) (vp_updL a1 k (det3 fun i k_1 => if nI k_1 = nI k then rg' i else sy' i k_1)) := by
      intro z' hz'
      refine hR _ _ _ ⟨k + 1, rfl, by omega, fun j hj => ?_, hz'⟩ (by rw [nI_clamp (by omega), ck]; omega)
      by_cases e : j = k
      · subst e; rw [updL_at]; exact hXk
      · rw [updL_ne e]; exact q1 j (by omega)
    rcases q2 with ⟨rfl, q2⟩ | ⟨rfl, q2⟩
    · refine ⟨fun e => absurd e (by decide), fun _ => ⟨in_nI (by omega) (by omega), fun c3 => st _ (Or.inr ⟨rfl, fun n => ?_⟩), fun c3 => st _ (Or.inl ⟨rfl, fun j hj => ?_⟩)⟩⟩
      · have := n k (by omega); omega
      · by_cases e : j = k
        · subst e; omega
        · exact q2 j (by omega)
    · exact ⟨fun _ => st _ (Or.inr ⟨rfl, fun n => q2 (fun j hj => n j (by omega))⟩), fun e => absurd rfl e⟩
/-- shares within their bounds -/
def shares (D : Int) (X : Nat → Int) : Prop := 0 ≤ D ∧ D ≤ 5308416000000 ∧ ∀ k, k < 3 → 0 ≤ X k ∧ X k ≤ 132710400000000
theorem pl_bd {A : Nat → Nat → Int} {B : Nat → Int} (hs : sums A B) {D : Int} {X : Nat → Int} (hx : shares D X) {l : Nat} (hl : l < 3) : (0 ≤ D * B l ∧ D * B l ≤ 1274019840000000000) ∧ ∀ k, k < 3 → 0 ≤ X k * A l k ∧ X k * A l k ≤ 1274019840000000000 := by
  have hB := hs.2.2 l hl
  refine ⟨?_, fun k hk => ?_⟩
  · have := mul_in hx.1 hx.2.1 hB.1 hB.2; omega
  · have hA := hs.2.1 l k hl hk
    have hX := hx.2.2 k hk
    have := mul_in hX.1 hX.2 hA.1 hA.2; omega
theorem x_isLeast {post : Int32 → Prop} {be : Int64} {n : Nat} {mt ab : Nat → Int64} {pr : Nat → Nat → Int64} {A : Nat → Nat → Int} {B : Nat → Int} {D : Int} {X : Nat → Int} (hs : sums A B) (hx : shares D X) (hn : n ≤ 3) (hm : ∀ i, i < 3 → (mt i).toInt = B i) (hp : ∀ i j, i < 3 → j < 3 → (pr i j).toInt = A i j) (hbe : be.toInt = D) (hab : ∀ k, k < 3 → (ab k).toInt = X k) (h1 : (∀ l, l < n → pl A B D (X 0) (X 1) (X 2) l ≤ 0 ∧ (0 < X l → pl A B D (X 0) (X 1) (X 2) l = 0)) → post 1) (h0 : ¬ (∀ l, l < n → pl A B D (X 0) (X 1) (X 2) l ≤ 0 ∧ (0 < X l → pl A B D (X 0) (X 1) (X 2) l = 0)) → post 0) : vc_XMi_isLeast post be (nI n) mt pr ab := by
  unfold vc_XMi_isLeast
  refine vlp1_i (fun y => ∃ i, y = nI i ∧ i ≤ n ∧ (∀ l, l < i → pl A B D (X 0) (X 1) (X 2) l ≤ 0 ∧ (0 < X l → pl A B D (X 0) (X 1) (X 2) l = 0))) (fun y => 100 - y.toNatClampNeg) ?_ _ ⟨0, rfl, by omega, fun a ha => absurd ha (Nat.not_lt_zero a)⟩
  rintro R _ ⟨i, rfl, hi, q⟩ hR
  have ci : (nI i).toNatClampNeg = i := nI_clamp (by omega)
  rw [n_le (by omega) (by omega), ci]
  refine ⟨fun c => ?_, fun c => ⟨in_nI (by omega) (by omega), fun x hx2 => ?_⟩⟩
  · obtain rfl : i = n := by omega
    exact h1 q
  · have ii : vp_in (nI i) 3 := in_nI (by omega) (by omega)
    have bd := pl_bd hs hx (l := i) (by omega)
    have b0 := bd.2 0 (by omega); have b1 := bd.2 1 (by omega); have b2 := bd.2 2 (by omega)
    have hB := hs.2.2 i (by omega)
    have ex : x.toInt = -(D * B i) := by
      have en : (-(mt i)).toInt = -(B i) := by rw [Kit.i64_neg (by rw [hm i (by omega)]; omega), hm i (by omega)]
      have e2 : -(B i) * D = -(D * B i) := by grind
      rw [hx2, y_mul, en, hbe, e2] <;> rw [en, hbe, e2] <;> omega
    refine vlp2_i (fun (s : Int64) y => ∃ j, y = nI j ∧ j ≤ 3 ∧ s.toInt = -(D * B i) + (if 0 < j then X 0 * A i 0 else 0) + (if 1 < j then X 1 * A i 1 else 0) + (if 2 < j then X 2 * A i 2 else 0)) (fun _ y => 100 - y.toNatClampNeg) ?_ _ _ ⟨0, rfl, by omega, by rw [ex]; simp⟩
    rintro R2 s _ ⟨j, rfl, hj, es⟩ hR2
    have cj : (nI j).toNatClampNeg = j := nI_clamp (by omega)
    rw [show (3 : Int32) = nI 3 from rfl, n_le (by omega) (by omega), cj]
    refine ⟨fun c2 => ?_, fun c2 => ⟨ii, in_nI (by omega) (by omega), in_nI (by omega) (by omega), fun x3 hx3 => ?_⟩⟩
    · obtain rfl : j = 3 := by omega
      simp at es
      have ep : s.toInt = -(pl A B D (X 0) (X 1) (X 2) i) := by unfold pl; omega
      have hlt : lg_cmp s 0 < 0 ↔ s.toInt < 0 := by
        have := cmp_ge (x := s) (y := 0)
        rw [z_le] at this; rw [z_lt]
        have e0 : (0 : Int64).toInt = 0 := rfl
        rw [e0] at this; omega
      rw [hlt, cmp_le, cmp_le, hab i (by omega)]
      have e0 : (0 : Int64).toInt = 0 := rfl
      rw [e0]
      have nx : pl A B D (X 0) (X 1) (X 2) i ≤ 0 ∧ (0 < X i → pl A B D (X 0) (X 1) (X 2) i = 0) → R (nI i + 1) := by
        intro z
        rw [n_add1]
        refine hR _ ⟨i + 1, rfl, by omega, fun l hl => ?_⟩ (by rw [nI_clamp (by omega), ci]; omega)
        by_cases e : l = i
        · subst e; exact z
        · exact q l (by omega)
      refine ⟨fun c3 => h0 (fun z => ?_), fun c3 => ⟨fun c4 => nx ⟨by omega, fun _ => by omega⟩, fun c4 => ⟨ii, fun c5 => nx ⟨by omega, fun z => absurd z (by omega)⟩, fun c5 => h0 (fun z => ?_)⟩⟩⟩
      · have := (z i (by omega)).1; omega
      · have := (z i (by omega)).2 (by omega); omega
    · have et : (pr i j * ab j).toInt = X j * A i j := by
        have bj := bd.2 j (by omega)
        have e1 : A i j * X j = X j * A i j := Int.mul_comm _ _
        rw [y_mul, hp i j (by omega) (by omega), hab j (by omega), e1] <;> rw [hp i j (by omega) (by omega), hab j (by omega), e1] <;> omega
      rw [n_add1]
      refine hR2 _ _ ⟨j + 1, rfl, by omega, ?_⟩ (by rw [nI_clamp (by omega), cj]; omega)
      rw [hx3, y_add, et, es]
      · rcases lt3 (show j < 3 by omega) with rfl | rfl | rfl
        · simp
        · simp
        · simp
      · rw [et, es]; rcases lt3 (show j < 3 by omega) with rfl | rfl | rfl <;> simp <;> omega
      · rw [et, es]; rcases lt3 (show j < 3 by omega) with rfl | rfl | rfl <;> simp <;> omega
