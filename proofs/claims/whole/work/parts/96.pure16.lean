/-! the sets in their order -/
def stn : Nat → Nat
  | 0 => 0
  | 1 => 1
  | 2 => 2
  | 3 => 4
  | 4 => 3
  | 5 => 5
  | 6 => 6
  | _ => 7
def mny (S : Nat) : Nat := S % 2 + S / 2 % 2 + S / 4
theorem stn_f : ∀ k, k < 8 → f_sets k = nI (stn k) := by decide +kernel
theorem stn_8 : ∀ k, k < 8 → stn k < 8 := by decide
theorem stn_on : ∀ T, T < 8 → ∃ k, k < 8 ∧ stn k = T := by decide
theorem stn_lt : ∀ k, k < 8 → ∀ j, j < k → mny (stn j) < mny (stn k) ∨ (mny (stn j) = mny (stn k) ∧ stn j < stn k) := by decide
theorem mny_i : ∀ S, S < 8 → ((nI S &&& (1 : Int32)) + ((nI S >>> ((1 : Int32) &&& 31)) &&& (1 : Int32))) + (nI S >>> ((2 : Int32) &&& 31)) = nI (mny S) := by decide +kernel
theorem mny_8 : ∀ S, S < 8 → mny S < 8 := by decide
theorem pow_8 : ∀ n, n ≤ 3 → 2 ^ n ≤ 8 := by decide
/-- a set passes -/
def pOkn (A : Nat → Nat → Int) (B : Nat → Int) (n S : Nat) : Prop := fit A B S ∧ ∀ l, l < n → pl A B (sD A S) (sX A B S 0) (sX A B S 1) (sX A B S 2) l ≤ 0
theorem pOkn_iff {A : Nat → Nat → Int} {B : Nat → Int} (hs : sums A B) {n S : Nat} (hn : n ≤ 3) (hS : S < 8) : (∀ l, l < n → pl A B (sD A S) (sX A B S 0) (sX A B S 1) (sX A B S 2) l ≤ 0 ∧ (0 < sX A B S l → pl A B (sD A S) (sX A B S 0) (sX A B S 1) (sX A B S 2) l = 0)) ↔ ∀ l, l < n → pl A B (sD A S) (sX A B S 0) (sX A B S 1) (sX A B S 2) l ≤ 0 := by
  refine ⟨fun h l hl => (h l hl).1, fun h l hl => ⟨h l hl, fun hx => ?_⟩⟩
  by_cases b : S.testBit l = true
  · exact pl_0 hs.1 hS (by omega) b
  · rw [sX_0 hS (by omega) b] at hx; omega
theorem fit_shares {A : Nat → Nat → Int} {B : Nat → Int} (hs : sums A B) {S : Nat} (hS : S < 8) (hf : fit A B S) : shares (sD A S) (sX A B S) :=
  ⟨by have := hf.1; omega, (sD_bd hs hS).2, fun k hk => ⟨hf.2 k hk, (sX_bd hs hS hk).2⟩⟩
theorem x_solve {post : Int32 → Int64 → Int32 → (Nat → Int64) → (Nat → Nat → Int64) → (Nat → Int64) → Prop} {be : Int64} {n : Nat} {so : Int32} {mt rg ab : Nat → Int64} {sy pr : Nat → Nat → Int64} {A : Nat → Nat → Int} {B : Nat → Int} (hs : sums A B) (hn : n ≤ 3) (hm : ∀ i, i < 3 → (mt i).toInt = B i) (hp : ∀ i j, i < 3 → j < 3 → (pr i j).toInt = A i j) (hex : ∃ S, S < 2 ^ n ∧ pOkn A B n S) (h : ∀ k, k < 8 → stn k < 2 ^ n → pOkn A B n (stn k) → (∀ j, j < k → ¬ (stn j < 2 ^ n ∧ pOkn A B n (stn j))) → ∀ (d : Int64) r' s' (a' : Nat → Int64), d.toInt = sD A (stn k) → (∀ i, i < 3 → (a' i).toInt = sX A B (stn k) i) → post (nI (stn k)) d 1 r' s' a') : vc_XMi_solve post be (nI n) so mt rg sy pr ab := by
  unfold vc_XMi_solve
  have h8 := pow_8 n hn
  rw [n_shl n (by omega)]
  refine vlp5_i (fun y _ _ _ _ => ∃ k, y = nI k ∧ k ≤ 8 ∧ ∀ j, j < k → ¬ (stn j < 2 ^ n ∧ pOkn A B n (stn j))) (fun y _ _ _ _ => 100 - y.toNatClampNeg) ?_ _ _ _ _ _ ⟨0, rfl, by omega, fun a ha => absurd ha (Nat.not_lt_zero a)⟩
  rintro R _ d1 r1 s1 a1 ⟨k, rfl, hk, q⟩ hR
  have ck : (nI k).toNatClampNeg = k := nI_clamp (by omega)
  rw [show (8 : Int32) = nI 8 from rfl, n_le (by omega) (by omega), ck]
  refine ⟨fun c => ?_, fun c => ⟨in_nI (by omega) (by omega), fun x hx => ?_⟩⟩
  · obtain rfl : k = 8 := by omega
    obtain ⟨S, h1, h2⟩ := hex
    obtain ⟨j, hj, rfl⟩ := stn_on S (by omega)
    exact absurd ⟨h1, h2⟩ (q j hj)
  · have hk8 : k < 8 := by omega
    have hS8 := stn_8 k hk8
    rw [stn_f k hk8] at hx
    subst hx
    rw [n_le (by omega) (by omega), n_add1]
    have nx : ¬ (stn k < 2 ^ n ∧ pOkn A B n (stn k)) → ∀ d r s a, R (nI (k + 1)) d r s a := by
      intro z d r s a
      refine hR _ _ _ _ _ ⟨k + 1, rfl, by omega, fun j hj => ?_⟩ (by rw [nI_clamp (by omega), ck]; omega)
      by_cases e : j = k
      · subst e; exact z
      · exact q j (by omega)
    refine ⟨fun c2 => nx (fun z => by omega) _ _ _ _, fun c2 => ?_⟩
    refine x_solveAlone hs hS8 hm hp (fun nf d r s a => ⟨fun _ => nx (fun z => nf z.2.1) _ _ _ _, fun z => absurd rfl z⟩) (fun yf d r s a hd ha => ⟨fun z => absurd z (by decide), fun _ => ?_⟩)
    refine x_isLeast hs (fit_shares hs hS8 yf) hn hm hp hd ha (fun z => ⟨fun w => absurd w (by decide), fun _ => ?_⟩) (fun z => ⟨fun _ => nx (fun w => z ((pOkn_iff hs hn hS8).mpr w.2.2)) _ _ _ _, fun w => absurd rfl w⟩)
    exact h k hk8 (by omega) ⟨yf, (pOkn_iff hs hn hS8).mp z⟩ q d r s a hd ha
/-! the reference's solving -/
def mcell (sm : Nat → Int64) (S : Nat) (rep : Int32) (i k : Nat) : Int64 := if S.testBit i = true ∧ S.testBit k = true then (if nI k = rep then sm (4 * i + 3) else sm (4 * i + k)) else if i = k then 1 else 0
theorem m_cell {post : Int64 → Prop} {sm : Nat → Int64} {S i k : Nat} {rep : Int32} (hS : S < 8) (hi : i < 3) (hk : k < 3) (h : post (mcell sm S rep i k)) : vc_M_cell post sm (nI S) (nI i) (nI k) rep := by
  unfold vc_M_cell
  have e4 : (4 : Int32) * nI i = nI (4 * i) := n_mulc (c := 4) (by omega) (by omega) (by omega)
  rw [e4, show (3 : Int32) = nI 3 from rfl, n_add (by omega), n_add (by omega), nI_clamp (by omega), nI_clamp (by omega), n_eq (by omega) (by omega)]
  unfold mcell at h
  have no : ¬ (S.testBit i = true ∧ S.testBit k = true) → ((¬ i = k → post (0 : Int64)) ∧ (i = k → post (1 : Int64))) := by
    intro n
    rw [if_neg n] at h
    refine ⟨fun c => ?_, fun c => ?_⟩
    · rwa [if_neg c] at h
    · rwa [if_pos c] at h
  refine m_isIn (by omega) (by omega) (fun b1 J hJ => ⟨fun q => absurd q (by decide), fun _ => m_isIn (by omega) (by omega) (fun b2 => ⟨fun _ => ?_, fun q => absurd q (by decide)⟩) (fun b2 => ⟨fun q => absurd rfl q, fun _ => hJ (no (fun n => b2 n.2))⟩)⟩) (fun b1 J hJ => ⟨fun _ => hJ (no (fun n => b1 n.1)), fun q => absurd rfl q⟩)
  rw [if_pos ⟨b1, b2⟩] at h
  refine ⟨fun c => ⟨in_nI (by omega) (by omega), ?_⟩, fun c => ⟨in_nI (by omega) (by omega), ?_⟩⟩
  · rwa [if_neg c] at h
  · rwa [if_pos c] at h
def mdet (c : Nat → Nat → Int64) : Nat → Int64
  | 0 => 0
  | k + 1 => mdet c k + c 0 k * (c 1 ((k + 1) % 3) * c 2 ((k + 2) % 3) - c 1 ((k + 2) % 3) * c 2 ((k + 1) % 3))
theorem mdet_3 (c : Nat → Nat → Int64) : mdet c 3 = det3 c := by
  show ((0 + c 0 0 * (c 1 1 * c 2 2 - c 1 2 * c 2 1)) + c 0 1 * (c 1 2 * c 2 0 - c 1 0 * c 2 2)) + c 0 2 * (c 1 0 * c 2 1 - c 1 1 * c 2 0) = det3 c
  unfold det3
  grind
theorem m_det {post : Int64 → Prop} {sm : Nat → Int64} {S : Nat} {rep : Int32} (hS : S < 8) (h : post (det3 (mcell sm S rep))) : vc_M_determinant post sm (nI S) rep := by
  unfold vc_M_determinant
  rw [← mdet_3] at h
  refine vlp2_i (fun d y => ∃ k, y = nI k ∧ k ≤ 3 ∧ d = mdet (mcell sm S rep) k) (fun _ y => 100 - y.toNatClampNeg) ?_ _ _ ⟨0, rfl, by omega, rfl⟩
  rintro R _ _ ⟨k, rfl, hk, rfl⟩ hR
  rw [show (3 : Int32) = nI 3 from rfl, n_le (by omega) (by omega)]
  refine ⟨fun c => ?_, fun c => ?_⟩
  · obtain rfl : k = 3 := by omega
    exact h
  · rw [n_add1, show (2 : Int32) = nI 2 from rfl, n_add (by omega), n_rem (by omega) (by omega) (by omega), n_rem (by omega) (by omega) (by omega)]
    refine ⟨by decide, fun x6 hx6 => ⟨by decide, fun x7 hx7 => ?_⟩⟩
    subst hx6 hx7
    have l1 : (k + 1) % 3 < 3 := Nat.mod_lt _ (by omega)
    have l2 : (k + 2) % 3 < 3 := Nat.mod_lt _ (by omega)
    refine m_cell (i := 1) hS (by omega) l1 (m_cell (i := 2) hS (by omega) l2 (m_cell (i := 1) hS (by omega) l2 (m_cell (i := 2) hS (by omega) l1 (fun x8 hx8 => m_cell (i := 0) hS (by omega) (by omega) (fun x3 hx3 => ?_)))))
    subst hx8 hx3
    exact hR _ _ ⟨k + 1, rfl, by omega, rfl⟩ (by rw [nI_clamp (by omega), nI_clamp (by omega)]; omega)
/-- the reference's sums -/
def hsum (A : Nat → Nat → Int) (B : Nat → Int) (sm : Nat → Int64) : Prop := (∀ i, i < 3 → (sm (4 * i + 3)).toInt = B i) ∧ (∀ i j, i < 3 → j < 3 → (sm (4 * i + j)).toInt = A i j)
theorem m_dets {A : Nat → Nat → Int} {B : Nat → Int} (hs : sums A B) {sm : Nat → Int64} (hm : hsum A B sm) {S : Nat} (hS : S < 8) : (det3 (mcell sm S (-1))).toInt = sD A S ∧ ∀ r, r < 3 → S.testBit r = true → (det3 (mcell sm S (nI r))).toInt = sX A B S r := by
  have o0 : (0 : Int64) = Int64.ofInt 0 := rfl
  have o1 : (1 : Int64) = Int64.ofInt 1 := rfl
  refine ⟨?_, fun r hr hb => ?_⟩
  · rw [det_of (d := cM A B S 3), detM_D hs.1 hS, o_i]
    · have := sD_bd hs hS; omega
    · have := sD_bd hs hS; omega
    · intro i k hi hk
      have n1 : ¬ nI k = (-1 : Int32) := fun e => by
        rw [z_eq, nI_toInt (by omega)] at e
        have : (k : Int) = -1 := e
        omega
      unfold mcell cM
      by_cases c : S.testBit i = true ∧ S.testBit k = true
      · rw [if_pos c, if_pos c, if_neg n1, if_neg (show ¬ k = 3 by omega), o_of (hm.2 i k hi hk)]
      · rw [if_neg c, if_neg c]
        by_cases c2 : i = k
        · rw [if_pos c2, if_pos c2, o1]
        · rw [if_neg c2, if_neg c2, o0]
  · rw [det_of (d := cM A B S r), detM_X hs.1 hS hr hb, o_i]
    · have := sX_bd hs hS hr; omega
    · have := sX_bd hs hS hr; omega
    · intro i k hi hk
      have en : nI k = nI r ↔ k = r := n_eq (by omega) (by omega)
      unfold mcell cM
      by_cases c : S.testBit i = true ∧ S.testBit k = true
      · rw [if_pos c, if_pos c]
        by_cases c3 : k = r
        · rw [if_pos (en.mpr c3), if_pos c3, o_of (hm.1 i hi)]
        · rw [if_neg (fun q => c3 (en.mp q)), if_neg c3, o_of (hm.2 i k hi hk)]
      · rw [if_neg c, if_neg c]
        by_cases c2 : i = k
        · rw [if_pos c2, if_pos c2, o1]
        · rw [if_neg c2, if_neg c2, o0]
theorem m_share1 {post : Int64 → Prop} {A : Nat → Nat → Int} {B : Nat → Int} (hs : sums A B) {sm : Nat → Int64} (hm : hsum A B sm) {S k : Nat} (hS : S < 8) (hk : k < 3) (h : ∀ v : Int64, v.toInt = sX A B S k → post v) : vc_M_shareOf post sm (nI S) (nI k) := by
  unfold vc_M_shareOf
  refine m_isIn (by omega) (by omega) (fun b => ⟨fun q => absurd q (by decide), fun _ => m_det hS (h _ ((m_dets hs hm hS).2 k hk b))⟩) (fun b => ⟨fun _ => h _ ?_, fun q => absurd rfl q⟩)
  rw [sX_0 hS hk b]; rfl
theorem m_pull {post : Int64 → Prop} {A : Nat → Nat → Int} {B : Nat → Int} (hs : sums A B) {sm : Nat → Int64} (hm : hsum A B sm) {l : Nat} (hl : l < 3) {D : Int} {X : Nat → Int} (hx : shares D X) {x y z d : Int64} (e0 : x.toInt = X 0) (e1 : y.toInt = X 1) (e2 : z.toInt = X 2) (ed : d.toInt = D) (h : ∀ v : Int64, v.toInt = pl A B D (X 0) (X 1) (X 2) l → post v) : vc_M_pull post sm (nI l) x y z d := by
  unfold vc_M_pull
  have e4 : (4 : Int32) * nI l = nI (4 * l) := n_mulc (c := 4) (by omega) (by omega) (by omega)
  rw [e4, show (3 : Int32) = nI 3 from rfl, show (2 : Int32) = nI 2 from rfl, n_1, n_add (by omega), n_add (by omega), n_add (by omega), nI_clamp (by omega), nI_clamp (by omega), nI_clamp (by omega), nI_clamp (by omega)]
  refine ⟨in_nI (by omega) (by omega), in_nI (by omega) (by omega), in_nI (by omega) (by omega), in_nI (by omega) (by omega), h _ ?_⟩
  have bd := pl_bd hs hx hl
  have b0 := bd.2 0 (by omega); have b1 := bd.2 1 (by omega); have b2 := bd.2 2 (by omega)
  have mB := hm.1 l hl
  have m0 : (sm (4 * l)).toInt = A l 0 := hm.2 l 0 hl (by omega)
  have m1 := hm.2 l 1 hl (by omega)
  have m2 := hm.2 l 2 hl (by omega)
  have f0 : (d * sm (4 * l + 3)).toInt = D * B l := by rw [y_mul, ed, mB] <;> rw [ed, mB] <;> omega
  have f1 : (x * sm (4 * l)).toInt = X 0 * A l 0 := by rw [y_mul, e0, m0] <;> rw [e0, m0] <;> omega
  have f2 : (y * sm (4 * l + 1)).toInt = X 1 * A l 1 := by rw [y_mul, e1, m1] <;> rw [e1, m1] <;> omega
  have f3 : (z * sm (4 * l + 2)).toInt = X 2 * A l 2 := by rw [y_mul, e2, m2] <;> rw [e2, m2] <;> omega
  have g1 : (d * sm (4 * l + 3) - x * sm (4 * l)).toInt = D * B l - X 0 * A l 0 := by rw [y_sub, f0, f1] <;> rw [f0, f1] <;> omega
  have g2 : (d * sm (4 * l + 3) - x * sm (4 * l) - y * sm (4 * l + 1)).toInt = D * B l - X 0 * A l 0 - X 1 * A l 1 := by rw [y_sub, g1, f2] <;> rw [g1, f2] <;> omega
  unfold pl
  rw [y_sub, g2, f3] <;> rw [g2, f3] <;> omega
theorem cmp_lt0 {x : Int64} : lg_cmp x 0 < 0 ↔ x.toInt < 0 := by
  have := cmp_ge (x := x) (y := 0)
  rw [z_le] at this; rw [z_lt]
  have e0 : (0 : Int64).toInt = 0 := rfl
  rw [e0] at this; omega
theorem m_isLeast {post : Int32 → Prop} {A : Nat → Nat → Int} {B : Nat → Int} (hs : sums A B) {sm : Nat → Int64} (hm : hsum A B sm) {n S : Nat} (hn : n ≤ 3) (hS : S < 8) (h1 : pOkn A B n S → post 1) (h0 : ¬ pOkn A B n S → post 0) : vc_M_isLeast post (nI n) sm (nI S) := by
  unfold vc_M_isLeast
  have e0 : (0 : Int64).toInt = 0 := rfl
  refine m_det hS ?_
  have hD := (m_dets hs hm hS).1
  generalize det3 (mcell sm S (-1)) = d at hD ⊢
  intro J hJ
  have key : ∀ z : Int32, (z = 0 ↔ ¬ 0 < sD A S) → J z := by
    intro z hz
    refine hJ z (m_share1 (k := 0) hs hm hS (by omega) (fun x0 hx0 => m_share1 (k := 1) hs hm hS (by omega) (fun x1 hx1 => m_share1 (k := 2) hs hm hS (by omega) (fun x2 hx2 => ?_))))
    intro J2 hJ2
    have bad : ¬ fit A B S → J2 0 := by
      intro nf
      refine hJ2 _ ?_
      refine vlp2_i (fun z y => z = 0 ∧ y = nI 0) (fun _ _ => 0) ?_ _ _ ⟨rfl, rfl⟩
      rintro R _ _ ⟨rfl, rfl⟩ hR
      exact ⟨fun _ => ⟨nar_0, h0 (fun p => nf p.1)⟩, fun _ => ⟨fun _ => ⟨nar_0, h0 (fun p => nf p.1)⟩, fun q => absurd rfl q⟩⟩
    have ok : fit A B S → J2 1 := by
      intro yf
      refine hJ2 _ ?_
      have hsh := fit_shares hs hS yf
      refine vlp2_i (fun z y => ∃ l, y = nI l ∧ l ≤ n ∧ ((z = 1 ∧ ∀ j, j < l → pl A B (sD A S) (sX A B S 0) (sX A B S 1) (sX A B S 2) j ≤ 0) ∨ (z = 0 ∧ ¬ pOkn A B n S))) (fun _ y => 100 - y.toNatClampNeg) ?_ _ _ ⟨0, rfl, by omega, Or.inl ⟨rfl, fun a ha => absurd ha (Nat.not_lt_zero a)⟩⟩
      rintro R z2 _ ⟨l, rfl, hl, hz2⟩ hR
      have cl : (nI l).toNatClampNeg = l := nI_clamp (by omega)
      rw [n_le (by omega) (by omega)]
      rcases hz2 with ⟨rfl, q⟩ | ⟨rfl, q⟩
      · refine ⟨fun c => ?_, fun c => ⟨fun e => absurd e (by decide), fun _ => ?_⟩⟩
        · obtain rfl : l = n := by omega
          exact ⟨nar_1, h1 ⟨yf, q⟩⟩
        · rw [n_add1]
          have st1 : pl A B (sD A S) (sX A B S 0) (sX A B S 1) (sX A B S 2) l ≤ 0 → R 1 (nI (l + 1)) := by
            intro w
            refine hR _ _ ⟨l + 1, rfl, by omega, Or.inl ⟨rfl, fun j hj => ?_⟩⟩ (by rw [nI_clamp (by omega), cl]; omega)
            by_cases e : j = l
            · subst e; exact w
            · exact q j (by omega)
          have st0 : ¬ pl A B (sD A S) (sX A B S 0) (sX A B S 1) (sX A B S 2) l ≤ 0 → R 0 (nI (l + 1)) := by
            intro w
            exact hR _ _ ⟨l + 1, rfl, by omega, Or.inr ⟨rfl, fun p => w (p.2 l (by omega))⟩⟩ (by rw [nI_clamp (by omega), cl]; omega)
          refine m_isIn (by omega) (by omega) (fun b => ⟨fun _ => st1 ?_, fun e => absurd e (by decide)⟩) (fun b => ⟨fun e => absurd rfl e, fun _ => m_pull hs hm (by omega) hsh hx0 hx1 hx2 hD (fun v hv => ?_)⟩)
          · have := pl_0 (B := B) hs.1 hS (show l < 3 by omega) b; omega
          · rw [cmp_gt, hv, e0]
            exact ⟨fun w => st0 (by omega), fun w => st1 (by omega)⟩
      · exact ⟨fun c => ⟨nar_0, h0 q⟩, fun c => ⟨fun _ => ⟨nar_0, h0 q⟩, fun e => absurd rfl e⟩⟩
    intro J3 hJ3
    rw [hz, cmp_lt0, cmp_lt0, cmp_lt0, hx0, hx1, hx2]
    refine ⟨fun c => hJ3 (bad (fun f => c f.1)), fun c => ⟨fun c0 => hJ3 (bad (fun f => ?_)), fun c0 => ⟨fun c1 => hJ3 (bad (fun f => ?_)), fun c1 => ⟨fun c2 => hJ3 (bad (fun f => ?_)), fun c2 => ok ⟨by omega, fun k hk => ?_⟩⟩⟩⟩⟩
    · have := f.2 0 (by omega); omega
    · have := f.2 1 (by omega); omega
    · have := f.2 2 (by omega); omega
    · rcases lt3 hk with rfl | rfl | rfl <;> omega
  rw [cmp_le, hD, e0]
  exact ⟨fun c => key 0 ⟨fun _ => by omega, fun _ => rfl⟩, fun c => key 1 ⟨fun e => absurd e (by decide), fun e => absurd (by omega) e⟩⟩
