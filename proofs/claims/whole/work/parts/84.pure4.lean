/-! counting with nI -/
theorem n_le {a b : Nat} (ha : a < 2 ^ 31) (hb : b < 2 ^ 31) : nI a ≤ nI b ↔ a ≤ b := by
  rw [z_le, nI_toInt ha, nI_toInt hb]; omega
theorem n_lt {a b : Nat} (ha : a < 2 ^ 31) (hb : b < 2 ^ 31) : nI a < nI b ↔ a < b := by
  rw [z_lt, nI_toInt ha, nI_toInt hb]; omega
theorem n_eq {a b : Nat} (ha : a < 2 ^ 31) (hb : b < 2 ^ 31) : nI a = nI b ↔ a = b := by
  rw [z_eq, nI_toInt ha, nI_toInt hb]; omega
theorem n_add {a b : Nat} (h : a + b < 2 ^ 31) : nI a + nI b = nI (a + b) := by
  rw [z_eq, z_add, nI_toInt (by omega), nI_toInt (by omega), nI_toInt (by omega)]
  · omega
  · rw [nI_toInt (by omega), nI_toInt (by omega)]; omega
  · rw [nI_toInt (by omega), nI_toInt (by omega)]; omega
theorem n_sub {a b : Nat} (h : b ≤ a) (ha : a < 2 ^ 31) : nI a - nI b = nI (a - b) := by
  rw [z_eq, z_sub, nI_toInt (by omega), nI_toInt (by omega), nI_toInt (by omega)]
  · omega
  · rw [nI_toInt (by omega), nI_toInt (by omega)]; omega
  · rw [nI_toInt (by omega), nI_toInt (by omega)]; omega
theorem n_add1 (a : Nat) : nI a + 1 = nI (a + 1) := (nI_succ a).symm
theorem n_1 : (1 : Int32) = nI 1 := rfl
theorem n_0 : (0 : Int32) = nI 0 := rfl
/-! background -/
def lowf (N r : Nat) (f : Nat → Int32) (k : Nat) : Int32 := if r ≤ k ∧ k + r < N then (if (f (k - r) + f (k + r)) / 2 < f k then (f (k - r) + f (k + r)) / 2 else f k) else f k
theorem lowf_congr {N r : Nat} {f g : Nat → Int32} (h : ∀ k, k < N → f k = g k) {k : Nat} (hk : k < N) : lowf N r f k = lowf N r g k := by
  unfold lowf
  by_cases c : r ≤ k ∧ k + r < N
  · rw [if_pos c, if_pos c, h k hk, h (k - r) (by omega), h (k + r) c.2]
  · rw [if_neg c, if_neg c, h k hk]
theorem lowf_b {N r : Nat} {f : Nat → Int32} (h : ∀ k, k < N → 0 ≤ (f k).toInt ∧ (f k).toInt ≤ 500) {k : Nat} (hk : k < N) : 0 ≤ (lowf N r f k).toInt ∧ (lowf N r f k).toInt ≤ 500 := by
  unfold lowf
  by_cases c : r ≤ k ∧ k + r < N
  · rw [if_pos c]
    have h1 := h (k - r) (by omega); have h2 := h (k + r) c.2; have h3 := h k hk
    have e : ((f (k - r) + f (k + r)) / 2).toInt = ((f (k - r)).toInt + (f (k + r)).toInt) / 2 := by
      rw [Kit.i32_div (by intro n; exact absurd n.2 (by decide)), z_add (by omega) (by omega)]
      show Int.tdiv _ 2 = _
      rw [Int.tdiv_eq_ediv_of_nonneg (by omega)]
    by_cases c2 : (f (k - r) + f (k + r)) / 2 < f k
    · rw [if_pos c2, e]; omega
    · rw [if_neg c2]; exact h3
  · rw [if_neg c]; exact h k hk
def lowN (N : Nat) : Nat → (Nat → Int32) → Nat → Int32
  | 0, f => f
  | r + 1, f => lowf N (r + 1) (lowN N r f)
theorem lowN_congr {N : Nat} {f g : Nat → Int32} (h : ∀ k, k < N → f k = g k) : ∀ (r : Nat) {k : Nat}, k < N → lowN N r f k = lowN N r g k
  | 0, k, hk => h k hk
  | r + 1, k, hk => lowf_congr (fun j hj => lowN_congr h r hj) hk
theorem lowN_b {N : Nat} {f : Nat → Int32} (h : ∀ k, k < N → 0 ≤ (f k).toInt ∧ (f k).toInt ≤ 500) : ∀ (r : Nat) {k : Nat}, k < N → 0 ≤ (lowN N r f k).toInt ∧ (lowN N r f k).toInt ≤ 500
  | 0, k, hk => h k hk
  | r + 1, k, hk => lowf_b (fun j hj => lowN_b h r hj) hk
def sumf (f : Nat → Int32) : Nat → Int32
  | 0 => 0
  | n + 1 => sumf f n + f n
theorem sumf_congr {f g : Nat → Int32} : ∀ {n : Nat}, (∀ k, k < n → f k = g k) → sumf f n = sumf g n
  | 0, _ => rfl
  | n + 1, h => by show sumf f n + f n = sumf g n + g n; rw [sumf_congr (fun k hk => h k (by omega)), h n (by omega)]
theorem cpy_at {f g : Nat → Int32} {n k : Nat} (h : k < n) : va_cpy f g 0 0 n k = f k := by
  unfold va_cpy
  rw [if_pos ⟨Nat.zero_le _, by omega⟩]; simp
theorem x_lowerOnce {post : (Nat → Int32) → (Nat → Int32) → Prop} {N r : Nat} {g f : Nat → Int32} (hN : N ≤ 24) (hr : r ≤ 12) (h : ∀ g' f', (∀ k, k < N → g' k = lowf N r g k) → post g' f') : vc_XSp_lowerOnce post N (nI N) g f (nI r) := by
  unfold vc_XSp_lowerOnce
  have ec : (nI N).toNatClampNeg = N := nI_clamp (by omega)
  have e0 : (0 : Int32).toNatClampNeg = 0 := rfl
  rw [ec, e0]
  refine ⟨by decide, by decide, nI_pos (by omega), by omega, by omega, ?_⟩
  have hc : ∀ k, k < N → va_cpy g f 0 0 N k = g k := fun k hk => cpy_at hk
  generalize va_cpy g f 0 0 N = fm at hc ⊢
  refine vlp2_i (fun y g' => ∃ i, y = nI i ∧ r ≤ i ∧ i ≤ 24 + r ∧ ∀ k, k < N → g' k = if k < i then lowf N r g k else g k) (fun y _ => 100 - y.toNatClampNeg) ?_ _ _ ⟨r, rfl, Nat.le_refl _, by omega, fun k hk => ?_⟩
  · rintro R _ g' ⟨i, rfl, hi, hi2, hg⟩ hR
    rw [n_add (by omega), n_le (by omega) (by omega)]
    refine ⟨fun c => h _ _ (fun k hk => ?_), fun c => ?_⟩
    · rw [hg k hk]
      by_cases q : k < i
      · rw [if_pos q]
      · rw [if_neg q]; unfold lowf; rw [if_neg (by omega)]
    · rw [n_sub hi (by omega)]
      refine ⟨in_nI (by omega) (by omega), in_nI (by omega) (by omega), by decide, fun x ex => ⟨in_nI (by omega) (by omega), in_nI (by omega) (by omega), ?_⟩⟩
      rw [n_add1]
      refine hR _ _ ⟨i + 1, rfl, by omega, by omega, fun k hk => ?_⟩ (by rw [nI_clamp (by omega), nI_clamp (by omega)]; omega)
      rw [nI_clamp (by omega), nI_clamp (by omega)] at ex
      rw [nI_clamp (by omega)]
      by_cases q : k = i
      · subst q
        rw [upd_at, if_pos (show k < k + 1 by omega), ex, hc _ (by omega), hc _ (by omega), hc _ (by omega)]
        unfold lowf; rw [if_pos (show r ≤ k ∧ k + r < N by omega)]
      · rw [upd_ne q, hg k hk]
        by_cases q2 : k < i
        · rw [if_pos q2, if_pos (by omega)]
        · rw [if_neg q2, if_neg (by omega)]
  · by_cases q : k < r
    · rw [if_pos q]; unfold lowf; rw [if_neg (by omega)]
    · rw [if_neg q]
theorem x_lowerFor {post : (Nat → Int32) → (Nat → Int32) → Prop} {N r : Nat} {cnt g f : Nat → Int32} (hN : N ≤ 24) (hr : r ≤ 12) (h : ∀ g' f', (∀ k, k < N → g' k = lowN N r cnt k) → post g' f') : vc_XSp_lowerFor post N (nI N) cnt g f (nI r) := by
  unfold vc_XSp_lowerFor
  have ec : (nI N).toNatClampNeg = N := nI_clamp (by omega)
  have e0 : (0 : Int32).toNatClampNeg = 0 := rfl
  rw [ec, e0]
  refine ⟨by decide, by decide, nI_pos (by omega), by omega, by omega, ?_⟩
  refine vlp3_i (fun y g' _ => ∃ i, y = nI (i + 1) ∧ i ≤ r ∧ ∀ k, k < N → g' k = lowN N i cnt k) (fun y _ _ => 100 - y.toNatClampNeg) ?_ _ _ _ ⟨0, rfl, by omega, fun k hk => cpy_at hk⟩
  rintro R _ g' f' ⟨i, rfl, hi, hg⟩ hR
  rw [n_lt (by omega) (by omega)]
  refine ⟨fun c => h _ _ (fun k hk => ?_), fun c => x_lowerOnce hN (by omega) (fun g2 f2 h2 => ?_)⟩
  · rw [hg k hk, show i = r by omega]
  · rw [n_add1]
    refine hR _ _ _ ⟨i + 1, rfl, by omega, fun k hk => ?_⟩ (by rw [nI_clamp (by omega), nI_clamp (by omega)]; omega)
    rw [h2 k hk]
    exact lowf_congr hg hk
theorem x_groundSum {post : Int32 → Prop} {N : Nat} {g : Nat → Int32} (hN : N ≤ 24) (h : post (sumf g N)) : vc_XSp_groundSum post N (nI N) g := by
  unfold vc_XSp_groundSum
  refine vlp2_i (fun s y => ∃ i, y = nI i ∧ i ≤ N ∧ s = sumf g i) (fun _ y => 100 - y.toNatClampNeg) ?_ _ _ ⟨0, rfl, by omega, rfl⟩
  rintro R s _ ⟨i, rfl, hi, rfl⟩ hR
  rw [n_le (by omega) (by omega)]
  refine ⟨fun c => ?_, fun c => ⟨in_nI (by omega) (by omega), fun x ex => ?_⟩⟩
  · rw [show i = N by omega]; exact h
  · rw [n_add1, ex, nI_clamp (by omega)]
    exact hR _ _ ⟨i + 1, rfl, by omega, rfl⟩ (by rw [nI_clamp (by omega), nI_clamp (by omega)]; omega)
theorem m_background {post : Int32 → Int32 → (Nat → Int32) → (Nat → Int32) → Prop} {thr : Int32} {N : Nat} {cnt bk nx : Nat → Int32} {a : Int32} (hN1 : 1 ≤ N) (hN : N ≤ 24) (h1 : ¬ (0 ≤ a.toInt ∧ a.toInt ≤ 12) → post 0 1 bk nx) (h3 : ∀ r, r ≤ 12 → a = nI r → ∀ b' x', (∀ k, k < N → b' k = lowN N r cnt k) → post (sumf b' N) 0 b' x') : vc_M_background post thr (nI N) cnt bk nx a := by
  unfold vc_M_background
  refine t_within (t_goes1 (fun c => ⟨fun n => absurd rfl n, fun _ => h1 c⟩) (fun c => ⟨fun _ => ?_, fun n => absurd n (by decide)⟩))
  obtain ⟨r, hr, er, rfl⟩ := z_nat c.1
  have hr12 : r ≤ 12 := by have : (nI r).toInt ≤ 12 := c.2; omega
  have h3 := h3 r hr12 rfl
  have hch : 1 ≤ (nI N).toInt := by rw [nI_toInt (by omega)]; omega
  refine vlp2_i (fun y b => ∃ i, y = nI i ∧ i ≤ N ∧ ∀ k, k < i → b k = cnt k) (fun y _ => 100 - y.toNatClampNeg) ?_ _ _ ⟨0, rfl, by omega, fun k hk => absurd hk (by omega)⟩
  rintro R _ b ⟨i, rfl, hi, hb⟩ hR
  rw [n_le (by omega) (by omega)]
  refine ⟨fun c1 => ?_, fun c1 => ⟨in_nI (by omega) (by omega), in_nI (by omega) (by omega), ?_⟩⟩
  · obtain rfl : i = N := by omega
    clear R hR
    refine vlp3_i (fun y b' _ => ∃ j, y = nI (j + 1) ∧ j ≤ r ∧ ∀ k, k < i → b' k = lowN i j cnt k) (fun y _ _ => 100 - y.toNatClampNeg) ?_ _ _ _ ⟨0, rfl, by omega, hb⟩
    rintro R _ b1 x1 ⟨j, rfl, hj, hb1⟩ hR
    rw [n_lt (by omega) (by omega)]
    refine ⟨fun c2 => ?_, fun c2 => ?_⟩
    · obtain rfl : j = r := by omega
      refine vlp2_i (fun s y => ∃ i', y = nI i' ∧ i' ≤ i ∧ s = sumf b1 i') (fun _ y => 100 - y.toNatClampNeg) ?_ _ _ ⟨0, rfl, by omega, rfl⟩
      rintro R s _ ⟨i', rfl, hi', rfl⟩ hR
      rw [n_le (by omega) (by omega)]
      refine ⟨fun c => ?_, fun c => ⟨in_nI (by omega) (by omega), fun x ex => ?_⟩⟩
      · obtain rfl : i' = i := by omega
        exact h3 _ _ hb1
      · rw [n_add1, ex, nI_clamp (by omega)]
        exact hR _ _ ⟨i' + 1, rfl, by omega, rfl⟩ (by rw [nI_clamp (by omega), nI_clamp (by omega)]; omega)
    · refine vlp2_i (fun y x => ∃ i', y = nI i' ∧ i' ≤ i ∧ ∀ k, k < i' → x k = lowf i (j + 1) b1 k) (fun y _ => 100 - y.toNatClampNeg) ?_ _ _ ⟨0, rfl, by omega, fun k hk => absurd hk (by omega)⟩
      rintro R2 _ x2 ⟨i', rfl, hi', hx2⟩ hR2
      rw [n_le (by omega) (by omega)]
      refine ⟨fun c3 => ?_, fun c3 => t_isChannel hch ?_⟩
      · obtain rfl : i' = i := by omega
        refine vlp2_i (fun y b2 => ∃ q, y = nI q ∧ q ≤ i' ∧ ∀ k, k < q → b2 k = x2 k) (fun y _ => 100 - y.toNatClampNeg) ?_ _ _ ⟨0, rfl, by omega, fun k hk => absurd hk (by omega)⟩
        rintro R3 _ b2 ⟨q, rfl, hq, hb2⟩ hR3
        rw [n_le (by omega) (by omega)]
        refine ⟨fun c4 => ?_, fun c4 => ⟨in_nI (by omega) (by omega), in_nI (by omega) (by omega), ?_⟩⟩
        · obtain rfl : q = i' := by omega
          rw [n_add1]
          refine hR _ _ _ ⟨j + 1, rfl, by omega, fun k hk => ?_⟩ (by rw [nI_clamp (by omega), nI_clamp (by omega)]; omega)
          rw [hb2 k hk, hx2 k hk]
          exact lowf_congr hb1 hk
        · rw [n_add1, nI_clamp (by omega)]
          refine hR3 _ _ ⟨q + 1, rfl, by omega, fun k hk => ?_⟩ (by rw [nI_clamp (by omega), nI_clamp (by omega)]; omega)
          by_cases e : k = q
          · subst e; rw [upd_at]
          · rw [upd_ne e]; exact hb2 k (by omega)
      · have hin : vp_in (nI i') 24 := in_nI (by omega) (by omega)
        have step : ∀ v : Int32, v = lowf i (j + 1) b1 i' → R2 (nI i' + 1) (upd x2 (nI i').toNatClampNeg v) := by
          intro v hv
          rw [n_add1, nI_clamp (by omega)]
          refine hR2 _ _ ⟨i' + 1, rfl, by omega, fun k hk => ?_⟩ (by rw [nI_clamp (by omega), nI_clamp (by omega)]; omega)
          by_cases e : k = i'
          · subst e; rw [upd_at, hv]
          · rw [upd_ne e]; exact hx2 k (by omega)
        intro J hJ J2 hJ2
        have kJ : ∀ v : Int32, (if v < b1 i' then v else b1 i') = lowf i (j + 1) b1 i' → J v := by
          intro v hv
          refine hJ v ⟨hin, ?_⟩
          have e1 : (nI i').toNatClampNeg = i' := nI_clamp (by omega)
          refine ⟨fun c => ⟨hin, hin, step _ ?_⟩, fun c => ⟨hin, step _ ?_⟩⟩
          · rw [e1] at c ⊢
            rw [if_neg (by rw [z_lt]; rw [z_le] at c; omega)] at hv; exact hv
          · rw [e1] at c
            rw [if_pos (by rw [z_lt]; rw [z_le] at c; omega)] at hv; exact hv
        have no : ¬ (j + 1 ≤ i' ∧ i' + (j + 1) < i) → J2 := by
          intro n
          refine hJ2 ⟨hin, kJ _ ?_⟩
          rw [nI_clamp (by omega)]; unfold lowf; rw [if_neg n, if_neg (by rw [z_lt]; omega)]
        have ei : (nI i').toInt = i' := nI_toInt (by omega)
        have ej : (nI (j + 1)).toInt = (j + 1 : Nat) := nI_toInt (by omega)
        have eN : (nI i).toInt = i := nI_toInt (by omega)
        have es : (nI i' - nI (j + 1)).toInt = (i' : Int) - (j + 1 : Nat) := by rw [z_sub, ei, ej] <;> rw [ei, ej] <;> omega
        simp only [bi_0, Classical.not_not]
        refine ⟨fun c4 => no (by omega), fun c4 => t_isChannel hch ?_⟩
        rw [n_add (by omega)]
        have ea : (nI (i' + (j + 1))).toInt = (i' + (j + 1) : Nat) := nI_toInt (by omega)
        simp only [bi_0, Classical.not_not]
        refine ⟨fun c5 => no (by omega), fun c5 => ?_⟩
        rw [n_sub (by omega) (by omega)]
        refine ⟨in_nI (by omega) (by omega), in_nI (by omega) (by omega), by decide, kJ _ ?_⟩
        rw [nI_clamp (by omega), nI_clamp (by omega)]; unfold lowf; rw [if_pos (show j + 1 ≤ i' ∧ i' + (j + 1) < i by omega)]
  · rw [n_add1, nI_clamp (by omega)]
    refine hR _ _ ⟨i + 1, rfl, by omega, fun k hk => ?_⟩ (by rw [nI_clamp (by omega), nI_clamp (by omega)]; omega)
    by_cases e : k = i
    · subst e; rw [upd_at]
    · rw [upd_ne e]; exact hb k (by omega)
theorem pc_1 {R : Int32 → (Nat → Int32) → (Nat → Int32) → (Nat → Int32) → Int32 → (Nat → Nat → Int32) → (Nat → Int32) → (Nat → Nat → Int32) → Int64 → Int32 → Int32 → (Nat → Nat → Int32) → (Nat → Int64) → (Nat → Nat → Int64) → (Nat → Int64) → (Nat → Nat → Int64) → (Nat → Int64) → Int32 → Int64 → Int64 → Int64 → (Nat → Nat → Int32) → (Nat → Int32) → Int32 → (Nat → Int32) → (Nat → Int32) → Int32 → Int32 → Int32 → Int32 → Int32 → Int64 → Int32 → Int32 → Int32 → Int32 → Int32 → Int64 → Int64 → (Nat → Int32) → (Nat → Int32) → (Nat → Int32) → (Nat → Int32) → (Nat → Int32) → (Nat → Int32) → (Nat → Int32) → (Nat → Int64) → (Nat → Int64) → (Nat → Int32) → (Nat → Int32) → (Nat → Int32) → (Nat → Int64) → Prop} {xs : Nat → Int32} {L N : Nat} {ch : Int32} {cnt : Nat → Int32} {gr : Nat → Int32} {fm : Nat → Int32} {fsz : Int32} {rows : Nat → Nat → Int32} {szs : Nat → Int32} {lns : Nat → Nat → Int32} {below : Int64} {msz : Int32} {solved : Int32} {ents : Nat → Nat → Int32} {above : Nat → Int64} {prods : Nat → Nat → Int64} {mats : Nat → Int64} {sys : Nat → Nat → Int64} {rgt : Nat → Int64} {csz : Int32} {ca : Int64} {cb : Int64} {cc : Int64} {meas : Nat → Nat → Int32} {joined : Nat → Int32} {dsz : Int32} {days : Nat → Int32} {facs : Nat → Int32} {thr : Int32} {mch : Int32} {pks : Int32} {libs : Int32} {msolved : Int32} {under : Int64} {smps : Int32} {ma : Int32} {mb : Int32} {mc : Int32} {stds : Int32} {mabove : Int64} {mbelow : Int64} {mcnt : Nat → Int32} {mbk : Nat → Int32} {mnx : Nat → Int32} {mfnd : Nat → Int32} {mlns : Nat → Int32} {mlm : Nat → Int32} {ments : Nat → Int32} {sums : Nat → Int64} {mabs : Nat → Int64} {mmeas : Nat → Int32} {mdays : Nat → Int32} {mfacs : Nat → Int32} {out : Nat → Int64} {y4 : Int32} (hI : pI N ch cnt gr fm fsz rows szs lns below msz solved ents above prods mats sys rgt csz ca cb cc meas joined dsz days facs thr mch pks libs msolved under smps ma mb mc stds mabove mbelow mcnt mbk mnx mfnd mlns mlm ments sums mabs mmeas mdays mfacs out) (hR : ∀ {ch cnt gr fm fsz rows szs lns below msz solved ents above prods mats sys rgt csz ca cb cc meas joined dsz days facs thr mch pks libs msolved under smps ma mb mc stds mabove mbelow mcnt mbk mnx mfnd mlns mlm ments sums mabs mmeas mdays mfacs out}, pI N ch cnt gr fm fsz rows szs lns below msz solved ents above prods mats sys rgt csz ca cb cc meas joined dsz days facs thr mch pks libs msolved under smps ma mb mc stds mabove mbelow mcnt mbk mnx mfnd mlns mlm ments sums mabs mmeas mdays mfacs out → R ch cnt gr fm fsz rows szs lns below msz solved ents above prods mats sys rgt csz ca cb cc meas joined dsz days facs thr mch pks libs msolved under smps ma mb mc stds mabove mbelow mcnt mbk mnx mfnd mlns mlm ments sums mabs mmeas mdays mfacs out) (hy1 : vp_in (y4 + (1 : Int32)) L) (hy2 : vp_in (y4 + (2 : Int32)) L) (hy3 : vp_in (y4 + (3 : Int32)) L) : vc_L_case_1 R xs L N ch cnt gr fm fsz rows szs lns below msz solved ents above prods mats sys rgt csz ca cb cc meas joined dsz days facs thr mch pks libs msolved under smps ma mb mc stds mabove mbelow mcnt mbk mnx mfnd mlns mlm ments sums mabs mmeas mdays mfacs out y4 := by
  unfold vc_L_case_1
  obtain ⟨hSp, hPe, hLi, hMi, hSa, hSt⟩ := hI
  unfold vc_L_background vc_X_background
  generalize xs ((y4 + (1 : Int32)).toNatClampNeg) = a1
  obtain ⟨hN4, hN, rfl, rfl, hcn, hgr⟩ := id hSp
  refine ⟨hy1, t_needValue (fun (v1 : 0 ≤ a1.toInt) (v2 : a1.toInt ≤ 12) => ?_) (fun (vn : ¬ (0 ≤ a1.toInt ∧ a1.toInt ≤ 12)) => ?_)⟩
  · obtain ⟨r, hr, er, rfl⟩ := z_nat v1
    refine x_lowerFor hN (by omega) (fun g' f' hg => x_groundSum hN ⟨in_01, hy1, m_background (by omega) hN (fun n => absurd ⟨v1, v2⟩ n) (fun r2 hr2 e2 b' x' hb => fin_i rfl (fun _ => ?_) (hR ⟨?_, hPe, hLi, hMi, hSa, hSt⟩))⟩)
    all_goals
      obtain rfl : r = r2 := (n_eq (by omega) (by omega)).mp e2
      have hgb : ∀ k, k < N → g' k = b' k := fun k hk => by rw [hg k hk, hb k hk]; exact lowN_congr (fun j hj => (hcn j hj).1) _ hk
    · rw [out_0, sumf_congr hgb]
    · refine ⟨hN4, hN, rfl, rfl, hcn, fun k hk => ⟨hgb k hk, ?_⟩⟩
      rw [hg k hk]; exact lowN_b (fun j hj => (hcn j hj).2) _ hk
  · exact ⟨rfl, hy1, m_background (by omega) hN (fun n => fin_i rfl (fun n => absurd n (by decide)) (hR ⟨hSp, hPe, hLi, hMi, hSa, hSt⟩)) (fun r hr e => absurd ⟨by rw [e, nI_toInt (by omega)]; omega, by rw [e, nI_toInt (by omega)]; omega⟩ vn)⟩
