/-! the relation between the class's state and the reference's -/
def rSp (N : Nat) (ch : Int32) (cnt gr : Nat → Int32) (mch : Int32) (mcnt mb : Nat → Int32) : Prop :=
  4 ≤ N ∧ N ≤ 24 ∧ ch = nI N ∧ mch = nI N ∧ (∀ k, k < N → cnt k = mcnt k ∧ 0 ≤ (cnt k).toInt ∧ (cnt k).toInt ≤ 500) ∧ (∀ k, k < N → gr k = mb k ∧ 0 ≤ (gr k).toInt ∧ (gr k).toInt ≤ 500)
def rPe (N : Nat) (fsz : Int32) (rows : Nat → Nat → Int32) (pks : Int32) (mfnd : Nat → Int32) : Prop :=
  ∃ p : Nat, p ≤ 12 ∧ p ≤ N ∧ fsz = nI p ∧ pks = nI p ∧ (∀ k j, k < p → j < 5 → rows j k = mfnd (5 * k + j)) ∧ (∀ k, k < p → 0 ≤ (rows 0 k).toInt ∧ (rows 0 k).toInt < N)
def rLi (szs : Nat → Int32) (lns : Nat → Nat → Int32) (mlm mlns : Nat → Int32) : Prop :=
  ∀ e, e < 8 → ∃ s : Nat, s ≤ 3 ∧ szs e = nI s ∧ mlm e = nI s ∧ (∀ k, k < s → lns e k = mlns (3 * e + k) ∧ 0 ≤ (lns e k).toInt ∧ (lns e k).toInt < 24)
def rMi (N : Nat) (below : Int64) (msz solved : Int32) (ents : Nat → Nat → Int32) (above : Nat → Int64) (libs msolved : Int32) (under : Int64) (ments : Nat → Int32) (mabs : Nat → Int64) : Prop :=
  ∃ l : Nat, l ≤ 3 ∧ msz = nI l ∧ libs = nI l ∧ (∀ i c, i < 3 → c < N → ents i c = ments (24 * i + c) ∧ 0 ≤ (ents i c).toInt ∧ (ents i c).toInt ≤ 20) ∧ (∀ i c, l ≤ i → i < 3 → c < N → ents i c = 0) ∧ ((solved = 0 ∧ msolved = 0) ∨ (solved = 1 ∧ msolved = 1 ∧ below = under ∧ 0 < below.toInt ∧ below.toInt ≤ 5308416000000 ∧ ∀ i, i < 3 → above i = mabs i ∧ 0 ≤ (above i).toInt ∧ (above i).toInt ≤ 132710400000000))
def rSa (csz : Int32) (ca cb cc : Int64) (meas : Nat → Nat → Int32) (smps ma mb mc : Int32) (mmeas : Nat → Int32) : Prop :=
  ∃ s : Nat, s ≤ 12 ∧ csz = nI s ∧ smps = nI s ∧ ca = ma.toInt64 ∧ cb = mb.toInt64 ∧ cc = mc.toInt64 ∧ 1 ≤ ma.toInt ∧ ma.toInt ≤ 1000 ∧ -1000 ≤ mb.toInt ∧ mb.toInt ≤ 1000 ∧ 1 ≤ mc.toInt ∧ mc.toInt ≤ 1000 ∧ 0 < ma.toInt * mc.toInt - mb.toInt * mb.toInt ∧ ∀ i k, i < 12 → k < 2 → meas k i = mmeas (2 * i + k) ∧ -1000 ≤ (meas k i).toInt ∧ (meas k i).toInt ≤ 1000
def rSt (dsz : Int32) (days facs : Nat → Int32) (stds : Int32) (mdays mfacs : Nat → Int32) : Prop :=
  ∃ n : Nat, n ≤ 10 ∧ dsz = nI n ∧ stds = nI n ∧ (∀ k, k < n → days k = mdays k ∧ facs k = mfacs k ∧ 0 ≤ (days k).toInt ∧ (days k).toInt ≤ 100000 ∧ 1 ≤ (facs k).toInt ∧ (facs k).toInt ≤ 10000) ∧ (∀ i j, i < n → j < n → days i = days j → i = j)
def pI (N : Nat) (ch : Int32) (cnt : Nat → Int32) (gr : Nat → Int32) (fm : Nat → Int32) (fsz : Int32) (rows : Nat → Nat → Int32) (szs : Nat → Int32) (lns : Nat → Nat → Int32) (below : Int64) (msz : Int32) (solved : Int32) (ents : Nat → Nat → Int32) (above : Nat → Int64) (prods : Nat → Nat → Int64) (mats : Nat → Int64) (sys : Nat → Nat → Int64) (rgt : Nat → Int64) (csz : Int32) (ca : Int64) (cb : Int64) (cc : Int64) (meas : Nat → Nat → Int32) (joined : Nat → Int32) (dsz : Int32) (days : Nat → Int32) (facs : Nat → Int32) (thr : Int32) (mch : Int32) (pks : Int32) (libs : Int32) (msolved : Int32) (under : Int64) (smps : Int32) (ma : Int32) (mb : Int32) (mc : Int32) (stds : Int32) (mabove : Int64) (mbelow : Int64) (mcnt : Nat → Int32) (mbk : Nat → Int32) (mnx : Nat → Int32) (mfnd : Nat → Int32) (mlns : Nat → Int32) (mlm : Nat → Int32) (ments : Nat → Int32) (sums : Nat → Int64) (mabs : Nat → Int64) (mmeas : Nat → Int32) (mdays : Nat → Int32) (mfacs : Nat → Int32) (out : Nat → Int64) : Prop :=
  rSp N ch cnt gr mch mcnt mbk ∧ rPe N fsz rows pks mfnd ∧ rLi szs lns mlm mlns ∧ rMi N below msz solved ents above libs msolved under ments mabs ∧ rSa csz ca cb cc meas smps ma mb mc mmeas ∧ rSt dsz days facs stds mdays mfacs
theorem upd_at {f : Nat → Int32} {k : Nat} {x : Int32} : upd f k x k = x := if_pos rfl
theorem upd_ne {f : Nat → Int32} {k j : Nat} {x : Int32} (h : j ≠ k) : upd f k x j = f j := if_neg h
theorem updL_at {f : Nat → Int64} {k : Nat} {x : Int64} : vp_updL f k x k = x := if_pos rfl
theorem updL_ne {f : Nat → Int64} {k j : Nat} {x : Int64} (h : j ≠ k) : vp_updL f k x j = f j := if_neg h
theorem gseti_at {f : Nat → Nat → Int32} {a b : Nat} {x : Int32} : gseti f a b x a b = x := by
  show (if a = a then upd (f a) b x else f a) b = x
  rw [if_pos rfl]; exact upd_at
theorem gseti_ne {f : Nat → Nat → Int32} {a b i j : Nat} {x : Int32} (h : ¬ (i = a ∧ j = b)) : gseti f a b x i j = f i j := by
  show (if i = a then upd (f a) b x else f i) j = f i j
  by_cases c : i = a
  · rw [if_pos c]; subst c; exact upd_ne (fun e => h ⟨rfl, e⟩)
  · rw [if_neg c]
theorem gsetl_at {f : Nat → Nat → Int64} {a b : Nat} {x : Int64} : gsetl f a b x a b = x := by
  show (if a = a then vp_updL (f a) b x else f a) b = x
  rw [if_pos rfl]; exact updL_at
theorem gsetl_ne {f : Nat → Nat → Int64} {a b i j : Nat} {x : Int64} (h : ¬ (i = a ∧ j = b)) : gsetl f a b x i j = f i j := by
  show (if i = a then vp_updL (f a) b x else f i) j = f i j
  by_cases c : i = a
  · rw [if_pos c]; subst c; exact updL_ne (fun e => h ⟨rfl, e⟩)
  · rw [if_neg c]
/-! the reference's methods without loops -/
theorem m_told {post : Int32 → Int32 → (Nat → Int32) → Prop} {thr ch : Int32} {cnt : Nat → Int32} {a v : Int32} (hc : 1 ≤ ch.toInt) (hc2 : ch.toInt ≤ 24) (h1 : ¬ (0 ≤ a.toInt ∧ a.toInt < ch.toInt) → post 0 1 cnt) (h2 : (0 ≤ a.toInt ∧ a.toInt < ch.toInt) → ¬ (0 ≤ v.toInt ∧ v.toInt ≤ 500) → post 0 2 cnt) (h3 : (0 ≤ a.toInt ∧ a.toInt < ch.toInt) → (0 ≤ v.toInt ∧ v.toInt ≤ 500) → post (cnt a.toNatClampNeg) 0 (upd cnt a.toNatClampNeg v)) : vc_M_told post thr ch cnt a v := by
  unfold vc_M_told
  refine t_isChannel hc (t_within (t_goes2 (fun c => ⟨fun n => absurd rfl n, fun _ => h1 c⟩) (fun c c2 => ⟨fun n => absurd rfl n, fun _ => h2 c c2⟩) (fun c c2 => ⟨fun _ => ?_, fun n => absurd n (by decide)⟩)))
  have hi : vp_in a 24 := z_in c.1 (by omega)
  exact ⟨hi, fun x e => ⟨hi, e ▸ h3 c c2⟩⟩
theorem m_lowered {post : Int32 → Int32 → Prop} {thr ch : Int32} {bk : Nat → Int32} {a : Int32} (hc : 1 ≤ ch.toInt) (hc2 : ch.toInt ≤ 24) (h1 : ¬ (0 ≤ a.toInt ∧ a.toInt < ch.toInt) → post 0 1) (h3 : (0 ≤ a.toInt ∧ a.toInt < ch.toInt) → post (bk a.toNatClampNeg) 0) : vc_M_lowered post thr ch bk a := by
  unfold vc_M_lowered
  refine t_isChannel hc (t_goes1 (fun c => ⟨fun _ => h1 c, fun n => absurd rfl n⟩) (fun c => ⟨fun n => absurd n (by decide), fun _ => ⟨z_in c.1 (by omega), h3 c⟩⟩))
theorem m_library {post : Int32 → Int32 → Int32 → Prop} {thr l : Int32} (h1 : ¬ l.toInt < 3 → post 0 1 l) (h3 : l.toInt < 3 → post (l + 1 - 1) 0 (l + 1)) : vc_M_library post thr l := by
  unfold vc_M_library
  intro J hJ
  have k : J (bi (l.toInt < 3)) := hJ _ (t_goes1 (fun c => ⟨fun n => absurd rfl n, fun _ => h1 c⟩) (fun c => ⟨fun _ => h3 c, fun n => absurd n (by decide)⟩))
  by_cases c : l.toInt < 3
  · rw [bi_t c] at k
    refine ⟨fun n => ?_, fun _ => k⟩
    rw [z_le] at n
    exact absurd (show (3 : Int) ≤ l.toInt from n) (by omega)
  · rw [bi_f c] at k
    refine ⟨fun _ => k, fun n => ?_⟩
    rw [z_le] at n
    exact absurd (show ¬ (3 : Int) ≤ l.toInt from n) (by omega)
theorem m_sample {post : Int32 → Int32 → Int32 → Prop} {thr l : Int32} (h1 : ¬ l.toInt < 12 → post 0 1 l) (h3 : l.toInt < 12 → post (l + 1 - 1) 0 (l + 1)) : vc_M_sample post thr l := by
  unfold vc_M_sample
  intro J hJ
  have k : J (bi (l.toInt < 12)) := hJ _ (t_goes1 (fun c => ⟨fun n => absurd rfl n, fun _ => h1 c⟩) (fun c => ⟨fun _ => h3 c, fun n => absurd n (by decide)⟩))
  by_cases c : l.toInt < 12
  · rw [bi_t c] at k
    refine ⟨fun n => ?_, fun _ => k⟩
    rw [z_le] at n
    exact absurd (show (12 : Int) ≤ l.toInt from n) (by omega)
  · rw [bi_f c] at k
    refine ⟨fun _ => k, fun n => ?_⟩
    rw [z_le] at n
    exact absurd (show ¬ (12 : Int) ≤ l.toInt from n) (by omega)
/-- 'one and two' of two truths -/
theorem t_and {p q : Prop} [Decidable p] [Decidable q] {J : Int32 → Prop} {K : (Int32 → Prop) → Prop} (hK : ∀ post : Int32 → Prop, post (bi q) → K post) (h : J (bi (p ∧ q))) : ∀ J2 : Prop, (J 0 → J2) → ((bi p = 0 → J2) ∧ (¬ bi p = 0 → K (fun r => (r = 0 → J2) ∧ (¬ r = 0 → J 1)))) := by
  intro J2 h2
  simp only [bi_0, Classical.not_not]
  refine ⟨fun c => h2 ?_, fun c => hK _ ?_⟩
  · rwa [bi_f (fun n => c n.1)] at h
  · simp only [bi_0, Classical.not_not]
    refine ⟨fun c2 => h2 ?_, fun c2 => ?_⟩
    · rwa [bi_f (fun n => c2 n.2)] at h
    · rwa [bi_t ⟨c, c2⟩] at h
theorem m_peak {post : Int32 → Int32 → Prop} {thr p : Int32} {f : Nat → Int32} {a b : Int32} (hp : 0 ≤ p.toInt) (hp2 : p.toInt ≤ 12) (h1 : ¬ ((0 ≤ a.toInt ∧ a.toInt < p.toInt) ∧ (0 ≤ b.toInt ∧ b.toInt ≤ 4)) → post 0 1) (h3 : (0 ≤ a.toInt ∧ a.toInt < p.toInt) ∧ (0 ≤ b.toInt ∧ b.toInt ≤ 4) → post (f (5 * a + b).toNatClampNeg) 0) : vc_M_peak post thr p f a b := by
  unfold vc_M_peak
  refine t_isFound hp (fun J hJ => ?_)
  refine t_and (p := 0 ≤ a.toInt ∧ a.toInt < p.toInt) (q := 0 ≤ b.toInt ∧ b.toInt ≤ 4) (K := fun post => vc_M_within post b 0 4) (fun post h => t_within h) (hJ _ ?_)
  refine t_goes1 (fun c => ⟨fun _ => h1 c, fun n => absurd rfl n⟩) (fun c => ⟨fun n => absurd n (by decide), fun _ => ⟨?_, h3 c⟩⟩)
  have e1 : (5 * a).toInt = 5 * a.toInt := z_mulc rfl (by omega) (by omega)
  have e2 : (5 * a + b).toInt = 5 * a.toInt + b.toInt := by rw [z_add, e1] <;> omega
  exact z_in (by omega) (by omega)
