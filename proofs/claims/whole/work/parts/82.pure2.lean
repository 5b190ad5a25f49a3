theorem m_line {post : Int32 → Int32 → (Nat → Int32) → (Nat → Int32) → Prop} {thr ch : Int32} {lm ln : Nat → Int32} {a b : Int32} (hc : 1 ≤ ch.toInt) (hl : ∀ e, e < 8 → 0 ≤ (lm e).toInt ∧ (lm e).toInt ≤ 3) (h1 : ¬ ((0 ≤ a.toInt ∧ a.toInt ≤ 7) ∧ (0 ≤ b.toInt ∧ b.toInt < ch.toInt)) → post 0 1 lm ln) (h2 : (0 ≤ a.toInt ∧ a.toInt ≤ 7) ∧ (0 ≤ b.toInt ∧ b.toInt < ch.toInt) → ¬ (lm a.toNatClampNeg).toInt < 3 → post 0 2 lm ln) (h3 : (0 ≤ a.toInt ∧ a.toInt ≤ 7) ∧ (0 ≤ b.toInt ∧ b.toInt < ch.toInt) → (lm a.toNatClampNeg).toInt < 3 → post ((upd lm a.toNatClampNeg (lm a.toNatClampNeg + 1)) a.toNatClampNeg) 0 (upd lm a.toNatClampNeg (lm a.toNatClampNeg + 1)) (upd ln (3 * a + lm a.toNatClampNeg).toNatClampNeg b)) : vc_M_line post thr ch lm ln a b := by
  unfold vc_M_line
  refine t_within (fun J hJ => ?_)
  refine t_and (p := 0 ≤ a.toInt ∧ a.toInt ≤ 7) (q := 0 ≤ b.toInt ∧ b.toInt < ch.toInt) (K := fun post => vc_M_isChannel post ch b) (fun post h => t_isChannel hc h) (hJ _ ?_)
  intro J3 hJ3 J4 hJ4
  by_cases c : (0 ≤ a.toInt ∧ a.toInt ≤ 7) ∧ (0 ≤ b.toInt ∧ b.toInt < ch.toInt)
  · refine ⟨fun n => absurd c (bi_0.mp n), fun n J5 hJ5 => ⟨fun n2 => absurd n2 n, fun _ => hJ5 _ _ ⟨z_in c.1.1 (by have := c.1.2; omega), ?_⟩⟩⟩
    have hl' := hl a.toNatClampNeg (by rw [z_cl]; have := c.1.1; have := c.1.2; omega)
    have k : J3 (bi ((0 ≤ a.toInt ∧ a.toInt ≤ 7) ∧ (0 ≤ b.toInt ∧ b.toInt < ch.toInt))) (bi ((lm a.toNatClampNeg).toInt < 3)) := by
      refine hJ3 _ _ (t_goes2 (fun n => absurd c n) (fun _ c2 => ⟨fun n => absurd rfl n, fun _ => h2 c c2⟩) (fun _ c2 => ⟨fun _ => ?_, fun n => absurd n (by decide)⟩))
      have hi : vp_in a 8 := z_in c.1.1 (by have := c.1.2; omega)
      have e1 : (3 * a).toInt = 3 * a.toInt := z_mulc rfl (by omega) (by omega)
      have e2 : (3 * a + lm a.toNatClampNeg).toInt = 3 * a.toInt + (lm a.toNatClampNeg).toInt := by rw [z_add, e1] <;> omega
      exact ⟨hi, z_in (by omega) (by omega), hi, hi, hi, h3 c c2⟩
    simp only [z_le]
    refine ⟨fun n => hJ4 _ ?_, fun n => ?_⟩
    · rwa [bi_f (show ¬ (lm a.toNatClampNeg).toInt < 3 from by have : (3 : Int) ≤ (lm a.toNatClampNeg).toInt := n; omega)] at k
    · rwa [bi_t (show (lm a.toNatClampNeg).toInt < 3 from by have : ¬ (3 : Int) ≤ (lm a.toNatClampNeg).toInt := n; omega)] at k
  · refine ⟨fun n => hJ4 _ ?_, fun n => absurd (bi_f c) n⟩
    have k := hJ3 (bi ((0 ≤ a.toInt ∧ a.toInt ≤ 7) ∧ (0 ≤ b.toInt ∧ b.toInt < ch.toInt))) (bi False) (t_goes2 (fun _ => ⟨fun n => absurd rfl n, fun _ => h1 c⟩) (fun n => absurd n c) (fun n => absurd n c))
    rwa [bi_f (fun (h : False) => h)] at k
theorem m_entry {post : Int32 → Int32 → (Nat → Int32) → Prop} {thr ch l : Int32} {en : Nat → Int32} {a b v : Int32} (hc : 1 ≤ ch.toInt) (hc2 : ch.toInt ≤ 24) (hl : 0 ≤ l.toInt) (hl2 : l.toInt ≤ 3) (h1 : ¬ ((0 ≤ a.toInt ∧ a.toInt < l.toInt) ∧ (0 ≤ b.toInt ∧ b.toInt < ch.toInt)) → post 0 1 en) (h2 : (0 ≤ a.toInt ∧ a.toInt < l.toInt) ∧ (0 ≤ b.toInt ∧ b.toInt < ch.toInt) → ¬ (0 ≤ v.toInt ∧ v.toInt ≤ 20) → post 0 2 en) (h3 : (0 ≤ a.toInt ∧ a.toInt < l.toInt) ∧ (0 ≤ b.toInt ∧ b.toInt < ch.toInt) → (0 ≤ v.toInt ∧ v.toInt ≤ 20) → post (en (24 * a + b).toNatClampNeg) 0 (upd en (24 * a + b).toNatClampNeg v)) : vc_M_entry post thr ch l en a b v := by
  unfold vc_M_entry
  refine t_within (fun J hJ => ?_)
  have e : (l - 1).toInt = l.toInt - 1 := z_sub (by show _ ≤ l.toInt - 1; omega) (by show l.toInt - 1 ≤ _; omega)
  rw [show bi ((0 : Int32).toInt ≤ a.toInt ∧ a.toInt ≤ (l - 1).toInt) = bi (0 ≤ a.toInt ∧ a.toInt < l.toInt) from by rw [e]; simp only [Int32.toInt_zero]; exact bi_iff (by omega)]
  refine t_and (p := 0 ≤ a.toInt ∧ a.toInt < l.toInt) (q := 0 ≤ b.toInt ∧ b.toInt < ch.toInt) (K := fun post => vc_M_isChannel post ch b) (fun post h => t_isChannel hc h) (hJ _ ?_)
  refine t_within (t_goes2 (fun c => ⟨fun n => absurd rfl n, fun _ => h1 c⟩) (fun c c2 => ⟨fun n => absurd rfl n, fun _ => h2 c c2⟩) (fun c c2 => ⟨fun _ => ?_, fun n => absurd n (by decide)⟩))
  have e1 : (24 * a).toInt = 24 * a.toInt := z_mulc rfl (by omega) (by omega)
  have e2 : (24 * a + b).toInt = 24 * a.toInt + b.toInt := by rw [z_add, e1] <;> omega
  have hi : vp_in (24 * a + b) 72 := z_in (by omega) (by omega)
  exact ⟨hi, fun x e => ⟨hi, e ▸ h3 c c2⟩⟩
theorem m_measured {post : Int32 → Int32 → (Nat → Int32) → Prop} {thr s : Int32} {me : Nat → Int32} {a b v : Int32} (hl : 0 ≤ s.toInt) (hl2 : s.toInt ≤ 12) (h1 : ¬ ((0 ≤ a.toInt ∧ a.toInt < s.toInt) ∧ (0 ≤ b.toInt ∧ b.toInt ≤ 1)) → post 0 1 me) (h2 : (0 ≤ a.toInt ∧ a.toInt < s.toInt) ∧ (0 ≤ b.toInt ∧ b.toInt ≤ 1) → ¬ (-1000 ≤ v.toInt ∧ v.toInt ≤ 1000) → post 0 2 me) (h3 : (0 ≤ a.toInt ∧ a.toInt < s.toInt) ∧ (0 ≤ b.toInt ∧ b.toInt ≤ 1) → (-1000 ≤ v.toInt ∧ v.toInt ≤ 1000) → post (me (2 * a + b).toNatClampNeg) 0 (upd me (2 * a + b).toNatClampNeg v)) : vc_M_measured post thr s me a b v := by
  unfold vc_M_measured
  refine t_isSample hl (fun J hJ => ?_)
  refine t_and (p := 0 ≤ a.toInt ∧ a.toInt < s.toInt) (q := 0 ≤ b.toInt ∧ b.toInt ≤ 1) (K := fun post => vc_M_within post b 0 1) (fun post h => t_within h) (hJ _ ?_)
  refine t_within (t_goes2 (fun c => ⟨fun n => absurd rfl n, fun _ => h1 c⟩) (fun c c2 => ⟨fun n => absurd rfl n, fun _ => h2 c c2⟩) (fun c c2 => ⟨fun _ => ?_, fun n => absurd n (by decide)⟩))
  have e1 : (2 * a).toInt = 2 * a.toInt := z_mulc rfl (by omega) (by omega)
  have e2 : (2 * a + b).toInt = 2 * a.toInt + b.toInt := by rw [z_add, e1] <;> omega
  have hi : vp_in (2 * a + b) 24 := z_in (by omega) (by omega)
  exact ⟨hi, fun x e => ⟨hi, e ▸ h3 c c2⟩⟩
theorem m_covariance {post : Int32 → Int32 → Int32 → Int32 → Prop} {thr va vb vc a b c : Int32} (h1 : ¬ ((1 ≤ a.toInt ∧ a.toInt ≤ 1000) ∧ (-1000 ≤ b.toInt ∧ b.toInt ≤ 1000) ∧ (1 ≤ c.toInt ∧ c.toInt ≤ 1000) ∧ 0 < (a * c - b * b).toInt) → post 1 va vb vc) (h3 : (1 ≤ a.toInt ∧ a.toInt ≤ 1000) ∧ (-1000 ≤ b.toInt ∧ b.toInt ≤ 1000) ∧ (1 ≤ c.toInt ∧ c.toInt ≤ 1000) ∧ 0 < (a * c - b * b).toInt → post 0 a b c) : vc_M_covariance post thr va vb vc a b c := by
  unfold vc_M_covariance
  refine t_within (fun J hJ J2 hJ2 => ?_)
  have k : ∀ z : Int32, z = bi ((1 ≤ a.toInt ∧ a.toInt ≤ 1000) ∧ (-1000 ≤ b.toInt ∧ b.toInt ≤ 1000) ∧ (1 ≤ c.toInt ∧ c.toInt ≤ 1000)) → J z := by
    intro z hz
    refine hJ z (fun J3 hJ3 J4 hJ4 => ?_)
    have k3 : J3 (bi ((1 ≤ a.toInt ∧ a.toInt ≤ 1000) ∧ (-1000 ≤ b.toInt ∧ b.toInt ≤ 1000) ∧ (1 ≤ c.toInt ∧ c.toInt ≤ 1000) ∧ 0 < (a * c - b * b).toInt)) := hJ3 _ (t_goes1 (fun c => ⟨fun _ => h1 c, fun n => absurd rfl n⟩) (fun c => ⟨fun n => absurd n (by decide), fun _ => h3 c⟩))
    subst hz
    simp only [bi_0, z_le, Int32.toInt_zero]
    refine ⟨fun n => hJ4 ?_, fun y => ⟨fun n => hJ4 ?_, fun n => ?_⟩⟩
    · rwa [bi_f (fun q => n ⟨q.1, q.2.1, q.2.2.1⟩)] at k3
    · rwa [bi_f (fun q => by have := q.2.2.2; omega)] at k3
    · rwa [bi_t (by have y' := Classical.not_not.mp y; exact ⟨y'.1, y'.2.1, y'.2.2, by omega⟩)] at k3
  simp only [bi_0, Classical.not_not]
  refine ⟨fun n => hJ2 (k 0 (bi_f (fun q => n q.1)).symm), fun y => t_within ?_⟩
  simp only [bi_0, Classical.not_not]
  refine ⟨fun n => hJ2 (k 0 (bi_f (fun q => n q.2.1)).symm), fun y2 => t_within ?_⟩
  simp only [bi_0, Classical.not_not]
  exact ⟨fun n => hJ2 (k 0 (bi_f (fun q => n q.2.2)).symm), fun y3 => k 1 (bi_t ⟨y, y2, y3⟩).symm⟩
theorem m_count {post : Int32 → Int32 → Prop} {thr v0 v1 v2 v3 v4 a : Int32} (h1 : ¬ (0 ≤ a.toInt ∧ a.toInt ≤ 4) → post 0 1) (h3 : 0 ≤ a.toInt ∧ a.toInt ≤ 4 → post (if a = 0 then v0 else if a = 1 then v1 else if a = 2 then v2 else if a = 3 then v3 else v4) 0) : vc_M_count post thr v0 v1 v2 v3 v4 a := by
  unfold vc_M_count
  refine t_within (t_goes1 (fun c => ⟨fun n => absurd rfl n, fun _ => h1 c⟩) (fun c => ⟨fun _ => ?_, fun n => absurd n (by decide)⟩))
  have h := h3 c
  refine ⟨fun n0 => ⟨fun n1 => ⟨fun n2 => ⟨fun n3 => ?_, fun n3 => ?_⟩, fun n2 => ?_⟩, fun n1 => ?_⟩, fun n0 => ?_⟩
  · rwa [if_neg n0, if_neg n1, if_neg n2, if_neg n3] at h
  · rwa [if_neg n0, if_neg n1, if_neg n2, if_pos n3] at h
  · rwa [if_neg n0, if_neg n1, if_pos n2] at h
  · rwa [if_neg n0, if_pos n1] at h
  · rwa [if_pos n0] at h
