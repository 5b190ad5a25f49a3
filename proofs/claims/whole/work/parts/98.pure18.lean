/-! the law's loop -/
theorem pure_loop {xs : Nat → Int32} {L N : Nat} (hL : L ≤ 2049) : ∀ (n t : Nat) (ch : Int32) (cnt : Nat → Int32) (gr : Nat → Int32) (fm : Nat → Int32) (fsz : Int32) (rows : Nat → Nat → Int32) (szs : Nat → Int32) (lns : Nat → Nat → Int32) (below : Int64) (msz : Int32) (solved : Int32) (ents : Nat → Nat → Int32) (above : Nat → Int64) (prods : Nat → Nat → Int64) (mats : Nat → Int64) (sys : Nat → Nat → Int64) (rgt : Nat → Int64) (csz : Int32) (ca : Int64) (cb : Int64) (cc : Int64) (meas : Nat → Nat → Int32) (joined : Nat → Int32) (dsz : Int32) (days : Nat → Int32) (facs : Nat → Int32) (thr : Int32) (mch : Int32) (pks : Int32) (libs : Int32) (msolved : Int32) (under : Int64) (smps : Int32) (ma : Int32) (mb : Int32) (mc : Int32) (stds : Int32) (mabove : Int64) (mbelow : Int64) (mcnt : Nat → Int32) (mbk : Nat → Int32) (mnx : Nat → Int32) (mfnd : Nat → Int32) (mlns : Nat → Int32) (mlm : Nat → Int32) (ments : Nat → Int32) (sums : Nat → Int64) (mabs : Nat → Int64) (mmeas : Nat → Int32) (mdays : Nat → Int32) (mfacs : Nat → Int32) (out : Nat → Int64), t ≤ 512 → 600 ≤ n + t → pI N ch cnt gr fm fsz rows szs lns below msz solved ents above prods mats sys rgt csz ca cb cc meas joined dsz days facs thr mch pks libs msolved under smps ma mb mc stds mabove mbelow mcnt mbk mnx mfnd mlns mlm ments sums mabs mmeas mdays mfacs out → vc_L_loop xs L N n (nI (1 + 4 * t)) ch cnt gr fm fsz rows szs lns below msz solved ents above prods mats sys rgt csz ca cb cc meas joined dsz days facs thr mch pks libs msolved under smps ma mb mc stds mabove mbelow mcnt mbk mnx mfnd mlns mlm ments sums mabs mmeas mdays mfacs out := by
  intro n
  induction n with
  | zero => intro t; intros; omega
  | succ n ih =>
    intro t ch cnt gr fm fsz rows szs lns below msz solved ents above prods mats sys rgt csz ca cb cc meas joined dsz days facs thr mch pks libs msolved under smps ma mb mc stds mabove mbelow mcnt mbk mnx mfnd mlns mlm ments sums mabs mmeas mdays mfacs out ht hn hI
    unfold vc_L_loop
    intro hg
    have eL : (Int32.ofNat L - (4 : Int32)).toInt = (L : Int) - 4 := by
      have e1 : (Int32.ofNat L).toInt = L := nI_toInt (n := L) (by omega)
      rw [z_sub, e1]; rfl
      · rw [e1]; show _ ≤ (L : Int) - 4; omega
      · rw [e1]; show (L : Int) - 4 ≤ _; omega
    have hle : 4 * t + 5 ≤ L := by
      rw [z_lt, eL, nI_toInt (by omega)] at hg
      omega
    have hy : ∀ j, j < 4 → vp_in (nI (1 + 4 * t + j)) L := fun j hj => in_nI (by omega) (by omega)
    have hy1 : vp_in (nI (1 + 4 * t) + (1 : Int32)) L := by rw [n_add1]; exact hy 1 (by omega)
    have hy2 : vp_in (nI (1 + 4 * t) + (2 : Int32)) L := by rw [show (2 : Int32) = nI 2 from rfl, n_add (by omega)]; exact hy 2 (by omega)
    have hy3 : vp_in (nI (1 + 4 * t) + (3 : Int32)) L := by rw [show (3 : Int32) = nI 3 from rfl, n_add (by omega)]; exact hy 3 (by omega)
    have e4 : nI (1 + 4 * t) + (4 : Int32) = nI (1 + 4 * (t + 1)) := by
      rw [show (4 : Int32) = nI 4 from rfl, n_add (by omega), show 1 + 4 * t + 4 = 1 + 4 * (t + 1) by omega]
    have nx : ∀ {ch cnt gr fm fsz rows szs lns below msz solved ents above prods mats sys rgt csz ca cb cc meas joined dsz days facs thr mch pks libs msolved under smps ma mb mc stds mabove mbelow mcnt mbk mnx mfnd mlns mlm ments sums mabs mmeas mdays mfacs out}, pI N ch cnt gr fm fsz rows szs lns below msz solved ents above prods mats sys rgt csz ca cb cc meas joined dsz days facs thr mch pks libs msolved under smps ma mb mc stds mabove mbelow mcnt mbk mnx mfnd mlns mlm ments sums mabs mmeas mdays mfacs out → vc_L_loop xs L N n (nI (1 + 4 * t) + (4 : Int32)) ch cnt gr fm fsz rows szs lns below msz solved ents above prods mats sys rgt csz ca cb cc meas joined dsz days facs thr mch pks libs msolved under smps ma mb mc stds mabove mbelow mcnt mbk mnx mfnd mlns mlm ments sums mabs mmeas mdays mfacs out := by
      intro ch cnt gr fm fsz rows szs lns below msz solved ents above prods mats sys rgt csz ca cb cc meas joined dsz days facs thr mch pks libs msolved under smps ma mb mc stds mabove mbelow mcnt mbk mnx mfnd mlns mlm ments sums mabs mmeas mdays mfacs out h
      rw [e4]
      exact ih (t + 1) ch cnt gr fm fsz rows szs lns below msz solved ents above prods mats sys rgt csz ca cb cc meas joined dsz days facs thr mch pks libs msolved under smps ma mb mc stds mabove mbelow mcnt mbk mnx mfnd mlns mlm ments sums mabs mmeas mdays mfacs out (by omega) (by omega) h
    refine ⟨hy 0 (by omega), fun _ => nx hI, fun _ => pc_0 hI nx hy1 hy2 hy3, fun _ => pc_1 hI nx hy1 hy2 hy3, fun _ => pc_2 hI nx hy1 hy2 hy3, fun _ => pc_3 hI nx hy1 hy2 hy3, fun _ => pc_4 hI nx hy1 hy2 hy3, fun _ => pc_5 hI nx hy1 hy2 hy3, fun _ => pc_6 hI nx hy1 hy2 hy3, fun _ => pc_7 hI nx hy1 hy2 hy3, fun _ => pc_8 hI nx hy1 hy2 hy3, fun _ => pc_9 hI nx hy1 hy2 hy3, fun _ => pc_10 hI nx hy1 hy2 hy3, fun _ => pc_11 hI nx hy1 hy2 hy3, fun _ => pc_12 hI nx hy1 hy2 hy3, fun _ => pc_13 hI nx hy1 hy2 hy3, fun _ => pc_14 hI nx hy1 hy2 hy3, fun _ => pc_15 hI nx hy1 hy2 hy3, fun _ => pc_16 hI nx hy1 hy2 hy3, fun _ => pc_17 hI nx hy1 hy2 hy3, fun _ => pc_18 hI nx hy1 hy2 hy3, fun _ => pc_19 hI nx hy1 hy2 hy3, fun _ => pc_20 hI nx hy1 hy2 hy3⟩
theorem pure_start {xs : Nat → Int32} {L : Nat} (hL : L ≤ 2049) : ∃ n, vc_L_loop xs L (c_k (c_0 L xs)).toNatClampNeg n (1 : Int32) (c_k (c_0 L xs)) (fun _ => 0) (fun _ => 0) (fun _ => 0) 0 (fun _ _ => 0) (fun _ => 0) (fun _ _ => 0) 1 0 0 (fun _ _ => 0) (fun _ => 0) (fun _ _ => 0) (fun _ => 0) (fun _ _ => 0) (fun _ => 0) 0 1 0 1 (fun _ _ => 0) (fun _ => 0) 0 (fun _ => 0) (fun _ => 0) 0 (f_ch (c_0 L xs)) 0 0 0 1 0 1 0 1 0 0 0 (fun _ => 0) (fun _ => 0) (fun _ => 0) (fun _ => 0) (fun _ => 0) (fun _ => 0) (fun _ => 0) (fun _ => 0) (fun _ => 0) (fun _ => 0) (fun _ => 0) (fun _ => 0) (fun _ => 0) := by
  have hb := ck_b (c_0 L xs)
  have he := ck_eq (c_0 L xs)
  obtain ⟨N, hN, eN, eN2⟩ := z_nat (show 0 ≤ (c_k (c_0 L xs)).toInt by omega)
  rw [← he]
  rw [eN2, nI_clamp hN]
  refine ⟨600, pure_loop hL 600 0 _ _ _ _ _ _ _ _ _ _ _ _ _ _ _ _ _ _ _ _ _ _ _ _ _ _ _ _ _ _ _ _ _ _ _ _ _ _ _ _ _ _ _ _ _ _ _ _ _ _ _ _ (by omega) (by omega) ⟨?_, ?_, ?_, ?_, ?_, ?_⟩⟩
  · exact ⟨by omega, by omega, rfl, rfl, fun k _ => ⟨rfl, (by show (0 : Int) ≤ 0; omega), (by show (0 : Int) ≤ 500; omega)⟩, fun k _ => ⟨rfl, (by show (0 : Int) ≤ 0; omega), (by show (0 : Int) ≤ 500; omega)⟩⟩
  · exact ⟨0, by omega, by omega, rfl, rfl, fun k _ hk => absurd hk (Nat.not_lt_zero k), fun k hk => absurd hk (Nat.not_lt_zero k)⟩
  · exact fun e _ => ⟨0, by omega, rfl, rfl, fun k hk => absurd hk (Nat.not_lt_zero k)⟩
  · exact ⟨0, by omega, rfl, rfl, fun i c _ _ => ⟨rfl, (by show (0 : Int) ≤ 0; omega), (by show (0 : Int) ≤ 20; omega)⟩, fun i c _ _ _ => rfl, Or.inl ⟨rfl, rfl⟩⟩
  · exact ⟨0, by omega, rfl, rfl, by decide, by decide, by decide, by decide, by decide, by decide, by decide, by decide, by decide, by decide, fun i k _ _ => ⟨rfl, (by show (-1000 : Int) ≤ 0; omega), (by show (0 : Int) ≤ 1000; omega)⟩⟩
  · exact ⟨0, by omega, rfl, rfl, fun k hk => absurd hk (Nat.not_lt_zero k), fun i _ hi => absurd hi (Nat.not_lt_zero i)⟩
