/-! What-ifs, undo, saving. -/
theorem zsame_rf (m : zCV) : zSame m m := ⟨rfl, rfl, fun _ _ => rfl, rfl, rfl, rfl, rfl⟩
theorem zsame_took (m : zCV) (p : Int32) : zSame m (f_X6_comesBack (f_X6_stepsUpTo (f_X6_keeps m) p).2) := by
  have k := zFr_keeps m
  have t := (zFr_stepsUpTo (f_X6_keeps m) p).tr (zFr_back (f_X6_stepsUpTo (f_X6_keeps m) p).2)
  have e1 : (f_X6_comesBack (f_X6_stepsUpTo (f_X6_keeps m) p).2).1 = m.1 := t.1.trans k.1
  have e2 : ∀ i, i ≠ 0 → i ≠ 1 → (f_X6_comesBack (f_X6_stepsUpTo (f_X6_keeps m) p).2).2 i = m.2 i := fun i h0 h1 => (t.2 i h0).trans (k.2 i h1)
  exact ⟨by rw [e1], by rw [e1], fun j hj => e_took m p hj, e2 2 (by decide) (by decide), e2 3 (by decide) (by decide), e2 4 (by decide) (by decide), e2 5 (by decide) (by decide)⟩
section ZOC
variable {c m : zCV} {b : Nat}
theorem zkE (hE : zE c (m.2 0)) : zE c ((f_X6_keeps m).2 0) := by
  rw [(zFr_keeps m).2 0 (by decide)]; exact hE
theorem zmk (c : zCV) (n : Nat) (hn : n < 2 ^ 31) : f_X0_makeSteps c (nI n) = f_X0_makeSteps_L2 n 0 c := by
  unfold f_X0_makeSteps
  rw [nI_clamp hn, zfu_eq]
theorem zsu (m : zCV) (n : Nat) (hn : n < 2 ^ 31) : f_X6_stepsUpTo m (nI n) = f_X6_stepsUpTo_L2 n 0 m := by
  unfold f_X6_stepsUpTo
  rw [nI_clamp hn, zfu_eq]
/-- a what-if's numbers -/
theorem zifs (hE : zE c (m.2 0)) (hV : zV c b) {n : Nat} (hn : 1 ≤ n) (hn2 : n ≤ 500) (hb : b + 6 * n < 2 ^ 31) {p1 : Int32} (h1 : 0 ≤ p1.toInt) (h2 : p1.toInt ≤ 4) :
    (f_X6_ifStepped m (nI n) p1).1 = (if p1 = (0 : Int32) then (f_X0_makeSteps c (nI n)).1 else if p1 = (1 : Int32) then (f_X0_makeSteps c (nI n)).2.1 11 - c.1 11 else if p1 = (2 : Int32) then (f_X0_makeSteps c (nI n)).2.1 12 - c.1 12 else if p1 = (3 : Int32) then (f_X0_makeSteps c (nI n)).2.1 13 - c.1 13 else f_X4_allMarks (f_X0_makeSteps c (nI n)).2 - f_X4_allMarks c) ∧ zSame m (f_X6_ifStepped m (nI n) p1).2 := by
  obtain ⟨a1, a2, d, a4, a5, a6, a3⟩ := zsteps n 0 c (f_X6_keeps m) b hb (zkE hE) hV
  rw [← zmk c n (by omega), ← zsu _ n (by omega)] at a1 a2
  have old : ∀ k, k < 136 → (f_X6_stepsUpTo (f_X6_keeps m) (nI n)).2.2 1 k = m.2 0 k := fun k hk => by
    rw [(zFr_stepsUpTo (f_X6_keeps m) (nI n)).2 1 (by decide)]; exact e_keeps m hk
  have q1 : ¬ f_X6_in (nI n).toInt64 (1 : Int64) (500 : Int64) = (0 : Int32) := (zin_i (A := 1) (B := 500) rfl rfl).mpr (by rw [nI_toInt (by omega)]; omega)
  have q2 : ¬ f_X6_in p1.toInt64 (0 : Int64) (4 : Int64) = (0 : Int32) := (zin_i (A := 0) (B := 4) rfl rfl).mpr ⟨h1, h2⟩
  have st := zsame_took m (nI n)
  unfold f_X6_ifStepped
  rw [if_neg q1, if_neg q2]
  obtain ⟨j, hj, rfl⟩ := vp_in_of (x := p1) (n := 5) (vp_in_iff.mpr (by omega)) (by omega)
  rcases (show j = 0 ∨ j = 1 ∨ j = 2 ∨ j = 3 ∨ j = 4 by omega) with rfl | rfl | rfl | rfl | rfl
  · rw [if_pos (show nI 0 = (0 : Int32) from rfl), if_pos (show nI 0 = (0 : Int32) from rfl)]; exact ⟨a1, st⟩
  · rw [if_neg (show ¬ nI 1 = (0 : Int32) by decide), if_neg (show ¬ nI 1 = (4 : Int32) by decide), if_neg (show ¬ nI 1 = (0 : Int32) by decide), if_pos (show nI 1 = (1 : Int32) by decide)]
    refine ⟨?_, st⟩
    show (f_X6_stepsUpTo (f_X6_keeps m) (nI n)).2.2 0 (((11 : Int32) + nI 1) - (1 : Int32)).toNatClampNeg - (f_X6_stepsUpTo (f_X6_keeps m) (nI n)).2.2 1 (((11 : Int32) + nI 1) - (1 : Int32)).toNatClampNeg = _
    rw [show (((11 : Int32) + nI 1) - (1 : Int32)).toNatClampNeg = 11 by decide, old 11 (by omega), a2.sc (show 4 ≤ 11 by omega) (by omega), hE.sc (show 4 ≤ 11 by omega) (by omega)]
  · rw [if_neg (show ¬ nI 2 = (0 : Int32) by decide), if_neg (show ¬ nI 2 = (4 : Int32) by decide), if_neg (show ¬ nI 2 = (0 : Int32) by decide), if_neg (show ¬ nI 2 = (1 : Int32) by decide), if_pos (show nI 2 = (2 : Int32) by decide)]
    refine ⟨?_, st⟩
    show (f_X6_stepsUpTo (f_X6_keeps m) (nI n)).2.2 0 (((11 : Int32) + nI 2) - (1 : Int32)).toNatClampNeg - (f_X6_stepsUpTo (f_X6_keeps m) (nI n)).2.2 1 (((11 : Int32) + nI 2) - (1 : Int32)).toNatClampNeg = _
    rw [show (((11 : Int32) + nI 2) - (1 : Int32)).toNatClampNeg = 12 by decide, old 12 (by omega), a2.sc (show 4 ≤ 12 by omega) (by omega), hE.sc (show 4 ≤ 12 by omega) (by omega)]
  · rw [if_neg (show ¬ nI 3 = (0 : Int32) by decide), if_neg (show ¬ nI 3 = (4 : Int32) by decide), if_neg (show ¬ nI 3 = (0 : Int32) by decide), if_neg (show ¬ nI 3 = (1 : Int32) by decide), if_neg (show ¬ nI 3 = (2 : Int32) by decide), if_pos (show nI 3 = (3 : Int32) by decide)]
    refine ⟨?_, st⟩
    show (f_X6_stepsUpTo (f_X6_keeps m) (nI n)).2.2 0 (((11 : Int32) + nI 3) - (1 : Int32)).toNatClampNeg - (f_X6_stepsUpTo (f_X6_keeps m) (nI n)).2.2 1 (((11 : Int32) + nI 3) - (1 : Int32)).toNatClampNeg = _
    rw [show (((11 : Int32) + nI 3) - (1 : Int32)).toNatClampNeg = 13 by decide, old 13 (by omega), a2.sc (show 4 ≤ 13 by omega) (by omega), hE.sc (show 4 ≤ 13 by omega) (by omega)]
  · rw [if_neg (show ¬ nI 4 = (0 : Int32) by decide), if_pos (show nI 4 = (4 : Int32) by decide), if_neg (show ¬ nI 4 = (0 : Int32) by decide), if_neg (show ¬ nI 4 = (1 : Int32) by decide), if_neg (show ¬ nI 4 = (2 : Int32) by decide), if_neg (show ¬ nI 4 = (3 : Int32) by decide)]
    refine ⟨?_, st⟩
    show f_X6_marks (f_X6_stepsUpTo (f_X6_keeps m) (nI n)).2 - f_X6_marks m = _
    rw [zmarks a2, zmarks hE]
end ZOC
theorem zR_untilJam : zSim_untilJam zR := by
  intro vc vh vp vs vt VH VS m h
  obtain ⟨s, hs, h10, hE, hV⟩ := h.1
  have K0 : zK (f_X0_copyFrom vt vc) 0 := by
    obtain ⟨r, hr, h4⟩ := vp_in_of (zV_copy vt hV).1 (by omega)
    exact ⟨r, hr, h4, fun j hj => absurd hj (by omega)⟩
  have e5 : r_X5_untilJam_18 vc vt = f_X0_makeSteps_L2 500 0 (f_X0_copyFrom vt vc) := zmk _ 500 (by omega)
  have e6 : r_X6_untilJam_8 m = f_X6_stepsUpTo_L2 501 0 (f_X6_keeps m) := zsu _ 501 (by omega)
  have st : zSame m (s_X6_untilJam_13 m) := zsame_took m (501 : Int32)
  unfold f_X5_untilJam f_X6_untilJam
  rcases zuntil 500 0 0 (f_X0_copyFrom vt vc) (f_X6_keeps m) (6 * s) (by omega) (by omega) (zkE (zE_copy vt hE)) (zV_copy vt hV) K0 with ⟨a1, a2, d, hd, a3⟩ | ⟨a1, a2⟩
  · rw [e5, e6, a1, if_neg (show ¬ (1 : Int32) = 0 by decide), a2, a3, if_pos (show nI (0 + d) ≤ (500 : Int32) from nI_le (b := 500) (by omega) (by omega))]
    exact ⟨rfl, h.same st⟩
  · rw [e5, e6, a1, if_pos rfl, a2, if_neg (show ¬ nI (0 + 500 + 1) ≤ (500 : Int32) by decide)]
    exact ⟨rfl, h.same st⟩
theorem zR_ifStepped : zSim_ifStepped zR := by
  intro vc vh vp vs vt VH VS m p0 p1 h
  obtain ⟨s, hs, h10, hE, hV⟩ := h.1
  by_cases a : 1 ≤ p0.toInt ∧ p0.toInt ≤ 500
  · by_cases a2 : 0 ≤ p1.toInt ∧ p1.toInt ≤ 4
    · obtain ⟨n, hn, rfl⟩ := vp_in_of (x := p0) (n := 501) (vp_in_iff.mpr (by omega)) (by omega)
      rw [nI_toInt (by omega)] at a
      obtain ⟨z1, z2⟩ := zifs (zE_copy vt hE) (zV_copy vt hV) (n := n) (by omega) (by omega) (by omega) a2.1 a2.2
      have hc := (zcp vt vc).1
      have hmk : f_X4_allMarks (f_X0_copyFrom vt vc) = f_X4_allMarks vc := by rw [← zmarks (zE_copy vt hE), ← zmarks hE]
      rw [hc 11 (by omega) (by omega), hc 12 (by omega) (by omega), hc 13 (by omega) (by omega), hmk] at z1
      refine ⟨?_, ?_⟩
      · rw [z1]
        unfold f_X5_ifStepped
        rw [if_neg (by rw [zlt_lit (a := 1) (by decide), nI_toInt (by omega)]; omega), if_neg (by rw [Int32.lt_iff_toInt_lt, nI_toInt (by omega), show (500 : Int32).toInt = 500 by decide]; omega), if_neg (by rw [zlt_lit (a := 0) (by decide)]; omega), if_pos (by rw [zle_lit (a := 4) (by decide)]; omega)]
        repeat' split
        all_goals rfl
      · exact h.same z2
    · have q2 : f_X6_in p1.toInt64 (0 : Int64) (4 : Int64) = (0 : Int32) := Classical.byContradiction fun z => a2 ((zin_i (A := 0) (B := 4) rfl rfl).mp z)
      have e6 : f_X6_ifStepped m p0 p1 = (-2, m) := by
        unfold f_X6_ifStepped
        rw [if_pos q2]; split <;> rfl
      have e5 : f_X5_ifStepped vc vh vp vs vt VH VS p0 p1 = (-2, vt) := by
        unfold f_X5_ifStepped
        by_cases y1 : p0 < 1
        · rw [if_pos y1]
        by_cases y2 : (500 : Int32) < p0
        · rw [if_neg y1, if_pos y2]
        by_cases y3 : p1 < 0
        · rw [if_neg y1, if_neg y2, if_pos y3]
        · rw [if_neg y1, if_neg y2, if_neg y3, if_neg]
          rw [zlt_lit (a := 0) (by decide)] at y3
          rw [zle_lit (a := 4) (by decide)]; omega
      rw [e5, e6]; exact ⟨rfl, h⟩
  · have q1 : f_X6_in p0.toInt64 (1 : Int64) (500 : Int64) = (0 : Int32) := Classical.byContradiction fun z => a ((zin_i (A := 1) (B := 500) rfl rfl).mp z)
    have e6 : f_X6_ifStepped m p0 p1 = (-2, m) := by
      unfold f_X6_ifStepped
      rw [if_pos q1]
    have e5 : f_X5_ifStepped vc vh vp vs vt VH VS p0 p1 = (-2, vt) := by
      unfold f_X5_ifStepped
      by_cases y1 : p0 < 1
      · rw [if_pos y1]
      · rw [if_neg y1, if_pos]
        rw [zlt_lit (a := 1) (by decide)] at y1
        rw [Int32.lt_iff_toInt_lt, show (500 : Int32).toInt = 500 by decide]; omega
    rw [e5, e6]; exact ⟨rfl, h⟩
theorem zR_wipe : zSim_wipe zR := by
  intro vc vh vp vs vt VH VS m h
  obtain ⟨h1, h2, ⟨t, ht, e1, e2, e3⟩, h4, h5, h6⟩ := h
  exact ⟨e1.trans e2.symm, h1, zH_congr h2 rfl rfl, ⟨0, by omega, rfl, rfl, fun i hi => absurd hi (by omega)⟩, zSl_congr h4 rfl rfl, h5, h6⟩
theorem zundoL {h : Nat} (hh : h < 6) : ∀ (n i : Nat) (w : zCV), i + n ≤ 136 → w.1 0 = nI h → zFr 0 w (f_X6_undo_L22 n i w) ∧ ∀ j, (f_X6_undo_L22 n i w).2 0 j = if i ≤ j ∧ j < i + n then w.2 2 (136 * h + j) else w.2 0 j := by
  intro n
  induction n with
  | zero => intro i w _ _; exact ⟨zFr.rf, fun j => by rw [if_neg (by omega)]; rfl⟩
  | succ n ih =>
    intro i w hi h0
    unfold f_X6_undo_L22
    obtain ⟨a1, a2⟩ := ih (i + 1) (s_X6_undo_49 i w) (by omega) h0
    have e2 : (s_X6_undo_49 i w).2 2 = w.2 2 := zA_ne _ _ (by decide)
    have e : ∀ j, (s_X6_undo_49 i w).2 0 j = if j = i then w.2 2 (136 * h + i) else w.2 0 j := by
      intro j
      unfold s_X6_undo_49
      rw [zA_eq, nI_clamp (n := i) (by omega), h0, show (136 : Int32) = nI 136 from rfl, znI_mul, nI_add, nI_clamp (by omega)]
      rfl
    refine ⟨zFr.wr.tr a1, fun j => ?_⟩
    rw [a2 j, e2, e j]
    by_cases q : j = i
    · subst q
      rw [if_neg (show ¬ (j + 1 ≤ j ∧ j < j + 1 + n) by omega), if_pos rfl, if_pos (show j ≤ j ∧ j < j + (n + 1) by omega)]
    · by_cases q2 : i + 1 ≤ j ∧ j < i + 1 + n
      · rw [if_pos q2, if_pos (show i ≤ j ∧ j < i + (n + 1) by omega)]
      · rw [if_neg q2, if_neg q, if_neg (show ¬ (i ≤ j ∧ j < i + (n + 1)) by omega)]
theorem zprev_nI : ∀ n, n < 6 → zprev (nI n) = (n + 5) % 6 := by decide +kernel
theorem zR_undo : zSim_undo zR := by
  intro vc vh vp vs vt VH VS m hR
  obtain ⟨h1, ⟨n, h, hn, hh, e0, e1, e2, hs⟩, h3, h4, h5, h6⟩ := hR
  unfold f_X5_undo f_X6_undo
  rw [e1, e2]
  by_cases q : h = 0
  · subst q
    rw [if_pos (show nI 0 = (0 : Int32) from rfl), if_pos (show nI 0 = (0 : Int32) from rfl)]
    exact ⟨rfl, h1, ⟨n, 0, hn, hh, e0, e1, e2, hs⟩, h3, h4, h5, h6⟩
  · have q2 : ¬ nI h = (0 : Int32) := nI_ne0 (by omega) (by omega)
    rw [if_neg q2, if_neg q2]
    have m1 : nI h - (1 : Int32) = nI (h - 1) := by
      obtain ⟨k, rfl⟩ : ∃ k, h = k + 1 := ⟨h - 1, by omega⟩
      rw [nI_pred]; rfl
    have w0 : (s_X6_undo_17 m).1 0 = nI (h - 1) := by
      show m.1 0 - (1 : Int32) = _
      rw [e2, m1]
    obtain ⟨f1, f2⟩ := zundoL (h := h - 1) (by omega) 136 0 (s_X6_undo_17 m) (by omega) w0
    rw [zfu_eq]
    have r5 : r_X5_undo_21 vc vh VH = (zS (zS vh 0 (nI ((n + 5) % 6))) 1 (nI (h - 1)), f_X0_copyFrom vc (VH ((n + 5) % 6))) := by
      unfold r_X5_undo_21 f_X2_takeBack
      rw [e0, zprev_nI n hn]
      by_cases z : n = 0
      · subst z
        rw [if_pos (show nI 0 = (0 : Int32) from rfl)]
        unfold s_X2_takeBack_28_2
        rw [show (s_X2_takeBack_18_2 vh).1 1 = nI h from e1, m1]
        rfl
      · rw [if_neg (nI_ne0 (by omega) (by omega))]
        have m2 : nI n - (1 : Int32) = nI ((n + 5) % 6) := by
          obtain ⟨k, rfl⟩ : ∃ k, n = k + 1 := ⟨n - 1, by omega⟩
          rw [nI_pred, show (k + 1 + 5) % 6 = k by omega]
        unfold s_X2_takeBack_28
        rw [show (s_X2_takeBack_18 vh).1 1 = nI h from e1, m1]
        unfold s_X2_takeBack_18
        rw [e0, m2]
        rfl
    rw [r5]
    have g := hs (h - 1) (by omega)
    rw [show (n + 6 - h + (h - 1)) % 6 = (n + 5) % 6 by omega] at g
    refine ⟨?_, zCk_congr (zCk_copy vc g) (fun k hk => ?_), ⟨(n + 5) % 6, h - 1, by omega, by omega, rfl, rfl, by rw [f1.1]; exact w0, fun j hj => ?_⟩, zPd_congr h3 (by rw [f1.1]; rfl) (f1.2 5 (by decide)), zSl_congr h4 (f1.2 3 (by decide)) (f1.2 4 (by decide)), h5, h6⟩
    · show nI (h - 1) = (f_X6_undo_L22 136 0 (s_X6_undo_17 m)).1 0
      rw [f1.1]; exact w0.symm
    · rw [f2 k, if_pos (show 0 ≤ k ∧ k < 0 + 136 by omega)]; rfl
    · rw [show ((n + 5) % 6 + 6 - (h - 1) + j) % 6 = (n + 6 - h + j) % 6 by omega]
      refine zCk_congr (hs j (by omega)) (fun k hk => ?_)
      rw [f1.2 2 (by decide)]; rfl
