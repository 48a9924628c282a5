/-! At the start. -/
theorem zi94 : ∀ (n i : Nat) (w : zCV), i + n ≤ 6 → zFr 0 w (f_X6_init_L94 n i w) ∧ ∀ j, (f_X6_init_L94 n i w).2 0 j = if 16 + i ≤ j ∧ j < 16 + i + n then (50 : Int32) else w.2 0 j := by
  intro n
  induction n with
  | zero => intro i w _; exact ⟨zFr.rf, fun j => by rw [if_neg (by omega)]; rfl⟩
  | succ n ih =>
    intro i w hi
    unfold f_X6_init_L94
    obtain ⟨a1, a2⟩ := ih (i + 1) (s_X6_init_110 i w) (by omega)
    have e : ∀ j, (s_X6_init_110 i w).2 0 j = if j = 16 + i then (50 : Int32) else w.2 0 j := by
      intro j
      unfold s_X6_init_110
      rw [zA_eq, zix (b := 16) (s := i) (16 : Int32) rfl (by omega)]
      rfl
    refine ⟨zFr.wr.tr a1, fun j => ?_⟩
    rw [a2 j, e j]
    by_cases q : j = 16 + i
    · rw [if_neg (show ¬ (16 + (i + 1) ≤ j ∧ j < 16 + (i + 1) + n) by omega), if_pos q, if_pos (show 16 + i ≤ j ∧ j < 16 + i + (n + 1) by omega)]
    · by_cases q2 : 16 + (i + 1) ≤ j ∧ j < 16 + (i + 1) + n
      · rw [if_pos q2, if_pos (show 16 + i ≤ j ∧ j < 16 + i + (n + 1) by omega)]
      · rw [if_neg q2, if_neg q, if_neg (show ¬ (16 + i ≤ j ∧ j < 16 + i + (n + 1)) by omega)]
theorem zi120 : ∀ (n i : Nat) (w : zCV), i + n ≤ 136 → zFr 0 w (f_X6_init_L120 n i w) ∧ ∀ j, (f_X6_init_L120 n i w).2 0 j = if i ≤ j ∧ j < i + n then (-6 : Int32) else w.2 0 j := by
  intro n
  induction n with
  | zero => intro i w _; exact ⟨zFr.rf, fun j => by rw [if_neg (by omega)]; rfl⟩
  | succ n ih =>
    intro i w hi
    unfold f_X6_init_L120
    obtain ⟨a1, a2⟩ := ih (i + 1) (s_X6_init_134 i w) (by omega)
    have e : ∀ j, (s_X6_init_134 i w).2 0 j = if j = i then (-6 : Int32) else w.2 0 j := by
      intro j
      unfold s_X6_init_134
      rw [zA_eq, nI_clamp (by omega)]
      rfl
    refine ⟨zFr.wr.tr a1, fun j => ?_⟩
    rw [a2 j, e j]
    by_cases q : j = i
    · subst q
      rw [if_neg (show ¬ (j + 1 ≤ j ∧ j < j + 1 + n) by omega), if_pos rfl, if_pos (show j ≤ j ∧ j < j + (n + 1) by omega)]
    · by_cases q2 : i + 1 ≤ j ∧ j < i + 1 + n
      · rw [if_pos q2, if_pos (show i ≤ j ∧ j < i + (n + 1) by omega)]
      · rw [if_neg q2, if_neg q, if_neg (show ¬ (i ≤ j ∧ j < i + (n + 1)) by omega)]
theorem zI50_at {s : Nat} (hs : s < 6) : zI50 s = (50 : Int32) := by
  rcases (show s = 0 ∨ s = 1 ∨ s = 2 ∨ s = 3 ∨ s = 4 ∨ s = 5 by omega) with rfl | rfl | rfl | rfl | rfl | rfl <;> rfl
theorem zbit0 : ∀ p, p < 6 → zbit 0 p = 0 := by decide +kernel
theorem zR_0 : zSim_0 zR := by
  obtain ⟨a1, a2⟩ := zi94 6 0 s_X6_init_91 (by omega)
  obtain ⟨b1, b2⟩ := zi120 96 40 (f_X6_init_L94 6 0 s_X6_init_91) (by omega)
  have fr : zFr 0 z00 f_X6_init := by
    unfold f_X6_init
    rw [zfu_eq, zfu_eq]
    exact ((((zFr.wr : zFr 0 z00 s_X6_init_77).tr (zFr.wr : zFr 0 _ s_X6_init_84)).tr (zFr.wr : zFr 0 _ s_X6_init_91)).tr a1).tr b1
  have f0 : ∀ j, f_X6_init.2 0 j = if 40 ≤ j ∧ j < 136 then (-6 : Int32) else if 16 ≤ j ∧ j < 22 then (50 : Int32) else s_X6_init_91.2 0 j := by
    intro j
    unfold f_X6_init
    rw [zfu_eq, zfu_eq, b2 j, a2 j]
  have s0 : ∀ j, s_X6_init_91.2 0 j = upd (upd (upd (fun _ => (0 : Int32)) 0 (4 : Int32)) 1 (1 : Int32)) 3 (1 : Int32) j := fun j => rfl
  have V0 : zV zC0 (6 * 0) := ⟨vp_in_nI (n := 0) (by omega) (by omega), Or.inl rfl, Or.inl rfl, zlit _ 9 (by decide +kernel), fun r _ => vp_in_nI (n := 0) (by omega) (by omega), fun r p _ hp h => absurd (zbit0 p hp) h⟩
  have F0 : (zC0.1 5 = 0 ∨ zC0.1 5 = 1) ∧ (zC0.1 8 = 0 ∨ zC0.1 8 = 1) := ⟨Or.inl rfl, Or.inl rfl⟩
  refine ⟨⟨0, by omega, rfl, zE_iff.mpr ⟨fun k hk => ?_, fun k h1 h2 => ?_, fun s hs => ?_, fun s hs => ?_, fun s hs => ?_, fun s hs => ?_, fun r p hr hp => ?_⟩, V0⟩, ⟨0, 0, by omega, by omega, rfl, rfl, by rw [fr.1]; rfl, fun j hj => absurd hj (by omega)⟩, ⟨0, by omega, rfl, by rw [fr.1]; rfl, fun i hi => absurd hi (by omega)⟩, fun k _ => Or.inl ⟨rfl, by rw [fr.2 4 (by decide)]; rfl⟩, fun k _ => F0, fun k _ => F0⟩
  · rw [f0, if_neg (by omega), if_neg (by omega), s0]
    rcases (show k = 0 ∨ k = 1 ∨ k = 2 ∨ k = 3 by omega) with rfl | rfl | rfl | rfl <;> rfl
  · rw [f0, if_neg (by omega), if_neg (by omega), s0, zupd_ne _ _ (by omega), zupd_ne _ _ (by omega), zupd_ne _ _ (by omega)]
    rfl
  · rw [f0, if_neg (by omega), if_pos (by omega)]
    exact (zI50_at hs).symm
  · rw [f0, if_neg (by omega), if_neg (by omega), s0, zupd_ne _ _ (by omega), zupd_ne _ _ (by omega), zupd_ne _ _ (by omega)]
    rfl
  · rw [f0, if_neg (by omega), if_neg (by omega), s0, zupd_ne _ _ (by omega), zupd_ne _ _ (by omega), zupd_ne _ _ (by omega)]
    rfl
  · rw [f0, if_neg (by omega), if_neg (by omega), s0, zupd_ne _ _ (by omega), zupd_ne _ _ (by omega), zupd_ne _ _ (by omega)]
    rfl
  · rw [f0, if_pos (by omega)]
    exact (if_pos (show zbit (zC0.2 1 r) p = 0 from zbit0 p hp)).symm
theorem zR_ok : zSim_ok zR := by
  intro vc vh vp vs vt VH VS m h
  obtain ⟨⟨s, hs, h10, hE, hV⟩, ⟨n, k, hn, hk, e0, e1, e2, -⟩, ⟨t, ht, e3, e4, -⟩, h4, h5, h6⟩ := h
  refine ⟨hV.2.1, hV.2.2.1, by rw [e0]; exact vp_in_nI hn (by omega), hV.1, by rw [e3]; exact vp_in_nI (by omega) (by omega), hV.2.2.2.1, fun j hj => (h5 j hj).1, fun j hj => (h5 j hj).2, fun j hj => (h6 j hj).1, fun j hj => (h6 j hj).2, by rw [hE.sc (show 4 ≤ 4 by omega) (by omega)]; exact hV.1, by rw [e2]; exact vp_in_nI (by omega) (by omega), by rw [e4]; exact vp_in_nI (by omega) (by omega), by rw [hE.set (show 0 < 4 by omega)]; exact hV.2.2.2.1⟩
