/-! Steps, on both sides. -/
theorem zrb : ∀ r, r < 16 → f_X1_rowBehind (nI r) = nI ((r + 1) % 16) ∧ ((nI r + (1 : Int32)) - (((nI r + (1 : Int32)) / (16 : Int32)) * (16 : Int32))) = nI ((r + 1) % 16) := by decide +kernel
/-- a row that doesn't jam -/
def zok (c : zCV) (a : Nat) : Prop := f_J6_bitCount_0f7a4 (c.2 1 a) ≤ c.2 0 3
theorem zok_iff {c : zCV} {r : Nat} (hr : r < 16) : f_X0_wouldJamAt c (nI r) = (0 : Int32) ↔ zok c r := by
  unfold f_X0_wouldJamAt r_X0_wouldJamAt_5 f_X1_pegsInRow zok
  rw [nI_clamp (by omega)]
  by_cases q : f_J6_bitCount_0f7a4 (c.2 1 r) ≤ c.2 0 3
  · rw [if_pos q]; exact ⟨fun _ => q, fun _ => rfl⟩
  · rw [if_neg q]; exact ⟨fun z => absurd z (by decide), fun z => absurd z q⟩
section ZSE
variable {c m : zCV} {b : Nat}
theorem zone (hE : zE c (m.2 0)) (hV : zV c b) (hb : b + 6 < 2 ^ 31) :
    (f_X6_steps m).1 = (f_X0_makeOneStep c).1 ∧ zE (f_X0_makeOneStep c).2 ((f_X6_steps m).2.2 0) ∧ zV (f_X0_makeOneStep c).2 (b + 6) ∧
    (((f_X0_makeOneStep c).1 = (0 : Int32) ∧ (f_X0_makeOneStep c).2.1 10 = c.1 10 ∧ (f_X0_makeOneStep c).2.1 5 = 1 ∧ (c.1 5 = 1 ∨ ∀ r, r < 16 → c.1 4 = nI r → ¬ zok c r) ∧ zV (f_X0_makeOneStep c).2 b) ∨
     ((f_X0_makeOneStep c).1 = (1 : Int32) ∧ (f_X0_makeOneStep c).2.1 10 = c.1 10 + (1 : Int32) ∧ c.1 5 = 0 ∧ (f_X0_makeOneStep c).2.1 5 = 0 ∧ ∃ r, r < 16 ∧ c.1 4 = nI r ∧ zok c r ∧ (f_X0_makeOneStep c).2.1 4 = nI ((r + 1) % 16) ∧ ∀ a, zok c a → zok (f_X0_makeOneStep c).2 a)) := by
  obtain ⟨r, hr, h4⟩ := vp_in_of hV.1 (by omega)
  unfold f_X0_makeOneStep f_X6_steps
  have e6 : r_X6_steps_21 m = f_X0_wouldJamAt c (nI r) := by
    unfold r_X6_steps_21
    rw [hE.sc (show 4 ≤ 4 by omega) (by omega), h4]
    exact zwould hE hV (by omega) hr
  have e5 : r_X0_makeOneStep_17 c = f_X0_wouldJamAt c (nI r) := by
    unfold r_X0_makeOneStep_17
    rw [h4]
  rw [hE.sc (show 4 ≤ 5 by omega) (by omega), e6, e5]
  rcases hV.2.1 with j | j
  · rw [j, if_pos rfl, if_neg (show ¬ (0 : Int32) = 1 by decide)]
    by_cases w : f_X0_wouldJamAt c (nI r) = (0 : Int32)
    · rw [if_pos w, if_pos w]
      have hv : m.2 0 4 = nI r := (hE.sc (by omega) (by omega)).trans h4
      have e56 : s_X0_makeOneStep_56 c = f_X0_letStampsFall_L2 (c.2 1 r) 6 0 c := by
        unfold s_X0_makeOneStep_56 f_X0_letStampsFall
        rw [zfu_eq, h4, nI_clamp (by omega)]
      obtain ⟨EF, VF, f1, f0, f3, f4⟩ := zfallsL hr hv 6 0 c m b (by omega) hb hE hV h4 (pegs := c.2 1 r) (fun q _ _ => rfl)
      have at4 : (f_X0_letStampsFall_L2 (c.2 1 r) 6 0 c).1 4 = nI r := (f1 4 (by decide) (by decide) (by decide)).trans h4
      have e63 : s_X0_makeOneStep_63 c = zS (f_X0_letStampsFall_L2 (c.2 1 r) 6 0 c) 4 (nI ((r + 1) % 16)) := by
        unfold s_X0_makeOneStep_63
        rw [e56]
        unfold f_X1_goOn s_X1_goOn_8
        rw [at4, (zrb r hr).1]
      have E1 : zE (s_X0_makeOneStep_63 c) ((s_X6_steps_92 m).2 0) := by
        rw [e63]
        unfold s_X6_steps_92
        rw [zfu_eq]
        exact zR_S EF 4 (by omega) (by omega) (by rw [hv]; exact (zrb r hr).2)
      have E2 : zE (s_X0_makeOneStep_73 c) ((s_X6_steps_103 m).2 0) := zR_S E1 10 (by omega) (by omega) (by rw [E1.sc (by omega) (by omega)])
      have E3 : zE (s_X0_makeOneStep_83 c) ((s_X6_lies_10 (s_X6_steps_103 m)).2 0) := zR_S E2 9 (by omega) (by omega) (by rw [E2.sc (by omega) (by omega)])
      have V1 : zV (s_X0_makeOneStep_63 c) (b + 6) := by
        rw [e63]
        obtain ⟨-, v2, v3, v4, v5, v6⟩ := VF
        exact ⟨by rw [zS_eq]; exact vp_in_nI (by omega) (by omega), v2, v3, v4, v5, v6⟩
      have V3 : zV (s_X0_makeOneStep_83 c) (b + 6) := zV_S (zV_S V1 _ (by decide) (by decide) (Or.inl (by decide))) _ (by decide) (by decide) (Or.inl (by decide))
      have E4 := zlies E3 V3
      have g10 : (s_X0_makeOneStep_83 c).1 10 = c.1 10 + (1 : Int32) := by
        show (s_X0_makeOneStep_63 c).1 10 + (1 : Int32) = _
        rw [e63, zS_ne _ _ (by decide), f1 10 (by decide) (by decide) (by decide)]
      have g5 : (s_X0_makeOneStep_83 c).1 5 = 0 := by
        show (s_X0_makeOneStep_63 c).1 5 = _
        rw [e63, zS_ne _ _ (by decide), f1 5 (by decide) (by decide) (by decide), j]
      have g4 : (s_X0_makeOneStep_83 c).1 4 = nI ((r + 1) % 16) := by
        show (s_X0_makeOneStep_63 c).1 4 = _
        rw [e63, zS_eq]
      have g2 : (s_X0_makeOneStep_83 c).2 = (f_X0_letStampsFall_L2 (c.2 1 r) 6 0 c).2 := by
        show (s_X0_makeOneStep_63 c).2 = _
        rw [e63, zS_2]
      have gok : ∀ a, zok c a → zok (s_X0_makeOneStep_83 c) a := by
        intro a ha
        unfold zok at ha ⊢
        rw [g2, f0]
        by_cases e : a = r
        · subst e; exact Int32.le_trans f4 ha
        · rw [f3 a e]; exact ha
      by_cases q : (s_X0_makeOneStep_83 c).1 9 < (s_X0_makeOneStep_83 c).2 0 0
      · rw [if_pos q]
        rw [if_pos q] at E4
        exact ⟨rfl, E4, V3, Or.inr ⟨rfl, g10, rfl, g5, r, hr, h4, (zok_iff hr).mp w, g4, gok⟩⟩
      · rw [if_neg q]
        rw [if_neg q] at E4
        obtain ⟨k1, k2⟩ := zfin_fr (s_X0_makeOneStep_83 c)
        refine ⟨rfl, E4, zfinV V3, Or.inr ⟨rfl, (k1 10 (by decide) (by decide) (by decide) (by decide) (by decide) (by decide)).trans g10, rfl, (k1 5 (by decide) (by decide) (by decide) (by decide) (by decide) (by decide)).trans g5, r, hr, h4, (zok_iff hr).mp w, (k1 4 (by decide) (by decide) (by decide) (by decide) (by decide) (by decide)).trans g4, fun a ha => ?_⟩⟩
        have := gok a ha
        unfold zok at this ⊢
        show f_J6_bitCount_0f7a4 ((f_X0_finishForm (s_X0_makeOneStep_83 c)).2 1 a) ≤ (f_X0_finishForm (s_X0_makeOneStep_83 c)).2 0 3
        rw [k2]; exact this
    · rw [if_neg w, if_neg w]
      have E1 : zE (s_X0_makeOneStep_25 c) ((s_X6_steps_33 m).2 0) := zR_S hE 5 (by omega) (by omega) rfl
      have E2 : zE (s_X0_makeOneStep_35 c) ((s_X6_steps_44 m).2 0) := zR_S E1 14 (by omega) (by omega) (by rw [E1.sc (by omega) (by omega)])
      have V1 : zV (s_X0_makeOneStep_35 c) b := by
        obtain ⟨v1, -, v3, v4, v5, v6⟩ := hV
        exact ⟨v1, Or.inr rfl, v3, v4, v5, v6⟩
      refine ⟨rfl, E2, V1.le (by omega), Or.inl ⟨rfl, rfl, rfl, Or.inr fun r2 hr2 e2 z => ?_, V1⟩⟩
      have : nI r2 = nI r := e2.symm.trans h4
      rw [nI_eq (by omega) (by omega)] at this
      subst this
      exact w ((zok_iff hr).mpr z)
  · rw [j, if_neg (show ¬ (1 : Int32) = 0 by decide), if_pos rfl]
    exact ⟨rfl, hE, hV.le (by omega), Or.inl ⟨rfl, rfl, j, Or.inl rfl, hV⟩⟩
end ZSE
