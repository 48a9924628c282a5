/-! One step, on both sides. -/
section ZSD
variable {c m : zCV} {b : Nat}
theorem zV_of {c' : zCV} (h : zV c b) (e4 : c'.1 4 = c.1 4) (e5 : c'.1 5 = c.1 5) (e8 : c'.1 8 = c.1 8 ∨ c'.1 8 = 0 ∨ c'.1 8 = 1) (e0 : c'.2 0 = c.2 0) (e1 : c'.2 1 = c.2 1) (e2 : c'.2 2 = c.2 2) : zV c' b := by
  obtain ⟨h1, h2, h3, h4, h5, h6⟩ := h
  refine ⟨by rw [e4]; exact h1, by rw [e5]; exact h2, ?_, by rw [e0]; exact h4, by rw [e1]; exact h5, by rw [e1, e2]; exact h6⟩
  rcases e8 with e | e | e
  · rw [e]; exact h3
  · exact Or.inl e
  · exact Or.inr e
theorem zV_S (h : zV c b) {j : Nat} (x : Int32) (h4 : j ≠ 4) (h5 : j ≠ 5) (h8 : j ≠ 8 ∨ x = 0 ∨ x = 1) : zV (zS c j x) b := by
  refine zV_of h (zS_ne _ _ (Ne.symm h4)) (zS_ne _ _ (Ne.symm h5)) ?_ rfl rfl rfl
  by_cases e : j = 8
  · subst e
    rcases h8 with q | q | q
    · exact absurd rfl q
    · exact Or.inr (Or.inl ((zS_eq _ _ _).trans q))
    · exact Or.inr (Or.inr ((zS_eq _ _ _).trans q))
  · exact Or.inl (zS_ne _ _ (Ne.symm e))
theorem zV_drop (h : zV c b) {r p : Nat} (hr : r < 16) (hp : p < 6) : zV (zA c 1 (upd (c.2 1) r (zdrop (c.2 1 r) p))) b := by
  obtain ⟨h1, h2, h3, h4, h5, h6⟩ := h
  obtain ⟨x, hx, ex⟩ := zof64 (h5 r hr)
  refine ⟨h1, h2, h3, h4, fun a ha => ?_, fun a q ha hq hb => ?_⟩
  · rw [zA_eq]
    by_cases e : a = r
    · subst e; rw [zupd_eq, ex]; exact (zb_drop64 x hx p hp).1
    · rw [zupd_ne _ _ e]; exact h5 a ha
  · rw [zA_eq] at hb
    rw [zA_ne _ _ (by decide)]
    refine h6 a q ha hq ?_
    by_cases e : a = r
    · subst e
      rw [zupd_eq, ex, zb_drop x hx p hp q hq] at hb
      rw [ex]
      intro z
      apply hb
      split
      · rfl
      · exact z
    · rw [zupd_ne _ _ e] at hb; exact hb
theorem zwear (hE : zE c (m.2 0)) (hV : zV c b) (hb : b + 1 < 2 ^ 31) {r p : Nat} (hr : r < 16) (hp : p < 6) (hbit : ¬ zbit (c.2 1 r) p = (0 : Int32)) : zE (f_X1_wearPeg c (nI r) (nI p) (c.2 0 2)) ((f_X6_wears m (nI r) (nI p)).2 0) ∧ zV (f_X1_wearPeg c (nI r) (nI p) (c.2 0 2)) (b + 1) := by
  have i0 : (nI r).toNatClampNeg = r := nI_clamp (by omega)
  have x : m.2 0 (40 + 6 * r + p) = c.2 2 (6 * r + p) := by rw [hE.peg hr hp, if_neg hbit]
  have E1 : zE (s_X1_wearPeg_18 c (nI r) (nI p)) ((s_X6_wears_13 m (nI r) (nI p)).2 0) := by
    unfold s_X1_wearPeg_18 s_X6_wears_13
    rw [zA_eq, zix2 hr hp, zat_ix hr hp, x]
    exact zE_peg hE hr hp hbit _
  have k1 : (s_X1_wearPeg_18 c (nI r) (nI p)).2 1 = c.2 1 := zA_ne _ _ (by decide)
  have k0 : (s_X1_wearPeg_18 c (nI r) (nI p)).2 0 = c.2 0 := zA_ne _ _ (by decide)
  have V1 : zV (s_X1_wearPeg_18 c (nI r) (nI p)) (b + 1) := by
    obtain ⟨h1, h2, h3, h4, h5, h6⟩ := hV
    refine ⟨h1, h2, h3, by rw [k0]; exact h4, by rw [k1]; exact h5, fun a q ha hq hz => ?_⟩
    rw [k1] at hz
    unfold s_X1_wearPeg_18
    rw [zA_eq, zix2 hr hp]
    by_cases e : a = r ∧ q = p
    · obtain ⟨rfl, rfl⟩ := e
      obtain ⟨j, hj, ej⟩ := h6 a q ha hq hz
      exact ⟨j + 1, by omega, by rw [zupd_eq, ej, nI_1]⟩
    · obtain ⟨j, hj, ej⟩ := h6 a q ha hq hz
      exact ⟨j, by omega, by rw [zupd_ne _ _ (fun z => e (by omega))]; exact ej⟩
  unfold f_X1_wearPeg f_X6_wears
  rw [E1.set (show 2 < 4 by omega), k0, zat_ix hr hp, E1.peg hr hp, k1, if_neg hbit, zix2 hr hp]
  by_cases q1 : c.2 0 2 = (0 : Int32)
  · rw [if_pos q1, if_pos q1]; exact ⟨E1, V1⟩
  rw [if_neg q1, if_neg q1]
  by_cases q2 : (s_X1_wearPeg_18 c (nI r) (nI p)).2 2 (6 * r + p) < c.2 0 2
  · rw [if_pos q2, if_pos q2]; exact ⟨E1, V1⟩
  rw [if_neg q2, if_neg q2]
  obtain ⟨y, hy, ey⟩ := zof64 (hV.2.2.2.2.1 r hr)
  have s47 : s_X1_wearPeg_47 c (nI r) (nI p) = zA (s_X1_wearPeg_18 c (nI r) (nI p)) 1 (upd ((s_X1_wearPeg_18 c (nI r) (nI p)).2 1) r (zdrop ((s_X1_wearPeg_18 c (nI r) (nI p)).2 1 r) p)) := by
    unfold s_X1_wearPeg_47
    rw [i0]; rfl
  have E2 : zE (s_X1_wearPeg_47 c (nI r) (nI p)) ((s_X6_wears_53 m (nI r) (nI p)).2 0) := by
    rw [s47]
    unfold s_X6_wears_53
    rw [zA_eq, zat_ix hr hp]
    refine zE_row E1 hr _ (fun k hk => zupd_ne _ _ (hk p hp)) (fun q hq => ?_)
    rw [k1, ey, zb_drop y hy p hp q hq]
    by_cases e : q = p
    · subst e; rw [zupd_eq, if_pos rfl, if_pos rfl]
    · rw [zupd_ne _ _ (by omega), if_neg e, E1.peg hr hq, k1, ey]
  refine ⟨zR_S E2 15 (by omega) (by omega) (by rw [E2.sc (by omega) (by omega)]), ?_⟩
  refine zV_S ?_ _ (by decide) (by decide) (Or.inl (by decide))
  rw [s47]
  exact zV_drop V1 hr hp
theorem zfallsL {v : zCV} {pegs : Int32} {r : Nat} (hr : r < 16) (hv : v.2 0 4 = nI r) : ∀ (n i : Nat) (c m : zCV) (b : Nat), i + n ≤ 6 → b + n < 2 ^ 31 → zE c (m.2 0) → zV c b → c.1 4 = nI r → (∀ q, i ≤ q → q < 6 → zbit pegs q = zbit (c.2 1 r) q) →
    zE (f_X0_letStampsFall_L2 pegs n i c) ((f_X6_steps_L49 v n i m).2 0) ∧ zV (f_X0_letStampsFall_L2 pegs n i c) (b + n) ∧ (∀ k, k ≠ 7 → k ≠ 8 → k ≠ 15 → (f_X0_letStampsFall_L2 pegs n i c).1 k = c.1 k) ∧ (f_X0_letStampsFall_L2 pegs n i c).2 0 = c.2 0 ∧ (∀ a, a ≠ r → (f_X0_letStampsFall_L2 pegs n i c).2 1 a = c.2 1 a) ∧ f_J6_bitCount_0f7a4 ((f_X0_letStampsFall_L2 pegs n i c).2 1 r) ≤ f_J6_bitCount_0f7a4 (c.2 1 r) := by
  intro n
  induction n with
  | zero => intro i c m b _ _ hE hV _ _; exact ⟨hE, hV, fun _ _ _ _ => rfl, rfl, fun _ _ => rfl, Int32.le_refl _⟩
  | succ n ih =>
    intro i c m b hi hb hE hV h4 hq
    unfold f_X0_letStampsFall_L2 f_X6_steps_L49
    have e6 : r_X6_steps_58 v i m = if zbit (c.2 1 r) i = (0 : Int32) then (0 : Int32) else (1 : Int32) := by
      unfold r_X6_steps_58
      rw [hv]; exact zhas6 hE hV (by omega) hr (by omega)
    rw [e6, show (pegs >>> ((nI i) &&& 31)) &&& (1 : Int32) = zbit pegs i from rfl, hq i (Nat.le_refl _) (by omega)]
    by_cases q : zbit (c.2 1 r) i = (0 : Int32)
    · rw [if_pos q, if_pos q, if_pos rfl]
      obtain ⟨a1, a2, a3⟩ := ih (i + 1) c m b (by omega) (by omega) hE hV h4 (fun q h1 h2 => hq q (by omega) h2)
      exact ⟨a1, a2.le (by omega), a3⟩
    · rw [if_neg q, if_neg q, if_neg (by decide)]
      obtain ⟨f1, f2, f3⟩ := zfall_fr c (nI i)
      have E1 := zfall hE (p := i) (by omega)
      have V1 : zV (f_X0_letStampFall c (nI i)) b := zV_of hV (f1 4 (by decide) (by decide)) (f1 5 (by decide) (by decide)) (by rcases f2 with z | z; exact Or.inl z; exact Or.inr (Or.inr z)) (f3 0 (by decide)) (f3 1 (by decide)) (f3 2 (by decide))
      have r1 : (f_X0_letStampFall c (nI i)).2 1 = c.2 1 := f3 1 (by decide)
      have r4 : (f_X0_letStampFall c (nI i)).1 4 = nI r := (f1 4 (by decide) (by decide)).trans h4
      obtain ⟨E2, V2⟩ := zwear E1 V1 (by omega) hr (show i < 6 by omega) (by rw [r1]; exact q)
      obtain ⟨g1, g2, g3, g4⟩ := zwear_fr (f_X0_letStampFall c (nI i)) r i ((f_X0_letStampFall c (nI i)).2 0 2) hr
      have e5 : s_X0_letStampsFall_39 i c = f_X1_wearPeg (f_X0_letStampFall c (nI i)) (nI r) (nI i) ((f_X0_letStampFall c (nI i)).2 0 2) := by
        unfold s_X0_letStampsFall_39 s_X0_letStampsFall_18
        rw [r4]
      have e7 : s_X6_steps_72 v i m = f_X6_wears (f_X6_falls m (nI i)) (nI r) (nI i) := by
        unfold s_X6_steps_72 s_X6_steps_66
        rw [hv]
      rw [e5, e7]
      obtain ⟨y, hy, ey⟩ := zof64 (hV.2.2.2.2.1 r hr)
      rw [r1] at g3 g4
      obtain ⟨a1, a2, a3, a4, a5, a6⟩ := ih (i + 1) _ _ (b + 1) (by omega) (by omega) E2 V2 ((g1 4 (by decide)).trans r4) (fun q h1 h2 => by
        rw [hq q (by omega) h2]
        rcases g4 with z | z
        · rw [z]
        · rw [z, ey, zb_drop y hy i (by omega) q h2, if_neg (by omega)])
      refine ⟨a1, a2.le (by omega), fun k h7 h8 h15 => (a3 k h7 h8 h15).trans ((g1 k h15).trans (f1 k h7 h8)), a4.trans ((g2 0 (by decide) (by decide)).trans (f3 0 (by decide))), fun a ha => (a5 a ha).trans (g3 a ha), Int32.le_trans a6 ?_⟩
      rcases g4 with z | z
      · rw [z]; exact Int32.le_refl _
      · rw [z, ey]; exact (zb_drop64 y hy i (by omega)).2
theorem zlay (hE : zE c (m.2 0)) : zE (f_X0_layForm c) ((f_X6_newOne m).2 0) := by
  have E1 : zE (s_X0_layForm_2 c) ((s_X6_newOne_7 m).2 0) := zR_S hE 7 (by omega) (by omega) rfl
  have E2 : zE (s_X0_layForm_7 c) ((s_X6_newOne_15 m).2 0) := zR_S E1 8 (by omega) (by omega) rfl
  exact zR_S E2 9 (by omega) (by omega) rfl
theorem zlayV (hV : zV c b) : zV (f_X0_layForm c) b :=
  zV_S (zV_S (zV_S hV _ (by decide) (by decide) (Or.inl (by decide))) _ (by decide) (by decide) (Or.inr (Or.inl rfl))) _ (by decide) (by decide) (Or.inl (by decide))
theorem zlay_fr (c : zCV) : (∀ k, k ≠ 7 → k ≠ 8 → k ≠ 9 → (f_X0_layForm c).1 k = c.1 k) ∧ (f_X0_layForm c).2 = c.2 :=
  ⟨fun k h7 h8 h9 => ((zS_ne _ _ h9).trans (zS_ne _ _ h8)).trans (zS_ne _ _ h7), rfl⟩
theorem zfin_fr (c : zCV) : (∀ k, k ≠ 7 → k ≠ 8 → k ≠ 9 → k ≠ 11 → k ≠ 12 → k ≠ 13 → (f_X0_finishForm c).1 k = c.1 k) ∧ (f_X0_finishForm c).2 = c.2 := by
  unfold f_X0_finishForm
  repeat' split
  all_goals exact ⟨fun k h7 h8 h9 h11 h12 h13 => ((zlay_fr _).1 k h7 h8 h9).trans (zS_ne _ _ (by assumption)), (zlay_fr _).2⟩
theorem zfinV (hV : zV c b) : zV (f_X0_finishForm c) b := by
  unfold f_X0_finishForm
  repeat' split
  all_goals exact zlayV (zV_S hV _ (by decide) (by decide) (Or.inl (by decide)))
theorem zlies (hE : zE c ((s_X6_lies_10 m).2 0)) (hV : zV c b) : zE (if c.1 9 < c.2 0 0 then c else f_X0_finishForm c) ((f_X6_lies m).2 0) := by
  unfold f_X6_lies f_X0_finishForm
  rw [hE.set (show 0 < 4 by omega), hE.sc (show 4 ≤ 9 by omega) (by omega), hE.sc (show 4 ≤ 8 by omega) (by omega), hE.sc (show 4 ≤ 7 by omega) (by omega), hE.sc (show 4 ≤ 6 by omega) (by omega)]
  by_cases q : c.1 9 < c.2 0 0
  · rw [if_pos q, if_neg (Int32.not_le.mpr q)]; exact hE
  · rw [if_neg q, if_pos (Int32.not_lt.mp q)]
    rcases hV.2.2.1 with z | z
    · rw [z, if_pos rfl, if_neg (show ¬ (0 : Int32) = 1 by decide)]
      by_cases y : c.1 7 = c.1 6
      · rw [if_pos y, if_pos y]
        exact zlay (zR_S (m := s_X6_lies_10 m) hE 11 (by omega) (by omega) (by rw [hE.sc (by omega) (by omega)]))
      · rw [if_neg y, if_neg y]
        exact zlay (zR_S (m := s_X6_lies_10 m) hE 12 (by omega) (by omega) (by rw [hE.sc (by omega) (by omega)]))
    · rw [z, if_neg (show ¬ (1 : Int32) = 0 by decide), if_pos rfl]
      exact zlay (zR_S (m := s_X6_lies_10 m) hE 13 (by omega) (by omega) (by rw [hE.sc (by omega) (by omega)]))
end ZSD
