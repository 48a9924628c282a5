/-! Many steps, and copies. -/
theorem zsteps : ∀ (n i : Nat) (c m : zCV) (b : Nat), b + 6 * n < 2 ^ 31 → zE c (m.2 0) → zV c b →
    (f_X6_stepsUpTo_L2 n i m).1 = (f_X0_makeSteps_L2 n i c).1 ∧ zE (f_X0_makeSteps_L2 n i c).2 ((f_X6_stepsUpTo_L2 n i m).2.2 0) ∧ ∃ d, d ≤ n ∧ (f_X0_makeSteps_L2 n i c).1 = nI (i + d) ∧ (f_X0_makeSteps_L2 n i c).2.1 10 = c.1 10 + nI d ∧ zV (f_X0_makeSteps_L2 n i c).2 (b + 6 * d) := by
  intro n
  induction n with
  | zero => intro i c m b _ hE hV; exact ⟨rfl, hE, 0, Nat.le_refl _, rfl, by show c.1 10 = c.1 10 + nI 0; rw [nI_0, Int32.add_zero], hV⟩
  | succ n ih =>
    intro i c m b hb hE hV
    obtain ⟨a1, a2, a3, a4⟩ := zone hE hV (by omega)
    unfold f_X6_stepsUpTo_L2 f_X0_makeSteps_L2 r_X6_stepsUpTo_8 r_X0_makeSteps_8
    rw [a1]
    rcases a4 with ⟨z, z10, -, -, zv⟩ | ⟨z, z10, -⟩
    · rw [z, if_pos rfl, if_pos rfl]
      exact ⟨rfl, a2, 0, by omega, rfl, by rw [nI_0, Int32.add_zero]; exact z10, zv⟩
    · rw [z, if_neg (show ¬ (1 : Int32) = 0 by decide), if_neg (show ¬ (1 : Int32) = 0 by decide)]
      obtain ⟨b1, b2, d, b4, b5, b6, b3⟩ := ih (i + 1) _ _ (b + 6) (by omega) a2 a3
      refine ⟨b1, b2, d + 1, by omega, b5.trans (by rw [show i + 1 + d = i + (d + 1) by omega]), b6.trans ?_, b3.le (by omega)⟩
      rw [z10, Int32.add_assoc, show (1 : Int32) = nI 1 from rfl, nI_add, show 1 + d = d + 1 by omega]
/-- the k rows behind the drum's row don't jam -/
def zK (c : zCV) (k : Nat) : Prop := ∃ r, r < 16 ∧ c.1 4 = nI r ∧ ∀ j, j < k → j < 16 → zok c ((r + 15 - j) % 16)
theorem zuntil : ∀ (n i k : Nat) (c m : zCV) (b : Nat), 16 ≤ k + n → b + 6 * (n + 1) < 2 ^ 31 → zE c (m.2 0) → zV c b → zK c k →
    ((f_X0_makeSteps_L2 n i c).2.1 5 = 1 ∧ (f_X6_stepsUpTo_L2 (n + 1) i m).1 = (f_X0_makeSteps_L2 n i c).1 ∧ ∃ d, d ≤ n ∧ (f_X0_makeSteps_L2 n i c).1 = nI (i + d)) ∨ ((f_X0_makeSteps_L2 n i c).2.1 5 = 0 ∧ (f_X6_stepsUpTo_L2 (n + 1) i m).1 = nI (i + n + 1)) := by
  intro n
  induction n with
  | zero =>
    intro i k c m b hk hb hE hV hK
    obtain ⟨a1, a2, a3, a4⟩ := zone hE hV (by omega)
    have e : (f_X6_stepsUpTo_L2 (0 + 1) i m).1 = if (f_X0_makeOneStep c).1 = (0 : Int32) then nI i else nI (i + 1) := by
      show (if (f_X6_steps m).1 = (0 : Int32) then (nI i, (f_X6_steps m).2) else (nI (i + 1), (f_X6_steps m).2)).1 = _
      rw [a1]
      split <;> rfl
    rw [e]
    show (c.1 5 = 1 ∧ _ = nI i ∧ ∃ d, d ≤ 0 ∧ nI i = nI (i + d)) ∨ (c.1 5 = 0 ∧ _ = nI (i + 0 + 1))
    rcases a4 with ⟨z, -, -, z5, -⟩ | ⟨z, -, z5, -⟩
    · rw [z, if_pos rfl]
      rcases hV.2.1 with j | j
      · obtain ⟨r, hr, h4, hok⟩ := hK
        rcases z5 with q | q
        · rw [j] at q; exact absurd q (by decide)
        · have := hok 15 (by omega) (by omega)
          rw [show (r + 15 - 15) % 16 = r by omega] at this
          exact absurd this (q r hr h4)
      · exact Or.inl ⟨j, rfl, 0, Nat.le_refl _, rfl⟩
    · rw [z, if_neg (show ¬ (1 : Int32) = 0 by decide)]
      exact Or.inr ⟨z5, rfl⟩
  | succ n ih =>
    intro i k c m b hk hb hE hV hK
    obtain ⟨a1, a2, a3, a4⟩ := zone hE hV (by omega)
    have e6 : f_X6_stepsUpTo_L2 (n + 1 + 1) i m = if (f_X6_steps m).1 = (0 : Int32) then (nI i, (f_X6_steps m).2) else f_X6_stepsUpTo_L2 (n + 1) (i + 1) (f_X6_steps m).2 := rfl
    have e5 : f_X0_makeSteps_L2 (n + 1) i c = if (f_X0_makeOneStep c).1 = (0 : Int32) then (nI i, (f_X0_makeOneStep c).2) else f_X0_makeSteps_L2 n (i + 1) (f_X0_makeOneStep c).2 := rfl
    rw [e6, e5, a1]
    rcases a4 with ⟨z, -, z5, -, -⟩ | ⟨z, -, -, z5, r, hr, h4, ho, h41, hall⟩
    · rw [z, if_pos rfl, if_pos rfl]
      exact Or.inl ⟨z5, rfl, 0, by omega, rfl⟩
    · rw [z, if_neg (show ¬ (1 : Int32) = 0 by decide), if_neg (show ¬ (1 : Int32) = 0 by decide)]
      obtain ⟨r2, hr2, h42, hok⟩ := hK
      have : nI r2 = nI r := h42.symm.trans h4
      rw [nI_eq (by omega) (by omega)] at this
      subst this
      rcases ih (i + 1) (k + 1) _ _ (b + 6) (by omega) (by omega) a2 a3 ⟨(r2 + 1) % 16, by omega, h41, fun j hj hj2 => by
        by_cases e : j = 0
        · subst e
          rw [show ((r2 + 1) % 16 + 15 - 0) % 16 = r2 by omega]
          exact hall _ ho
        · rw [show ((r2 + 1) % 16 + 15 - j) % 16 = (r2 + 15 - (j - 1)) % 16 by omega]
          exact hall _ (hok (j - 1) (by omega) (by omega))⟩ with ⟨b1, b2, d, b3, b4⟩ | ⟨b1, b2⟩
      · exact Or.inl ⟨b1, b2, d + 1, by omega, b4.trans (by rw [show i + 1 + d = i + (d + 1) by omega])⟩
      · exact Or.inr ⟨b1, b2.trans (by rw [show i + 1 + n + 1 = i + (n + 1) + 1 by omega])⟩
/-- what a copy is -/
theorem zcpy_at (f g : Nat → Int32) {n k : Nat} (h : k < n) : va_cpy f g 0 0 n k = f k := by
  show (if 0 ≤ k ∧ k < 0 + n then f (0 + (k - 0)) else g k) = f k
  rw [if_pos ⟨by omega, by omega⟩, Nat.zero_add, Nat.sub_zero]
theorem zcp (v w : zCV) : (∀ k, 4 ≤ k → k < 16 → (f_X0_copyFrom v w).1 k = w.1 k) ∧ (∀ s, s < 4 → (f_X0_copyFrom v w).2 0 s = w.2 0 s) ∧ (∀ s, s < 16 → (f_X0_copyFrom v w).2 1 s = w.2 1 s) ∧ (∀ s, s < 96 → (f_X0_copyFrom v w).2 2 s = w.2 2 s) ∧ ∀ j, 3 ≤ j → j < 7 → ∀ s, s < 6 → (f_X0_copyFrom v w).2 j s = w.2 j s := by
  refine ⟨fun k h1 h2 => ?_, fun s hs => ?_, fun s hs => ?_, fun s hs => ?_, fun j h1 h2 s hs => ?_⟩
  · rcases (show k = 4 ∨ k = 5 ∨ k = 6 ∨ k = 7 ∨ k = 8 ∨ k = 9 ∨ k = 10 ∨ k = 11 ∨ k = 12 ∨ k = 13 ∨ k = 14 ∨ k = 15 by omega) with rfl | rfl | rfl | rfl | rfl | rfl | rfl | rfl | rfl | rfl | rfl | rfl
    all_goals rfl
  · exact zcpy_at (w.2 0) (v.2 0) hs
  · exact zcpy_at (w.2 1) (v.2 1) hs
  · exact zcpy_at (w.2 2) (v.2 2) hs
  · rcases (show j = 3 ∨ j = 4 ∨ j = 5 ∨ j = 6 by omega) with rfl | rfl | rfl | rfl
    · exact zcpy_at (w.2 3) (v.2 3) hs
    · exact zcpy_at (w.2 4) (v.2 4) hs
    · exact zcpy_at (w.2 5) (v.2 5) hs
    · exact zcpy_at (w.2 6) (v.2 6) hs
theorem zE_copy (v : zCV) {w : zCV} {f : Nat → Int32} (h : zE w f) : zE (f_X0_copyFrom v w) f := by
  obtain ⟨h0, h1, h3, h4, h5, h6, h7⟩ := zE_iff.mp h
  obtain ⟨c1, c2, c3, c4, c5⟩ := zcp v w
  refine zE_iff.mpr ⟨fun k hk => (h0 k hk).trans (c2 k hk).symm, fun k q1 q2 => (h1 k q1 q2).trans (c1 k q1 q2).symm, fun s hs => (h3 s hs).trans (c5 3 (by omega) (by omega) s hs).symm, fun s hs => (h4 s hs).trans (c5 4 (by omega) (by omega) s hs).symm, fun s hs => (h5 s hs).trans (c5 5 (by omega) (by omega) s hs).symm, fun s hs => (h6 s hs).trans (c5 6 (by omega) (by omega) s hs).symm, fun r p hr hp => ?_⟩
  rw [c3 r hr, c4 _ (by omega)]; exact h7 r p hr hp
theorem zV_copy (v : zCV) {w : zCV} {b : Nat} (h : zV w b) : zV (f_X0_copyFrom v w) b := by
  obtain ⟨c1, c2, c3, c4, c5⟩ := zcp v w
  obtain ⟨h1, h2, h3, h4, h5, h6⟩ := h
  refine ⟨by rw [c1 4 (by omega) (by omega)]; exact h1, by rw [c1 5 (by omega) (by omega)]; exact h2, by rw [c1 8 (by omega) (by omega)]; exact h3, by rw [c2 0 (by omega)]; exact h4, fun r hr => by rw [c3 r hr]; exact h5 r hr, fun r p hr hp hz => ?_⟩
  rw [c3 r hr] at hz
  rw [c4 _ (by omega)]
  exact h6 r p hr hp hz
theorem zE_congr {c : zCV} {f g : Nat → Int32} (h : zE c f) (e : ∀ k, k < 136 → g k = f k) : zE c g := fun k hk => (e k hk).trans (h k hk)
