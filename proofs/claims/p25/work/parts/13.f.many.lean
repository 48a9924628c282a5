/-! Many steps, copies, rows that are given. -/
section ZMN
variable {c d : zCV} {b : Nat}
theorem zsteps : ∀ (n i : Nat) (c d : zCV) (b : Nat), b + n < 2 ^ 30 → zM c d → zJ c b →
    (f_X0_makeSteps_L2 n i d).1 = (f_X0_makeSteps_L2 n i c).1 ∧ zM (f_X0_makeSteps_L2 n i c).2 (f_X0_makeSteps_L2 n i d).2 ∧ zJ (f_X0_makeSteps_L2 n i c).2 (b + n) := by
  intro n
  induction n with
  | zero => intro i c d b _ hM hJ; exact ⟨rfl, hM, hJ⟩
  | succ n ih =>
    intro i c d b hb hM hJ
    obtain ⟨a1, a2, a3, a4⟩ := zone hM hJ (by omega)
    unfold f_X0_makeSteps_L2 r_X0_makeSteps_8
    rw [a1]
    rcases a4 with ⟨z, -⟩ | ⟨z, -⟩
    · rw [z, if_pos rfl, if_pos rfl]
      exact ⟨rfl, a2, a3.le (by omega)⟩
    · rw [z, if_neg (show ¬ (1 : Int32) = 0 by decide), if_neg (show ¬ (1 : Int32) = 0 by decide)]
      obtain ⟨b1, b2, b3⟩ := ih (i + 1) _ _ (b + 1) (by omega) a2 a3
      exact ⟨b1, b2, b3.le (by omega)⟩
theorem zmake_eq (c : zCV) {n : Nat} (hn : n < 2 ^ 31) : f_X0_makeSteps c (nI n) = f_X0_makeSteps_L2 n 0 c := by
  unfold f_X0_makeSteps
  rw [nI_clamp hn, zfu_eq]
/-- what a copy is -/
theorem zcpy_at (f g : Nat → Int32) {n k : Nat} (h : k < n) : va_cpy f g 0 0 n k = f k := by
  show (if 0 ≤ k ∧ k < 0 + n then f (0 + (k - 0)) else g k) = f k
  rw [if_pos ⟨by omega, by omega⟩, Nat.zero_add, Nat.sub_zero]
def zQ (c w : zCV) : Prop := (∀ k, 4 ≤ k → k < 16 → c.1 k = w.1 k) ∧ (∀ s, s < 4 → c.2 0 s = w.2 0 s) ∧ (∀ s, s < 16 → c.2 1 s = w.2 1 s) ∧ (∀ s, s < 96 → c.2 2 s = w.2 2 s) ∧ ∀ j, 3 ≤ j → j < 7 → ∀ s, s < 6 → c.2 j s = w.2 j s
theorem zcp (v w : zCV) : zQ (f_X0_copyFrom v w) w := by
  refine ⟨fun k h1 h2 => ?_, fun s hs => ?_, fun s hs => ?_, fun s hs => ?_, fun j h1 h2 s hs => ?_⟩
  · rcases (show k = 4 ∨ k = 5 ∨ k = 6 ∨ k = 7 ∨ k = 8 ∨ k = 9 ∨ k = 10 ∨ k = 11 ∨ k = 12 ∨ k = 13 ∨ k = 14 ∨ k = 15 by omega) with rfl | rfl | rfl | rfl | rfl | rfl | rfl | rfl | rfl | rfl | rfl | rfl
    all_goals rfl
  · exact zcpy_at (w.2 0) (v.2 0) hs
  · exact zcpy_at (w.2 1) (v.2 1) hs
  · exact zcpy_at (w.2 2) (v.2 2) hs
  · rcases (show j = 3 ∨ j = 4 ∨ j = 5 ∨ j = 6 by omega) with rfl | rfl | rfl | rfl
    · exact zcpy_at (w.2 3) (v.2 3) hs
    · exact zcpy_at (w.2 4) (v.2 4) hs
    · exact zcpy_at (w.2 5) (v.2 5) hs
    · exact zcpy_at (w.2 6) (v.2 6) hs
theorem zM_Q {c c' d d' : zCV} (h : zM c d) (hc : zQ c' c) (hd : zQ d' d) : zM c' d' := by
  obtain ⟨c1, c2, c3, c4, c5⟩ := hc
  obtain ⟨d1, d2, d3, d4, d5⟩ := hd
  refine ⟨fun k a1 a2 a3 a4 => ?_, ?_, ?_, fun s hs => ?_, fun r hr => ?_, fun r p hr hp hz => ?_, fun j s a1 a2 hs => ?_⟩
  · rw [c1 k a1 a2, d1 k a1 a2]; exact h.1 k a1 a2 a3 a4
  · rw [c1 6 (by omega) (by omega), d1 6 (by omega) (by omega)]; exact h.2.1
  · rw [c1 7 (by omega) (by omega), d1 7 (by omega) (by omega)]; exact h.2.2.1
  · rw [c2 s hs, d2 s hs]; exact h.set hs
  · rw [c3 r hr, d3 r hr]; exact h.row hr
  · rw [c3 r hr] at hz
    rw [c4 _ (by omega), d4 _ (by omega)]; exact h.peg hr hp hz
  · rw [c5 j a1 a2 s hs, d5 j a1 a2 _ (by omega)]; exact h.arr a1 a2 hs
theorem zJ_Q {c' : zCV} (h : zJ c b) (hc : zQ c' c) : zJ c' b := by
  obtain ⟨c1, c2, c3, c4, c5⟩ := hc
  obtain ⟨h1, h2, h3, h4, h5, ⟨h6a, h6b, h6c, h6d⟩, ⟨s, x, y, z, n1, n2, n3, n4, n5, n6, n7⟩, h8, h9⟩ := h
  have e := fun k a1 a2 => c1 k a1 a2
  refine ⟨by rw [c1 4 (by omega) (by omega)]; exact h1, by rw [c1 5 (by omega) (by omega)]; exact h2, by rw [c1 8 (by omega) (by omega)]; exact h3, ⟨by rw [c2 0 (by omega)]; exact h4.1, by rw [c2 1 (by omega)]; exact h4.2⟩, fun r hr => by rw [c3 r hr]; exact h5 r hr, ⟨by rw [c1 6 (by omega) (by omega)]; exact h6a, by rw [c1 7 (by omega) (by omega)]; exact h6b, by rw [c1 9 (by omega) (by omega)]; exact h6c, by rw [c1 8 (by omega) (by omega), c1 7 (by omega) (by omega)]; exact h6d⟩, ⟨s, x, y, z, n1, by rw [c1 10 (by omega) (by omega)]; exact n2, n3, by rw [c1 11 (by omega) (by omega)]; exact n4, by rw [c1 12 (by omega) (by omega)]; exact n5, by rw [c1 13 (by omega) (by omega)]; exact n6, fun r p hr hp hz => ?_⟩, fun k hk => ?_, ?_⟩
  · rw [c3 r hr] at hz
    rw [c4 _ (by omega)]; exact n7 r p hr hp hz
  · rw [c5 3 (by omega) (by omega) k hk, c5 4 (by omega) (by omega) k hk, c1 7 (by omega) (by omega)]; exact h8 k hk
  · unfold zJj
    rw [c1 14 (by omega) (by omega), c1 5 (by omega) (by omega)]; exact h9
theorem zM_copy {v w c d : zCV} (h : zM c d) : zM (f_X0_copyFrom v c) (f_X0_copyFrom w d) := zM_Q h (zcp v c) (zcp w d)
theorem zJ_copy {v : zCV} (h : zJ c b) : zJ (f_X0_copyFrom v c) b := zJ_Q h (zcp v c)
/-- a row that is given: which numbers are put to 0 -/
theorem zgive_L (r : Nat) (hr : r < 16) : ∀ (n i : Nat) (w : zCV), i + n = 6 → (f_X1_giveRow_L2 (nI r) n i w).1 = w.1 ∧ (∀ j, j ≠ 2 → (f_X1_giveRow_L2 (nI r) n i w).2 j = w.2 j) ∧ (∀ x, (x < 6 * r + i ∨ 6 * r + 6 ≤ x) → (f_X1_giveRow_L2 (nI r) n i w).2 2 x = w.2 2 x) ∧ ∀ p, i ≤ p → p < 6 → (f_X1_giveRow_L2 (nI r) n i w).2 2 (6 * r + p) = if zbt (w.2 1 r) p = 0 then 0 else w.2 2 (6 * r + p) := by
  intro n
  induction n with
  | zero => intro i w h; exact ⟨rfl, fun _ _ => rfl, fun _ _ => rfl, fun p h1 h2 => by omega⟩
  | succ n ih =>
    intro i w h
    unfold f_X1_giveRow_L2
    have e : r_X1_giveRow_11 (nI r) i w = if zbt (w.2 1 r) i = 0 then (0 : Int32) else 1 := by
      unfold r_X1_giveRow_11 f_X1_hasPeg
      rw [nI_clamp (by omega)]
      rfl
    rw [e]
    by_cases q : zbt (w.2 1 r) i = 0
    · rw [if_pos q, if_pos rfl]
      have e28 : s_X1_giveRow_28 (nI r) i w = zA w 2 (upd (w.2 2) (6 * r + i) 0) := by
        unfold s_X1_giveRow_28
        rw [zix2 hr (by omega)]
      rw [e28]
      obtain ⟨a1, a2, a3, a4⟩ := ih (i + 1) (zA w 2 (upd (w.2 2) (6 * r + i) 0)) (by omega)
      rw [zA_ne w _ (show 1 ≠ 2 by decide)] at a4
      rw [zA_eq] at a3 a4
      refine ⟨a1, fun j hj => (a2 j hj).trans (zA_ne _ _ hj), fun x hx => ?_, fun p h1 h2 => ?_⟩
      · rw [a3 x (by omega), zupd_ne _ _ (by omega)]
      · by_cases e2 : p = i
        · subst e2
          rw [a3 _ (by omega), zupd_eq, if_pos q]
        · rw [a4 p (by omega) h2, zupd_ne _ _ (by omega)]
    · rw [if_neg q, if_neg (show ¬ (1 : Int32) = 0 by decide)]
      obtain ⟨a1, a2, a3, a4⟩ := ih (i + 1) w (by omega)
      refine ⟨a1, a2, fun x hx => a3 x (by omega), fun p h1 h2 => ?_⟩
      by_cases e2 : p = i
      · subst e2
        rw [a3 _ (by omega), if_neg q]
      · exact a4 p (by omega) h2
theorem zgive {w : zCV} {r : Nat} (hr : r < 16) (y : Int32) : (f_X1_giveRow w (nI r) y).1 = w.1 ∧ (∀ j, j ≠ 1 → j ≠ 2 → (f_X1_giveRow w (nI r) y).2 j = w.2 j) ∧ (f_X1_giveRow w (nI r) y).2 1 = upd (w.2 1) r y ∧ (∀ a p, a ≠ r → p < 6 → (f_X1_giveRow w (nI r) y).2 2 (6 * a + p) = w.2 2 (6 * a + p)) ∧ ∀ p, p < 6 → (f_X1_giveRow w (nI r) y).2 2 (6 * r + p) = if zbt (w.2 1 r) p = 0 then 0 else w.2 2 (6 * r + p) := by
  obtain ⟨a1, a2, a3, a4⟩ := zgive_L r hr 6 0 w rfl
  unfold f_X1_giveRow s_X1_giveRow_41
  rw [zfu_eq, nI_clamp (by omega)]
  refine ⟨a1, fun j h1 h2 => (zA_ne _ _ h1).trans (a2 j h2), ?_, fun a p ha hp => ?_, fun p hp => ?_⟩
  · rw [zA_eq, a2 1 (by decide)]
  · rw [zA_ne _ _ (by decide), a3 _ (by omega)]
  · rw [zA_ne _ _ (by decide), a4 p (by omega) hp]
theorem zM_give (h : zM c d) (hJ : zJr c) {r : Nat} (hr : r < 16) {y : Int32} (hy : vp_in y 64) : zM (f_X1_giveRow c (nI r) y) (f_X1_giveRow d (nI r) (f_L_turned y)) := by
  obtain ⟨a1, a2, a3, a4, a5⟩ := zgive (w := c) hr y
  obtain ⟨b1, b2, b3, b4, b5⟩ := zgive (w := d) hr (f_L_turned y)
  refine ⟨fun k k1 k2 k3 k4 => ?_, ?_, ?_, fun s hs => ?_, fun a ha => ?_, fun a p ha hp hz => ?_, fun j s k1 k2 hs => ?_⟩
  · rw [a1, b1]; exact h.1 k k1 k2 k3 k4
  · rw [a1, b1]; exact h.2.1
  · rw [a1, b1]; exact h.2.2.1
  · rw [a2 0 (by decide) (by decide), b2 0 (by decide) (by decide)]; exact h.set hs
  · rw [a3, b3]
    by_cases e : a = r
    · subst e; rw [zupd_eq, zupd_eq]
    · rw [zupd_ne _ _ e, zupd_ne _ _ e]; exact h.row ha
  · by_cases e : a = r
    · subst e
      rw [a5 p hp, b5 (5 - p) (by omega), h.bt hJ ha (show 5 - p < 6 by omega), show 5 - (5 - p) = p by omega]
      by_cases q : zbt (c.2 1 a) p = 0
      · rw [if_pos q, if_pos q]
      · rw [if_neg q, if_neg q]; exact h.peg ha hp q
    · rw [a3, zupd_ne _ _ e] at hz
      rw [a4 a p e hp, b4 a (5 - p) e (by omega)]; exact h.peg ha hp hz
  · rw [a2 j (by omega) (by omega), b2 j (by omega) (by omega)]; exact h.arr k1 k2 hs
theorem zJ_give (h : zJ c b) {r : Nat} (hr : r < 16) {y : Int32} (hy : vp_in y 64) : zJ (f_X1_giveRow c (nI r) y) b := by
  obtain ⟨a1, a2, a3, a4, a5⟩ := zgive (w := c) hr y
  obtain ⟨h1, h2, h3, h4, h5, h6, ⟨s, x, y', z, n1, n2, n3, n4, n5, n6, n7⟩, h8, h9⟩ := h
  unfold zJ zJs zJf zJm zJj
  rw [a1, a2 0 (by decide) (by decide), a2 3 (by decide) (by decide), a2 4 (by decide) (by decide)]
  refine ⟨h1, h2, h3, h4, fun a ha => ?_, h6, ⟨s, x, y', z, n1, by rw [a1]; exact n2, n3, by rw [a1]; exact n4, by rw [a1]; exact n5, by rw [a1]; exact n6, fun a p ha hp hz => ?_⟩, h8, h9⟩
  · rw [a3]
    by_cases e : a = r
    · subst e; rw [zupd_eq]; exact hy
    · rw [zupd_ne _ _ e]; exact h5 a ha
  · by_cases e : a = r
    · subst e
      rw [a5 p hp]
      by_cases q : zbt (c.2 1 a) p = 0
      · rw [if_pos q]; exact ⟨0, by omega, rfl⟩
      · rw [if_neg q]; exact n7 a p ha hp q
    · rw [a3, zupd_ne _ _ e] at hz
      rw [a4 a p e hp]; exact n7 a p ha hp hz
/-- counts -/
theorem zallpegs (hM : zM c d) (hJ : zJr c) : f_X1_allPegs d = f_X1_allPegs c := by
  have hL : ∀ n i a, i + n ≤ 16 → f_X1_allPegs_L4 d n i a = f_X1_allPegs_L4 c n i a := by
    intro n
    induction n with
    | zero => intro i a _; rfl
    | succ n ih =>
      intro i a h
      unfold f_X1_allPegs_L4
      rw [show r_X1_allPegs_13 d i = r_X1_allPegs_13 c i from zpegs_M hM hJ (by omega), ih _ _ (by omega)]
  unfold f_X1_allPegs
  rw [zfu_eq]; exact hL 16 0 0 (by omega)
theorem zhas1 (c : zCV) {r p : Nat} (hr : r < 16) : f_X1_hasPeg c (nI r) (nI p) = if zbt (c.2 1 r) p = 0 then (0 : Int32) else 1 := by
  unfold f_X1_hasPeg
  rw [nI_clamp (by omega)]
  rfl
theorem zplace_M (hM : zM c d) (hJ : zJr c) {p : Nat} (hp : p < 6) : f_X1_pegsAtPlace d (nI (5 - p)) = f_X1_pegsAtPlace c (nI p) := by
  have hL : ∀ n i a, i + n ≤ 16 → f_X1_pegsAtPlace_L4 d (nI (5 - p)) n i a = f_X1_pegsAtPlace_L4 c (nI p) n i a := by
    intro n
    induction n with
    | zero => intro i a _; rfl
    | succ n ih =>
      intro i a h
      unfold f_X1_pegsAtPlace_L4
      have e : r_X1_pegsAtPlace_13 d (nI (5 - p)) i = r_X1_pegsAtPlace_13 c (nI p) i := by
        unfold r_X1_pegsAtPlace_13
        rw [zhas1 d (by omega), zhas1 c (by omega), hM.bt hJ (by omega) (by omega), show 5 - (5 - p) = p by omega]
      rw [e, ih _ _ (by omega), ih _ _ (by omega)]
  unfold f_X1_pegsAtPlace
  rw [zfu_eq]; exact hL 16 0 0 (by omega)
theorem zmarks_eq (c : zCV) : f_X4_allMarks c = zsum (fun k => c.2 4 k) 6 := by
  unfold f_X4_allMarks
  rw [zfu_eq]
  rfl
theorem zmarks_M (hM : zM c d) : f_X4_allMarks d = f_X4_allMarks c := by
  rw [zmarks_eq, zmarks_eq]
  exact (zsum_congr 6 (fun k hk => hM.arr' (by omega) (by omega) hk)).trans (zsum_rev (fun k => c.2 4 k))
end ZMN
