/-! The relation of the two states, and a state that is kept. -/
def zCk (c : zCV) (f : Nat → Int32) : Prop := ∃ s, s ≤ 99999 ∧ c.1 10 = nI s ∧ zE c f ∧ zV c (6 * s)
def zFl (V : Nat → zCV) (n : Nat) : Prop := ∀ k, k < n → ((V k).1 5 = 0 ∨ (V k).1 5 = 1) ∧ ((V k).1 8 = 0 ∨ (V k).1 8 = 1)
def zH (vh : zCV) (VH : Nat → zCV) (m : zCV) : Prop := ∃ n h, n < 6 ∧ h ≤ 6 ∧ vh.1 0 = nI n ∧ vh.1 1 = nI h ∧ m.1 0 = nI h ∧ ∀ j, j < h → zCk (VH ((n + 6 - h + j) % 6)) (fun k => m.2 2 (136 * j + k))
def zPd (vp m : zCV) : Prop := ∃ t, t ≤ 60 ∧ vp.1 0 = nI t ∧ m.1 1 = nI t ∧ ∀ i, i < t → ∃ x, x ≤ 255 ∧ m.2 5 i = nI x ∧ vp.2 0 i = nI x
def zSl (vs : zCV) (VS : Nat → zCV) (m : zCV) : Prop := ∀ k, k < 2 → (vs.2 0 k = 0 ∧ m.2 4 k = 0) ∨ (vs.2 0 k = 1 ∧ m.2 4 k = 1 ∧ zCk (VS k) (fun i => m.2 3 (136 * k + i)))
def zR (vc vh vp vs vt : zCV) (VH VS : Nat → zCV) (m : zCV) : Prop := zCk vc (m.2 0) ∧ zH vh VH m ∧ zPd vp m ∧ zSl vs VS m ∧ zFl VH 6 ∧ zFl VS 2
/-- what of the reference's state counts -/
def zSame (m m' : zCV) : Prop := m'.1 0 = m.1 0 ∧ m'.1 1 = m.1 1 ∧ (∀ k, k < 136 → m'.2 0 k = m.2 0 k) ∧ m'.2 2 = m.2 2 ∧ m'.2 3 = m.2 3 ∧ m'.2 4 = m.2 4 ∧ m'.2 5 = m.2 5
theorem zCk_congr {c : zCV} {f g : Nat → Int32} (h : zCk c f) (e : ∀ k, k < 136 → g k = f k) : zCk c g := by
  obtain ⟨s, h1, h2, h3, h4⟩ := h
  exact ⟨s, h1, h2, zE_congr h3 e, h4⟩
theorem zH_congr {vh : zCV} {VH : Nat → zCV} {m m' : zCV} (h : zH vh VH m) (e1 : m'.1 0 = m.1 0) (e2 : m'.2 2 = m.2 2) : zH vh VH m' := by
  obtain ⟨n, k, h1, h2, h3, h4, h5, h6⟩ := h
  exact ⟨n, k, h1, h2, h3, h4, e1.trans h5, by rw [e2]; exact h6⟩
theorem zPd_congr {vp m m' : zCV} (h : zPd vp m) (e1 : m'.1 1 = m.1 1) (e2 : m'.2 5 = m.2 5) : zPd vp m' := by
  obtain ⟨t, h1, h2, h3, h4⟩ := h
  exact ⟨t, h1, h2, e1.trans h3, by rw [e2]; exact h4⟩
theorem zSl_congr {vs : zCV} {VS : Nat → zCV} {m m' : zCV} (h : zSl vs VS m) (e1 : m'.2 3 = m.2 3) (e2 : m'.2 4 = m.2 4) : zSl vs VS m' := by
  unfold zSl
  rw [e1, e2]; exact h
theorem zR.same {vc vh vp vs vt vt' : zCV} {VH VS : Nat → zCV} {m m' : zCV} (h : zR vc vh vp vs vt VH VS m) (e : zSame m m') : zR vc vh vp vs vt' VH VS m' := by
  obtain ⟨h1, h2, h3, h4, h5, h6⟩ := h
  obtain ⟨e1, e2, e3, e4, e5, e6, e7⟩ := e
  exact ⟨zCk_congr h1 e3, zH_congr h2 e1 e4, zPd_congr h3 e2 e7, zSl_congr h4 e5 e6, h5, h6⟩
theorem zCk_fl {c : zCV} {f : Nat → Int32} (h : zCk c f) : (c.1 5 = 0 ∨ c.1 5 = 1) ∧ (c.1 8 = 0 ∨ c.1 8 = 1) := by
  obtain ⟨s, h1, h2, h3, h4⟩ := h
  exact ⟨h4.2.1, h4.2.2.1⟩
theorem zCk_copy (v : zCV) {w : zCV} {f : Nat → Int32} (h : zCk w f) : zCk (f_X0_copyFrom v w) f := by
  obtain ⟨s, h1, h2, h3, h4⟩ := h
  exact ⟨s, h1, ((zcp v w).1 10 (by omega) (by omega)).trans h2, zE_copy v h3, zV_copy v h4⟩
/-! the reference's history -/
theorem zhist1 : ∀ (n i : Nat) (w : zCV), i + n ≤ 680 → ∀ j, (f_X6_changes_L11 n i w).2 2 j = if i ≤ j ∧ j < i + n then w.2 2 (j + 136) else w.2 2 j := by
  intro n
  induction n with
  | zero => intro i w _ j; rw [if_neg (by omega)]; rfl
  | succ n ih =>
    intro i w hi j
    unfold f_X6_changes_L11
    rw [ih (i + 1) _ (by omega) j]
    have e : ∀ k, (s_X6_changes_33 i w).2 2 k = if k = i then w.2 2 (i + 136) else w.2 2 k := by
      intro k
      unfold s_X6_changes_33
      rw [zA_eq, nI_clamp (by omega), show (136 : Int32) = nI 136 from rfl, nI_add, nI_clamp (by omega)]
      rfl
    rw [e, e]
    by_cases a : j = i
    · subst a
      rw [if_neg (by omega), if_pos rfl, if_pos (by omega)]
    · by_cases b : i + 1 ≤ j ∧ j < i + 1 + n
      · rw [if_pos b, if_neg (show ¬ j + 136 = i by omega), if_pos (show i ≤ j ∧ j < i + (n + 1) by omega)]
      · rw [if_neg b, if_neg a, if_neg (show ¬ (i ≤ j ∧ j < i + (n + 1)) by omega)]
theorem zhist2 {h : Nat} (hh : h < 6) : ∀ (n i : Nat) (w : zCV), i + n ≤ 136 → w.1 0 = nI h → ∀ j, (f_X6_changes_L52 n i w).2 2 j = if 136 * h + i ≤ j ∧ j < 136 * h + i + n then w.2 0 (j - 136 * h) else w.2 2 j := by
  intro n
  induction n with
  | zero => intro i w _ _ j; rw [if_neg (by omega)]; rfl
  | succ n ih =>
    intro i w hi h0 j
    unfold f_X6_changes_L52
    rw [ih (i + 1) (s_X6_changes_79 i w) (by omega) h0 j]
    have e0 : (s_X6_changes_79 i w).2 0 = w.2 0 := zA_ne _ _ (by decide)
    have e : (s_X6_changes_79 i w).2 2 j = if j = 136 * h + i then w.2 0 i else w.2 2 j := by
      unfold s_X6_changes_79
      rw [zA_eq, nI_clamp (n := i) (by omega), h0, show (136 : Int32) = nI 136 from rfl, znI_mul, nI_add, nI_clamp (by omega)]
      rfl
    rw [e, e0]
    by_cases a : j = 136 * h + i
    · rw [if_neg (by omega), if_pos a, if_pos (by omega), show j - 136 * h = i by omega]
    · rw [if_neg a]
      by_cases b : 136 * h + (i + 1) ≤ j ∧ j < 136 * h + (i + 1) + n
      · rw [if_pos b, if_pos (by omega)]
      · rw [if_neg b, if_neg (by omega)]
theorem zchg {m : zCV} {h : Nat} (hh : h ≤ 6) (h0 : m.1 0 = nI h) : (f_X6_changes m).1 0 = nI (if h = 6 then 6 else h + 1) ∧ ∀ j, (f_X6_changes m).2 2 j = if h = 6 then (if 680 ≤ j ∧ j < 816 then m.2 0 (j - 680) else if j < 680 then m.2 2 (j + 136) else m.2 2 j) else (if 136 * h ≤ j ∧ j < 136 * h + 136 then m.2 0 (j - 136 * h) else m.2 2 j) := by
  unfold f_X6_changes
  rw [h0]
  by_cases e : h = 6
  · subst e
    rw [if_pos (show nI 6 = (6 : Int32) from rfl)]
    have a1 : (s_X6_changes_47 m).1 0 = nI 5 := by
      unfold s_X6_changes_47
      rw [zS_eq, (e0_changesL11 _ _ _).1, h0]
      decide
    have a0 : (s_X6_changes_47 m).2 0 = m.2 0 := (e0_changesL11 (zfu 680) 0 m).2 0 (by decide)
    have a2 : ∀ j, (s_X6_changes_47 m).2 2 j = if j < 680 then m.2 2 (j + 136) else m.2 2 j := by
      intro j
      show (f_X6_changes_L11 (zfu 680) 0 m).2 2 j = _
      rw [zfu_eq, zhist1 680 0 m (by omega) j]
      by_cases q : j < 680
      · rw [if_pos (by omega), if_pos q]
      · rw [if_neg (by omega), if_neg q]
    refine ⟨?_, fun j => ?_⟩
    · unfold s_X6_changes_93_2
      rw [zS_eq, (e0_changesL52 _ _ _).1, a1]
      decide +kernel
    · rw [if_pos rfl]
      show (f_X6_changes_L52 (zfu 136) 0 (s_X6_changes_47 m)).2 2 j = _
      rw [zfu_eq, zhist2 (h := 5) (by omega) 136 0 _ (by omega) a1 j, a0, a2 j]
  · rw [if_neg (show ¬ nI h = (6 : Int32) from fun z => e ((nI_eq (by omega) (by omega)).mp (show nI h = nI 6 from z)))]
    refine ⟨?_, fun j => ?_⟩
    · unfold s_X6_changes_93
      rw [zS_eq, (e0_changesL52 _ _ _).1, h0, nI_1, if_neg e]
    · rw [if_neg e]
      show (f_X6_changes_L52 (zfu 136) 0 m).2 2 j = _
      rw [zfu_eq, zhist2 (h := h) (by omega) 136 0 _ (by omega) h0 j]
      rfl
theorem zkeep {vc vh : zCV} {VH : Nat → zCV} {m : zCV} (hC : zCk vc (m.2 0)) (hH : zH vh VH m) (hF : zFl VH 6) :
    zH (f_X2_keep vh (VH (vh.1 0).toNatClampNeg) vc).1 (va_up VH (vh.1 0).toNatClampNeg (f_X2_keep vh (VH (vh.1 0).toNatClampNeg) vc).2) (f_X6_changes m) ∧ zFl (va_up VH (vh.1 0).toNatClampNeg (f_X2_keep vh (VH (vh.1 0).toNatClampNeg) vc).2) 6 := by
  obtain ⟨n, h, hn, hh, e0, e1, e2, hs⟩ := hH
  have i0 : (vh.1 0).toNatClampNeg = n := by rw [e0, nI_clamp (by omega)]
  rw [i0]
  obtain ⟨k0, k2⟩ := zchg hh e2
  have r2 : (f_X2_keep vh (VH n) vc).2 = f_X0_copyFrom (VH n) vc := by
    unfold f_X2_keep
    split <;> rfl
  have hmin : ∀ w : zCV, w.1 1 = nI h → (if (6 : Int32) < (w.1 1 + (1 : Int32)) then (6 : Int32) else (w.1 1 + (1 : Int32))) = nI (if h = 6 then 6 else h + 1) := by
    intro w hw
    rw [hw, nI_1, show (6 : Int32) = nI 6 from rfl]
    by_cases q : h = 6
    · subst q; rw [if_pos (by decide), if_pos rfl]
    · rw [if_neg (nI_nlt (by omega) (by omega)), if_neg q]
  have r0 : (f_X2_keep vh (VH n) vc).1.1 0 = nI ((n + 1) % 6) ∧ (f_X2_keep vh (VH n) vc).1.1 1 = nI (if h = 6 then 6 else h + 1) := by
    unfold f_X2_keep
    rw [e0]
    by_cases q : n < 5
    · rw [if_pos (show nI n < (5 : Int32) from nI_lt (b := 5) q (by omega))]
      refine ⟨?_, hmin (s_X2_keep_32 vh) e1⟩
      show vh.1 0 + (1 : Int32) = _
      rw [e0, nI_1, Nat.mod_eq_of_lt (by omega)]
    · rw [if_neg (show ¬ nI n < (5 : Int32) from nI_nlt (b := 5) (by omega) (by omega))]
      refine ⟨?_, hmin (s_X2_keep_32_2 vh) e1⟩
      show (0 : Int32) = _
      rw [show (n + 1) % 6 = 0 by omega, nI_0]
  rw [r2]
  refine ⟨⟨(n + 1) % 6, if h = 6 then 6 else h + 1, by omega, by split <;> omega, r0.1, r0.2, k0, fun j hj => ?_⟩, fun k hk => ?_⟩
  · by_cases q : h = 6
    · subst q
      rw [if_pos rfl] at hj ⊢
      by_cases z : j = 5
      · subst z
        rw [show ((n + 1) % 6 + 6 - 6 + 5) % 6 = n by omega, va_up_self]
        refine zCk_congr (zCk_copy _ hC) (fun k hk => ?_)
        show (f_X6_changes m).2 2 (136 * 5 + k) = m.2 0 k
        rw [k2, if_pos rfl, if_pos (by omega), show 136 * 5 + k - 680 = k by omega]
      · rw [va_up_ne _ _ (show ((n + 1) % 6 + 6 - 6 + j) % 6 ≠ n by omega), show ((n + 1) % 6 + 6 - 6 + j) % 6 = (n + 6 - 6 + (j + 1)) % 6 by omega]
        refine zCk_congr (hs (j + 1) (by omega)) (fun k hk => ?_)
        show (f_X6_changes m).2 2 (136 * j + k) = m.2 2 (136 * (j + 1) + k)
        rw [k2, if_pos rfl, if_neg (by omega), if_pos (by omega), show 136 * j + k + 136 = 136 * (j + 1) + k by omega]
    · rw [if_neg q] at hj ⊢
      by_cases z : j = h
      · subst z
        rw [show ((n + 1) % 6 + 6 - (j + 1) + j) % 6 = n by omega, va_up_self]
        refine zCk_congr (zCk_copy _ hC) (fun k hk => ?_)
        show (f_X6_changes m).2 2 (136 * j + k) = m.2 0 k
        rw [k2, if_neg q, if_pos (by omega), show 136 * j + k - 136 * j = k by omega]
      · rw [va_up_ne _ _ (show ((n + 1) % 6 + 6 - (h + 1) + j) % 6 ≠ n by omega), show ((n + 1) % 6 + 6 - (h + 1) + j) % 6 = (n + 6 - h + j) % 6 by omega]
        refine zCk_congr (hs j (by omega)) (fun k hk => ?_)
        show (f_X6_changes m).2 2 (136 * j + k) = m.2 2 (136 * j + k)
        rw [k2, if_neg q, if_neg (by omega)]
  · by_cases q : k = n
    · subst q
      rw [va_up_self]
      exact zCk_fl (zCk_copy _ hC)
    · rw [va_up_ne _ _ q]; exact hF k hk
