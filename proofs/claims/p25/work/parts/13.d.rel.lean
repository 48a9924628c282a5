/-! Two clerks, the second's places numbered from the other side; what a clerk is at any time. -/
def zM (c d : zCV) : Prop := (∀ k, 4 ≤ k → k < 16 → k ≠ 6 → k ≠ 7 → d.1 k = c.1 k) ∧ d.1 6 = f_L_turned (c.1 6) ∧ d.1 7 = f_L_turned (c.1 7) ∧ (∀ s, s < 4 → d.2 0 s = c.2 0 s) ∧ (∀ r, r < 16 → d.2 1 r = f_L_turned (c.2 1 r)) ∧ (∀ r p, r < 16 → p < 6 → ¬ zbt (c.2 1 r) p = 0 → d.2 2 (6 * r + (5 - p)) = c.2 2 (6 * r + p)) ∧ ∀ j s, 3 ≤ j → j < 7 → s < 6 → d.2 j (5 - s) = c.2 j s
def zJs (c : zCV) : Prop := (∃ F, 1 ≤ F ∧ F ≤ 8 ∧ c.2 0 0 = nI F) ∧ vp_in (c.2 0 1) 10
def zJr (c : zCV) : Prop := ∀ r, r < 16 → vp_in (c.2 1 r) 64
def zJf (c : zCV) : Prop := vp_in (c.1 6) 64 ∧ vp_in (c.1 7) 64 ∧ (∃ f, f ≤ 7 ∧ c.1 9 = nI f) ∧ (¬ c.1 8 = 0 → ∃ q, q < 6 ∧ ¬ zbt (c.1 7) q = 0)
def zJp (c : zCV) (s : Nat) : Prop := ∀ r p, r < 16 → p < 6 → ¬ zbt (c.2 1 r) p = 0 → ∃ t, t ≤ s ∧ c.2 2 (6 * r + p) = nI t
def zJn (c : zCV) (b : Nat) : Prop := ∃ s x y z : Nat, s ≤ b ∧ c.1 10 = nI s ∧ x + y + z ≤ s ∧ c.1 11 = nI x ∧ c.1 12 = nI y ∧ c.1 13 = nI z ∧ zJp c s
def zJm (c : zCV) (b : Nat) : Prop := ∀ k, k < 6 → vp_in (c.2 3 k) 100 ∧ ∃ m, m ≤ b ∧ c.2 4 k = nI m ∧ (¬ zbt (c.1 7) k = 0 → 0 < m)
def zJj (c : zCV) (b : Nat) : Prop := ∃ j, j ≤ b ∧ c.1 14 = nI j ∧ (¬ c.1 5 = 0 → 0 < j)
def zJ (c : zCV) (b : Nat) : Prop := vp_in (c.1 4) 16 ∧ (c.1 5 = 0 ∨ c.1 5 = 1) ∧ (c.1 8 = 0 ∨ c.1 8 = 1) ∧ zJs c ∧ zJr c ∧ zJf c ∧ zJn c b ∧ zJm c b ∧ zJj c b
theorem zJ.le {c : zCV} {b b' : Nat} (h : zJ c b) (hb : b ≤ b') : zJ c b' := by
  obtain ⟨h1, h2, h3, h4, h5, h6, ⟨s, x, y, z, g1, g2⟩, h8, ⟨j, k1, k2⟩⟩ := h
  exact ⟨h1, h2, h3, h4, h5, h6, ⟨s, x, y, z, by omega, g2⟩, fun k hk => ⟨(h8 k hk).1, by obtain ⟨-, m, m1, m2⟩ := h8 k hk; exact ⟨m, by omega, m2⟩⟩, ⟨j, by omega, k2⟩⟩
section ZRL
variable {c d : zCV} {b : Nat}
theorem zM.sc (h : zM c d) {k : Nat} (h4 : 4 ≤ k) (h16 : k < 16) (h6 : k ≠ 6) (h7 : k ≠ 7) : d.1 k = c.1 k := h.1 k h4 h16 h6 h7
theorem zM.row (h : zM c d) {r : Nat} (hr : r < 16) : d.2 1 r = f_L_turned (c.2 1 r) := h.2.2.2.2.1 r hr
theorem zM.peg (h : zM c d) {r p : Nat} (hr : r < 16) (hp : p < 6) (hb : ¬ zbt (c.2 1 r) p = 0) : d.2 2 (6 * r + (5 - p)) = c.2 2 (6 * r + p) := h.2.2.2.2.2.1 r p hr hp hb
theorem zM.arr (h : zM c d) {j s : Nat} (h3 : 3 ≤ j) (h7 : j < 7) (hs : s < 6) : d.2 j (5 - s) = c.2 j s := h.2.2.2.2.2.2 j s h3 h7 hs
theorem zM.arr' (h : zM c d) {j s : Nat} (h3 : 3 ≤ j) (h7 : j < 7) (hs : s < 6) : d.2 j s = c.2 j (5 - s) := by
  have := h.arr h3 h7 (show 5 - s < 6 by omega)
  rw [show 5 - (5 - s) = s by omega] at this
  exact this
theorem zM.set (h : zM c d) {s : Nat} (hs : s < 4) : d.2 0 s = c.2 0 s := h.2.2.2.1 s hs
theorem zM.bt (h : zM c d) (hJ : zJr c) {r k : Nat} (hr : r < 16) (hk : k < 6) : zbt (d.2 1 r) k = zbt (c.2 1 r) (5 - k) := by rw [h.row hr, zT_bt (hJ r hr) hk]
theorem zM.has (h : zM c d) (hJ : vp_in (c.1 7) 64) {k : Nat} (hk : k < 6) : zbt (d.1 7) k = zbt (c.1 7) (5 - k) := by rw [h.2.2.1, zT_bt hJ hk]
theorem zM_S (h : zM c d) {k : Nat} (h6 : k ≠ 6) (h7 : k ≠ 7) {x y : Int32} (hxy : y = x) : zM (zS c k x) (zS d k y) := by
  subst hxy
  obtain ⟨h1, h2, h3, h4, h5⟩ := h
  refine ⟨fun j a1 a2 a3 a4 => ?_, ?_, ?_, h4, h5⟩
  · by_cases e : j = k
    · subst e; rw [zS_eq, zS_eq]
    · rw [zS_ne _ _ e, zS_ne _ _ e]; exact h1 j a1 a2 a3 a4
  · rw [zS_ne _ _ (Ne.symm h6), zS_ne _ _ (Ne.symm h6)]; exact h2
  · rw [zS_ne _ _ (Ne.symm h7), zS_ne _ _ (Ne.symm h7)]; exact h3
theorem zM_S7 (h : zM c d) {x y : Int32} (hxy : y = f_L_turned x) : zM (zS c 7 x) (zS d 7 y) := by
  subst hxy
  obtain ⟨h1, h2, h3, h4, h5⟩ := h
  refine ⟨fun j a1 a2 a3 a4 => ?_, ?_, ?_, h4, h5⟩
  · rw [zS_ne _ _ a4, zS_ne _ _ a4]; exact h1 j a1 a2 a3 a4
  · rw [zS_ne _ _ (by decide), zS_ne _ _ (by decide)]; exact h2
  · rw [zS_eq, zS_eq]
theorem zM_S6 (h : zM c d) {x y : Int32} (hxy : y = f_L_turned x) : zM (zS c 6 x) (zS d 6 y) := by
  subst hxy
  obtain ⟨h1, h2, h3, h4, h5⟩ := h
  refine ⟨fun j a1 a2 a3 a4 => ?_, ?_, ?_, h4, h5⟩
  · rw [zS_ne _ _ a3, zS_ne _ _ a3]; exact h1 j a1 a2 a3 a4
  · rw [zS_eq, zS_eq]
  · rw [zS_ne _ _ (by decide), zS_ne _ _ (by decide)]; exact h3
theorem zpg_M (h : zM c d) (hJ : zJr c) {r k : Nat} (hr : r < 16) (hk : k < 6) : zpg (d.2 1 r) k = zpg (c.2 1 r) (5 - k) := by
  unfold zpg
  rw [h.bt hJ hr hk]
theorem zen_M (h : zM c d) {k : Nat} (hk : k < 6) : zen d k = zen c (5 - k) := by
  unfold zen
  rw [h.set (by omega), h.arr' (by omega) (by omega) hk]
theorem zhs_M (h : zM c d) (hJ : vp_in (c.1 7) 64) {k : Nat} (hk : k < 6) : zhs d k = zhs c (5 - k) := by
  unfold zhs
  rw [h.has hJ hk]
theorem zwo_M (h : zM c d) (hJ : zJr c) {r k : Nat} (hr : r < 16) (hk : k < 6) : (zpg (d.2 1 r) k && zwo d r k) = (zpg (c.2 1 r) (5 - k) && zwo c r (5 - k)) := by
  rw [zpg_M h hJ hr hk]
  by_cases q : zbt (c.2 1 r) (5 - k) = 0
  · rw [show zpg (c.2 1 r) (5 - k) = false by unfold zpg; rw [decide_eq_false_iff_not]; exact fun h => h q, Bool.false_and, Bool.false_and]
  · have := h.peg hr (show 5 - k < 6 by omega) q
    rw [show 5 - (5 - k) = k by omega] at this
    unfold zwo
    rw [h.set (by omega), this]
theorem zM_falls (h : zM c d) (hr : zJr c) (h7 : vp_in (c.1 7) 64) {r : Nat} (hr16 : r < 16) : zM (zLo c r (zpg (c.2 1 r)) 6) (zLo d r (zpg (d.2 1 r)) 6) := by
  have hr' : vp_in (d.2 1 r) 64 := by rw [h.row hr16]; exact zT_in (hr r hr16)
  have h7' : vp_in (d.1 7) 64 := by rw [h.2.2.1]; exact zT_in h7
  have gP : ∀ k, k < 6 → zpg (d.2 1 r) k = zpg (c.2 1 r) (5 - k) := fun k hk => zpg_M h hr hr16 hk
  have gE : ∀ k, k < 6 → zen d k = zen c (5 - k) := fun k hk => zen_M h hk
  have gH : ∀ k, k < 6 → zhs d k = zhs c (5 - k) := fun k hk => zhs_M h h7 hk
  have gW : ∀ k, k < 6 → (zpg (d.2 1 r) k && zwo d r k) = (zpg (c.2 1 r) (5 - k) && zwo c r (5 - k)) := fun k hk => zwo_M h hr hr16 hk
  have e7 : zhaz d (zpg (d.2 1 r)) 6 = f_L_turned (zhaz c (zpg (c.2 1 r)) 6) := by
    obtain ⟨a1, a2⟩ := zhaz_bt h7 (zpg (c.2 1 r)) 6 (Nat.le_refl _)
    obtain ⟨b1, b2⟩ := zhaz_bt h7' (zpg (d.2 1 r)) 6 (Nat.le_refl _)
    refine zext b1 (zT_in a1) (fun q hq => ?_)
    rw [b2 q hq, zT_bt a1 hq, a2 (5 - q) (by omega), gP q hq, gE q hq, h.has h7 hq]
    by_cases e : (zpg (c.2 1 r) (5 - q) && zen c (5 - q)) = true
    · rw [if_pos ⟨hq, e⟩, if_pos ⟨by omega, e⟩]
    · rw [if_neg (fun z => e z.2), if_neg (fun z => e z.2)]
  have e1 : zrow d r (zpg (d.2 1 r)) 6 = f_L_turned (zrow c r (zpg (c.2 1 r)) 6) := by
    obtain ⟨a1, a2⟩ := zrow_bt (hr r hr16) (zpg (c.2 1 r)) 6 (Nat.le_refl _)
    obtain ⟨b1, b2⟩ := zrow_bt hr' (zpg (d.2 1 r)) 6 (Nat.le_refl _)
    refine zext b1 (zT_in a1) (fun q hq => ?_)
    rw [b2 q hq, zT_bt a1 hq, a2 (5 - q) (by omega), gW q hq, h.bt hr hr16 hq]
    by_cases e : (zpg (c.2 1 r) (5 - q) && zwo c r (5 - q)) = true
    · rw [if_pos ⟨hq, e⟩, if_pos ⟨by omega, e⟩]
    · rw [if_neg (fun z => e z.2), if_neg (fun z => e z.2)]
  have e8 : zany (fun k => zpg (d.2 1 r) k && zhs d k) 6 = zany (fun k => zpg (c.2 1 r) k && zhs c k) 6 :=
    (zany_congr 6 (fun k hk => by rw [gP k hk, gH k hk])).trans (zany_rev (fun k => zpg (c.2 1 r) k && zhs c k))
  have e15 : zcn (fun k => zpg (d.2 1 r) k && zwo d r k) 6 = zcn (fun k => zpg (c.2 1 r) k && zwo c r k) 6 :=
    (zsum_congr 6 (fun k hk => by show (if (zpg (d.2 1 r) k && zwo d r k) = true then (1 : Int32) else 0) = _; rw [gW k hk])).trans (zsum_rev (fun k => if (zpg (c.2 1 r) k && zwo c r k) = true then (1 : Int32) else 0))
  refine ⟨fun k a1 a2 a3 a4 => ?_, h.2.1, e7, h.2.2.2.1, fun a ha => ?_, fun a p ha hp hz => ?_, fun j s a1 a2 hs => ?_⟩
  · show (if k = 7 then zhaz d (zpg (d.2 1 r)) 6 else if k = 8 then (if zany (fun k => zpg (d.2 1 r) k && zhs d k) 6 = true then (1 : Int32) else d.1 8) else if k = 15 then d.1 15 + zcn (fun k => zpg (d.2 1 r) k && zwo d r k) 6 else d.1 k) = (if k = 7 then zhaz c (zpg (c.2 1 r)) 6 else if k = 8 then (if zany (fun k => zpg (c.2 1 r) k && zhs c k) 6 = true then (1 : Int32) else c.1 8) else if k = 15 then c.1 15 + zcn (fun k => zpg (c.2 1 r) k && zwo c r k) 6 else c.1 k)
    rw [if_neg a4, if_neg a4, e8, e15, h.sc (show 4 ≤ 8 by omega) (by omega) (by omega) (by omega), h.sc (show 4 ≤ 15 by omega) (by omega) (by omega) (by omega), h.sc a1 a2 a3 a4]
  · show upd (d.2 1) r (zrow d r (zpg (d.2 1 r)) 6) a = f_L_turned (upd (c.2 1) r (zrow c r (zpg (c.2 1 r)) 6) a)
    by_cases e : a = r
    · subst e; rw [zupd_eq, zupd_eq, e1]
    · rw [zupd_ne _ _ e, zupd_ne _ _ e]; exact h.row ha
  · have hold : ¬ zbt (c.2 1 a) p = 0 := by
      intro z
      apply hz
      show zbt (upd (c.2 1) r (zrow c r (zpg (c.2 1 r)) 6) a) p = 0
      by_cases e : a = r
      · subst e
        rw [zupd_eq, (zrow_bt (hr a ha) (zpg (c.2 1 a)) 6 (Nat.le_refl _)).2 p hp, z]
        split <;> rfl
      · rw [zupd_ne _ _ e]; exact z
    show (if 6 * r ≤ 6 * a + (5 - p) ∧ 6 * a + (5 - p) < 6 * r + 6 ∧ zpg (d.2 1 r) (6 * a + (5 - p) - 6 * r) = true then d.2 2 (6 * a + (5 - p)) + (1 : Int32) else d.2 2 (6 * a + (5 - p))) = (if 6 * r ≤ 6 * a + p ∧ 6 * a + p < 6 * r + 6 ∧ zpg (c.2 1 r) (6 * a + p - 6 * r) = true then c.2 2 (6 * a + p) + (1 : Int32) else c.2 2 (6 * a + p))
    rw [h.peg ha hp hold]
    by_cases e : a = r
    · subst e
      rw [show 6 * a + (5 - p) - 6 * a = 5 - p by omega, show 6 * a + p - 6 * a = p by omega, gP (5 - p) (by omega), show 5 - (5 - p) = p by omega]
      by_cases e2 : zpg (c.2 1 a) p = true
      · rw [if_pos ⟨by omega, by omega, e2⟩, if_pos ⟨by omega, by omega, e2⟩]
      · rw [if_neg (fun z => e2 z.2.2), if_neg (fun z => e2 z.2.2)]
    · rw [if_neg (fun z => by omega), if_neg (fun z => by omega)]
  · have hk : 5 - s < 6 := by omega
    have gp := gP (5 - s) hk
    have ge := gE (5 - s) hk
    have gh := gH (5 - s) hk
    rw [show 5 - (5 - s) = s by omega] at gp ge gh
    rcases (show j = 3 ∨ j = 4 ∨ j = 5 ∨ j = 6 by omega) with rfl | rfl | rfl | rfl
    · show (if 5 - s < 6 ∧ (zpg (d.2 1 r) (5 - s) && zen d (5 - s)) = true then d.2 3 (5 - s) - d.2 0 1 else d.2 3 (5 - s)) = (if s < 6 ∧ (zpg (c.2 1 r) s && zen c s) = true then c.2 3 s - c.2 0 1 else c.2 3 s)
      rw [gp, ge, h.arr (by omega) (by omega) hs, h.set (by omega)]
      by_cases e2 : (zpg (c.2 1 r) s && zen c s) = true
      · rw [if_pos ⟨hk, e2⟩, if_pos ⟨hs, e2⟩]
      · rw [if_neg (fun z => e2 z.2), if_neg (fun z => e2 z.2)]
    · show (if 5 - s < 6 ∧ (zpg (d.2 1 r) (5 - s) && zen d (5 - s)) = true then d.2 4 (5 - s) + (1 : Int32) else d.2 4 (5 - s)) = (if s < 6 ∧ (zpg (c.2 1 r) s && zen c s) = true then c.2 4 s + (1 : Int32) else c.2 4 s)
      rw [gp, ge, h.arr (by omega) (by omega) hs]
      by_cases e2 : (zpg (c.2 1 r) s && zen c s) = true
      · rw [if_pos ⟨hk, e2⟩, if_pos ⟨hs, e2⟩]
      · rw [if_neg (fun z => e2 z.2), if_neg (fun z => e2 z.2)]
    · show (if 5 - s < 6 ∧ (zpg (d.2 1 r) (5 - s) && !zen d (5 - s)) = true then d.2 5 (5 - s) + (1 : Int32) else d.2 5 (5 - s)) = (if s < 6 ∧ (zpg (c.2 1 r) s && !zen c s) = true then c.2 5 s + (1 : Int32) else c.2 5 s)
      rw [gp, ge, h.arr (by omega) (by omega) hs]
      by_cases e2 : (zpg (c.2 1 r) s && !zen c s) = true
      · rw [if_pos ⟨hk, e2⟩, if_pos ⟨hs, e2⟩]
      · rw [if_neg (fun z => e2 z.2), if_neg (fun z => e2 z.2)]
    · show (if 5 - s < 6 ∧ (zpg (d.2 1 r) (5 - s) && zhs d (5 - s)) = true then d.2 6 (5 - s) + (1 : Int32) else d.2 6 (5 - s)) = (if s < 6 ∧ (zpg (c.2 1 r) s && zhs c s) = true then c.2 6 s + (1 : Int32) else c.2 6 s)
      rw [gp, gh, h.arr (by omega) (by omega) hs]
      by_cases e2 : (zpg (c.2 1 r) s && zhs c s) = true
      · rw [if_pos ⟨hk, e2⟩, if_pos ⟨hs, e2⟩]
      · rw [if_neg (fun z => e2 z.2), if_neg (fun z => e2 z.2)]
end ZRL
