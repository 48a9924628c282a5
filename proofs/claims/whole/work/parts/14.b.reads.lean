/-! The calls that change nothing. -/
theorem zfm16 : ∀ r, r < 16 → ∀ a, a < 16 → f_J9_floorMod_7cf53 (nI r - nI a) (16 : Int32) = ((nI r + (16 : Int32)) - nI a) - ((((nI r + (16 : Int32)) - nI a) / (16 : Int32)) * (16 : Int32)) := by decide +kernel
theorem zmod16 : ∀ x, x < 32 → nI x - ((nI x / (16 : Int32)) * (16 : Int32)) = nI (x % 16) := by decide +kernel
theorem zorL_acc (x : Int32) : ∀ (n i : Nat) (a : Int32), zorL x n i a = a ||| zorL x n i 0 := by
  intro n
  induction n with
  | zero => intro i a; show a = a ||| 0; rw [Int32.or_zero]
  | succ n ih =>
    intro i a
    unfold zorL
    split
    · rw [Int32.or_zero, Int32.or_zero]; exact ih _ a
    · rw [ih _ (a ||| _), ih _ ((0 : Int32) ||| _), Int32.zero_or, Int32.or_assoc]
/-- the pegs of the n rows from the a+i-th on -/
def znx (c : zCV) (a : Nat) : Nat → Nat → Int32 → Int32
  | 0, _, x => x
  | n + 1, i, x => znx c a n (i + 1) (x ||| c.2 1 ((a + i) % 16))
section ZOB
variable {c m : zCV} {b : Nat}
theorem znx_step (hV : zV c b) {a : Nat} (ha : a < 16) : ∀ (n i : Nat) (x : Int32), i + n ≤ 9 → (f_X5_nextStampsByStep_L15 c n i x (nI ((a + i) % 16))).1 = znx c a n i x := by
  intro n
  induction n with
  | zero => intro i x _; rfl
  | succ n ih =>
    intro i x h
    unfold f_X5_nextStampsByStep_L15 znx
    have hr : (a + i) % 16 < 16 := by omega
    have hL : ∀ k j y, j + k ≤ 6 → f_X5_nextStampsByStep_L31 c (nI ((a + i) % 16)) k j y = zorL (c.2 1 ((a + i) % 16)) k j y := by
      intro k
      induction k with
      | zero => intro j y _; rfl
      | succ k ihk =>
        intro j y hj
        unfold f_X5_nextStampsByStep_L31 zorL
        rw [show r_X5_nextStampsByStep_48 c (nI ((a + i) % 16)) j = _ from zhas1 c hr, ihk _ _ (by omega), ihk _ _ (by omega), Int32.or_zero]
        by_cases q : zbit (c.2 1 ((a + i) % 16)) j = (0 : Int32)
        · rw [if_pos q, if_pos q, if_pos rfl]
        · rw [if_neg q, if_neg q, if_neg (show ¬ (1 : Int32) = 0 by decide)]
    obtain ⟨y, hy, ey⟩ := zof64 (hV.2.2.2.2.1 _ hr)
    rw [(zrb _ hr).1, show ((a + i) % 16 + 1) % 16 = (a + (i + 1)) % 16 by omega, ih _ _ (by omega), zfu_eq, hL 6 0 x (by omega), zorL_acc, ey, zb_set y hy]
theorem znx_pegs {a : Nat} (ha : a < 16) (h4 : c.1 4 = nI a) : ∀ (n i : Nat) (x : Int32), i + n ≤ 9 → f_X5_nextStampsByPegs_L4 c n i x = znx c a n i x := by
  intro n
  induction n with
  | zero => intro i x _; rfl
  | succ n ih =>
    intro i x h
    unfold f_X5_nextStampsByPegs_L4 znx
    rw [h4, nI_add, efm (by omega), nI_clamp (by omega), ih _ _ (by omega)]
theorem znx_ref (hE : zE c (m.2 0)) (hV : zV c b) (hb : b < 2 ^ 31) {a : Nat} (ha : a < 16) (h4 : c.1 4 = nI a) : ∀ (n i : Nat) (x : Int32), i + n ≤ 9 → f_X6_nextStamps_L17 m n i x = znx c a n i x := by
  intro n
  induction n with
  | zero => intro i x _; rfl
  | succ n ih =>
    intro i x h
    unfold f_X6_nextStamps_L17 znx r_X6_nextStamps_40
    rw [hE.sc (show 4 ≤ 4 by omega) (by omega), h4, nI_add, zmod16 _ (by omega), zsetIn hE hV hb (show (a + i) % 16 < 16 by omega), ih _ _ (by omega)]
end ZOB
theorem zR_nextStamps : zSim_nextStamps zR := by
  intro vc vh vp vs vt VH VS m p0 h
  refine ⟨?_, h⟩
  obtain ⟨s, hs, h10, hE, hV⟩ := h.1
  obtain ⟨a, ha, h4⟩ := vp_in_of hV.1 (by omega)
  obtain ⟨n, hn, e0⟩ := vp_in_of hV.2.2.2.1 (by omega)
  have r6 : f_X6_nextStamps_L17 m (zfu ((m.2 0) 0).toNatClampNeg) 0 0 = znx vc a n 0 0 := by
    rw [hE.set (show 0 < 4 by omega), e0, nI_clamp (by omega), zfu_eq]
    exact znx_ref hE hV (by omega) ha h4 n 0 0 (by omega)
  unfold f_X5_nextStamps f_X6_nextStamps
  by_cases q0 : p0 = 0
  · subst q0
    rw [if_pos rfl, if_neg (by decide), r6]
    unfold r_X5_nextStamps_5 f_X5_nextStampsByStep
    rw [e0, nI_clamp (by omega), zfu_eq, h4]
    have := znx_step hV ha n 0 0 (by omega)
    rw [Nat.add_zero, Nat.mod_eq_of_lt ha] at this
    exact this
  rw [if_neg q0]
  by_cases q1 : p0 = 1
  · subst q1
    rw [if_pos rfl, if_neg (by decide), r6]
    unfold r_X5_nextStamps_15 f_X5_nextStampsByPegs
    rw [e0, nI_clamp (by omega), zfu_eq]
    exact znx_pegs ha h4 n 0 0 (by omega)
  rw [if_neg q1, if_pos]
  refine Classical.byContradiction fun z => ?_
  have := (zin_i (x := p0) (A := 0) (B := 1) (a := 0) (b := 1) rfl rfl).mp z
  obtain ⟨j, hj, rfl⟩ := vp_in_of (x := p0) (n := 2) (vp_in_iff.mpr (by omega)) (by omega)
  rcases (show j = 0 ∨ j = 1 by omega) with rfl | rfl
  · exact q0 rfl
  · exact q1 rfl
theorem zR_row : zSim_row zR := by
  intro vc vh vp vs vt VH VS m p0 p1 h
  refine ⟨?_, h⟩
  obtain ⟨s, hs, h10, hE, hV⟩ := h.1
  unfold f_X5_row f_X6_row
  by_cases a : vp_in p0 16
  · rw [if_neg (zrow5_iff.mpr a), if_neg (zrow_iff.mpr a)]
    obtain ⟨r, hr, rfl⟩ := vp_in_of a (by omega)
    obtain ⟨t, ht, h4⟩ := vp_in_of hV.1 (by omega)
    have e1 : r_X6_row_42 m (nI r) = vc.2 1 (nI r).toNatClampNeg := by
      rw [nI_clamp (by omega)]; exact zsetIn hE hV (by omega) hr
    have e2 : r_X6_row_48 m (nI r) = r_X5_row_61 vc (nI r) := zpegsIn hE hV (by omega) hr
    have e3 : r_X6_row_54 m (nI r) = r_X5_row_70 vc (nI r) := zwould hE hV (by omega) hr
    rw [e1, e2, e3, hE.sc (show 4 ≤ 4 by omega) (by omega), h4, zfm16 r hr t ht]
    rfl
  · rw [if_pos (Classical.byContradiction fun z => a (zrow5_iff.mp z)), if_pos (Classical.byContradiction fun z => a (zrow_iff.mp z))]
theorem zR_stamped : zSim_stamped zR := by
  intro vc vh vp vs vt VH VS m p0 p1 h
  refine ⟨?_, h⟩
  obtain ⟨s, hs, h10, hE, hV⟩ := h.1
  unfold f_X5_stamped f_X6_stamped
  by_cases a : vp_in p0 16
  · rw [if_neg (zrow5_iff.mpr a), if_neg (zrow_iff.mpr a)]
    by_cases a2 : vp_in p1 6
    · rw [if_neg (zplace5_iff.mpr a2), if_neg (zplace_iff.mpr a2)]
      obtain ⟨r, hr, rfl⟩ := vp_in_of a (by omega)
      obtain ⟨p, hp, rfl⟩ := vp_in_of a2 (by omega)
      rw [show r_X5_stamped_25 vc (nI r) (nI p) = _ from zhas1 vc hr, zat_ix hr hp, hE.peg hr hp, zix2 hr hp]
      by_cases q : zbit (vc.2 1 r) p = (0 : Int32)
      · rw [if_pos q, if_pos q, if_pos rfl]
      · rw [if_neg q, if_neg q, if_neg (show ¬ (1 : Int32) = 0 by decide)]
    · rw [if_pos (Classical.byContradiction fun z => a2 (zplace5_iff.mp z)), if_pos (Classical.byContradiction fun z => a2 (zplace_iff.mp z))]
  · rw [if_pos (Classical.byContradiction fun z => a (zrow5_iff.mp z)), if_pos (Classical.byContradiction fun z => a (zrow_iff.mp z))]
theorem zR_stamp : zSim_stamp zR := by
  intro vc vh vp vs vt VH VS m p0 p1 h
  refine ⟨?_, h⟩
  obtain ⟨s, hs, h10, hE, hV⟩ := h.1
  unfold f_X5_stamp f_X6_stamp
  by_cases a : vp_in p0 6
  · rw [if_neg (zplace5_iff.mpr a), if_neg (zplace_iff.mpr a)]
    obtain ⟨p, hp, rfl⟩ := vp_in_of a (by omega)
    have i0 : (nI p).toNatClampNeg = p := nI_clamp (by omega)
    rw [i0]
    by_cases q0 : p1 = 0
    · subst q0
      rw [if_pos rfl, if_pos rfl, show ((16 : Int32) + ((6 : Int32) * (0 : Int32))) = nI 16 by decide, nI_add, nI_clamp (by omega), hE.ink hp]
    rw [if_neg q0, if_neg q0]
    by_cases q1 : p1 = 1
    · subst q1
      rw [if_pos rfl, if_pos rfl, show ((16 : Int32) + ((6 : Int32) * (1 : Int32))) = nI 22 by decide, nI_add, nI_clamp (by omega), hE.mark hp]
    rw [if_neg q1, if_neg q1]
    by_cases q2 : p1 = 2
    · subst q2
      rw [if_pos rfl, if_pos rfl, show ((16 : Int32) + ((6 : Int32) * (2 : Int32))) = nI 28 by decide, nI_add, nI_clamp (by omega), hE.dry hp]
    rw [if_neg q2, if_neg q2, show r_X6_stamp_61 m (nI p) = r_X5_stamp_91 vc (nI p) from zpegsOf hE hV (by omega) hp, zix (b := 34) (s := p) (34 : Int32) rfl (by omega), hE.spoil hp]
  · rw [if_pos (Classical.byContradiction fun z => a (zplace5_iff.mp z)), if_pos (Classical.byContradiction fun z => a (zplace_iff.mp z))]
theorem znum {x : Int32} (h : x = 0 ∨ x = 1) : f_X5_asNumber x = x := by
  rcases h with rfl | rfl <;> rfl
theorem zR_count : zSim_count zR := by
  intro vc vh vp vs vt VH VS m p0 h
  refine ⟨?_, h⟩
  obtain ⟨s, hs, h10, hE, hV⟩ := h.1
  obtain ⟨n, hh, -, -, -, e1, e2, -⟩ := h.2.1
  obtain ⟨t, -, e3, e4, -⟩ := h.2.2.1
  have u5 := znum hV.2.1
  have u8 := znum hV.2.2.1
  unfold f_X5_count f_X6_count
  rw [u5, u8, show r_X6_count_37 m = r_X5_count_204 vc from zpegs hE hV (by omega), show r_X6_count_50 m = r_X5_count_226 vc from zmarks hE, e1, e2, e3, e4, hE.sc (show 4 ≤ 15 by omega) (by omega)]
  by_cases a : vp_in p0 20
  · obtain ⟨j, hj, rfl⟩ := vp_in_of a (by omega)
    have i0 : (nI j).toNatClampNeg = j := nI_clamp (by omega)
    rw [i0]
    rcases (show j < 4 ∨ j = 4 ∨ j = 5 ∨ j = 6 ∨ j = 7 ∨ j = 8 ∨ j = 9 ∨ j = 10 ∨ j = 11 ∨ j = 12 ∨ j = 13 ∨ j = 14 ∨ j = 15 ∨ j = 16 ∨ j = 17 ∨ j = 18 ∨ j = 19 by omega) with z | rfl | rfl | rfl | rfl | rfl | rfl | rfl | rfl | rfl | rfl | rfl | rfl | rfl | rfl | rfl | rfl
    · rw [hE.set z]
      rcases (show j = 0 ∨ j = 1 ∨ j = 2 ∨ j = 3 by omega) with rfl | rfl | rfl | rfl
      all_goals (repeat (first | rw [if_neg (by decide)] | rw [if_pos (by decide)]))
    all_goals try rw [hE.sc (by omega) (by omega)]
    all_goals (repeat (first | rw [if_neg (by decide)] | rw [if_pos (by decide)]))
  · have hne : ∀ k, k < 20 → p0 ≠ nI k := fun k hk e => a (by rw [e]; exact vp_in_nI hk (by omega))
    have z : f_X6_in p0.toInt64 (0 : Int64) (14 : Int64) = 0 := Classical.byContradiction fun z => a (by
      have := (zin_i (x := p0) (A := 0) (B := 14) (a := 0) (b := 14) rfl rfl).mp z
      exact vp_in_iff.mpr (by omega))
    rw [if_pos z]
    have h4 : ¬ p0 = (4 : Int32) := hne 4 (by omega)
    have h5 : ¬ p0 = (5 : Int32) := hne 5 (by omega)
    have h6 : ¬ p0 = (6 : Int32) := hne 6 (by omega)
    have h7 : ¬ p0 = (7 : Int32) := hne 7 (by omega)
    have h8 : ¬ p0 = (8 : Int32) := hne 8 (by omega)
    have h9 : ¬ p0 = (9 : Int32) := hne 9 (by omega)
    have ha : ¬ p0 = (10 : Int32) := hne 10 (by omega)
    have hb : ¬ p0 = (11 : Int32) := hne 11 (by omega)
    have hc : ¬ p0 = (12 : Int32) := hne 12 (by omega)
    have hd : ¬ p0 = (13 : Int32) := hne 13 (by omega)
    have he : ¬ p0 = (14 : Int32) := hne 14 (by omega)
    have hf : ¬ p0 = (15 : Int32) := hne 15 (by omega)
    have hg : ¬ p0 = (16 : Int32) := hne 16 (by omega)
    have hi : ¬ p0 = (17 : Int32) := hne 17 (by omega)
    have hj : ¬ p0 = (18 : Int32) := hne 18 (by omega)
    have hk : ¬ p0 = (19 : Int32) := hne 19 (by omega)
    rw [if_neg h4, if_neg h5, if_neg h6, if_neg h7, if_neg h8, if_neg h9, if_neg ha, if_neg hb, if_neg hc, if_neg hd, if_neg he, if_neg hf, if_neg hg, if_neg hi, if_neg hj, if_neg hk]
    by_cases q : p0 < 0
    · rw [if_pos q]
    · rw [if_neg q, if_pos]
      rw [zlt_lit (a := 0) (by decide)] at q
      rw [zlit_le (a := 4) (by decide)]
      refine Classical.byContradiction fun y => a (vp_in_iff.mpr (by omega))
