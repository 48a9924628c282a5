/-! What both objects tell. -/
section ZAL
variable {k : Nat} {c d : zCV} {b : Nat}
theorem zcases18 {w : Nat} (h : w < 18) : w = 0 ∨ w = 1 ∨ w = 2 ∨ w = 3 ∨ w = 4 ∨ w = 5 ∨ w = 6 ∨ w = 7 ∨ w = 8 ∨ w = 9 ∨ w = 10 ∨ w = 11 ∨ w = 12 ∨ w = 13 ∨ w = 14 ∨ w = 15 ∨ w = 16 ∨ w = 17 := by omega
-- the stamps of the rows ahead
set_option maxRecDepth 100000 in
theorem zk_or2 : ∀ x, x < 64 → ∀ y, y < 64 → (z64 (nI x ||| nI y) && decide (zorL (nI y) 6 0 (nI x) = nI x ||| nI y) && decide (f_L_turned_L4 (nI x ||| nI y) 6 0 0 = f_L_turned_L4 (nI x) 6 0 0 ||| f_L_turned_L4 (nI y) 6 0 0)) = true := by decide +kernel
theorem zor2 {x y : Int32} (hx : vp_in x 64) (hy : vp_in y 64) : vp_in (x ||| y) 64 ∧ zorL y 6 0 x = x ||| y ∧ f_L_turned (x ||| y) = f_L_turned x ||| f_L_turned y := by
  obtain ⟨i, hi, rfl⟩ := zof64 hx
  obtain ⟨j, hj, rfl⟩ := zof64 hy
  have h := zk_or2 i hi j hj
  rw [Bool.and_eq_true, Bool.and_eq_true, decide_eq_true_iff, decide_eq_true_iff] at h
  rw [zT_eq, zT_eq, zT_eq]
  exact ⟨z64_iff.mp h.1.1, h.1.2, h.2⟩
theorem zns31 {r : Nat} (hr : r < 16) : ∀ (n i : Nat) (a : Int32), f_X5_nextStampsByStep_L31 c (nI r) n i a = zorL (c.2 1 r) n i a
  | 0, i, a => rfl
  | n + 1, i, a => by
    unfold f_X5_nextStampsByStep_L31 zorL
    rw [show r_X5_nextStampsByStep_48 c (nI r) i = _ from zhas1 c hr, zns31 hr n, zns31 hr n]
    by_cases q : zbt (c.2 1 r) i = 0
    · rw [if_pos q, if_pos q, if_pos rfl]
    · rw [if_neg q, if_neg q, if_neg (by decide)]
theorem zns_one (hJ : zJr c) {r : Nat} (hr : r < 16) (h4 : c.1 4 = nI r) : ∀ (n i : Nat) (a : Int32), i + n ≤ 8 → vp_in a 64 → (f_X5_nextStampsByStep_L15 c n i a (nI ((r + i) % 16))).1 = f_X5_nextStampsByPegs_L4 c n i a
  | 0, i, a, _, _ => rfl
  | n + 1, i, a, hi, ha => by
    have hrow := hJ ((r + i) % 16) (by omega)
    obtain ⟨o1, o2, -⟩ := zor2 ha hrow
    unfold f_X5_nextStampsByStep_L15 f_X5_nextStampsByPegs_L4
    rw [zfu_eq, zns31 (by omega), o2, (zrb _ (show (r + i) % 16 < 16 by omega)).1, h4, nI_add, efm (show r + i < 1000 by omega), nI_clamp (by omega), show ((r + i) % 16 + 1) % 16 = (r + (i + 1)) % 16 by omega]
    exact zns_one hJ hr h4 n (i + 1) _ (by omega) o1
theorem zns_M (hM : zM c d) (hJ : zJr c) {r : Nat} (hr : r < 16) (h4 : c.1 4 = nI r) : ∀ (n i : Nat) (a : Int32), i + n ≤ 8 → vp_in a 64 → f_X5_nextStampsByPegs_L4 d n i (f_L_turned a) = f_L_turned (f_X5_nextStampsByPegs_L4 c n i a) ∧ vp_in (f_X5_nextStampsByPegs_L4 c n i a) 64
  | 0, i, a, _, ha => ⟨rfl, ha⟩
  | n + 1, i, a, hi, ha => by
    have hrow := hJ ((r + i) % 16) (by omega)
    obtain ⟨o1, -, o3⟩ := zor2 ha hrow
    have h4d : d.1 4 = nI r := (hM.sc (by omega) (by omega) (by omega) (by omega)).trans h4
    unfold f_X5_nextStampsByPegs_L4
    rw [h4d, h4, nI_add, efm (show r + i < 1000 by omega), nI_clamp (by omega), hM.row (show (r + i) % 16 < 16 by omega), ← o3]
    exact zns_M hM hJ hr h4 n (i + 1) _ (by omega) o1
theorem zk_ns (V : zPV) (hJ : zJr V.1) (hs : zJs V.1) {r : Nat} (hr : r < 16) (h4 : V.1.1 4 = nI r) : kF_nextStamps V 0 = kF_nextStamps V 1 ∧ ∃ F, F ≤ 8 ∧ V.1.2 0 0 = nI F ∧ kF_nextStamps V 1 = f_X5_nextStampsByPegs_L4 V.1 F 0 0 := by
  obtain ⟨F, f1, f2, f3⟩ := hs.1
  have e0 : kF_nextStamps V 0 = (f_X5_nextStampsByStep_L15 V.1 F 0 0 (V.1.1 4)).1 := by
    unfold kF_nextStamps f_X5_nextStamps
    rw [if_pos rfl]
    unfold r_X5_nextStamps_5 f_X5_nextStampsByStep
    rw [zfu_eq, f3, nI_clamp (by omega)]
  have e1 : kF_nextStamps V 1 = f_X5_nextStampsByPegs_L4 V.1 F 0 0 := by
    unfold kF_nextStamps f_X5_nextStamps
    rw [if_neg (show ¬ (1 : Int32) = 0 by decide), if_pos rfl]
    unfold r_X5_nextStamps_15 f_X5_nextStampsByPegs
    rw [zfu_eq, f3, nI_clamp (by omega)]
  refine ⟨?_, F, f2, f3, e1⟩
  rw [e0, e1, h4]
  have := zns_one hJ hr h4 F 0 0 (by omega) z0_in
  rw [show (r + 0) % 16 = r by omega] at this
  exact this
/-- a what-if's copy, and its steps -/
theorem zwhat (hM : zM c d) (hJ : zJ c b) (v w : zCV) {n : Nat} (hb : b + n < 2 ^ 30) : (f_X0_makeSteps (f_X0_copyFrom w d) (nI n)).1 = (f_X0_makeSteps (f_X0_copyFrom v c) (nI n)).1 ∧ zM (f_X0_makeSteps (f_X0_copyFrom v c) (nI n)).2 (f_X0_makeSteps (f_X0_copyFrom w d) (nI n)).2 ∧ zJ (f_X0_makeSteps (f_X0_copyFrom v c) (nI n)).2 (b + n) := by
  rw [zmake_eq _ (by omega), zmake_eq _ (by omega)]
  exact zsteps n 0 _ _ b hb (zM_copy hM) (zJ_copy hJ)
theorem zk_uj (V : zPV) : kF_untilJam V = if (f_X0_makeSteps (f_X0_copyFrom V.2.2.2.2.1 V.1) (nI 500)).2.1 5 = (0 : Int32) then (-6 : Int32) else (f_X0_makeSteps (f_X0_copyFrom V.2.2.2.2.1 V.1) (nI 500)).1 := by
  unfold kF_untilJam f_X5_untilJam r_X5_untilJam_18 s_X5_untilJam_8
  rw [show (500 : Int32) = nI 500 from rfl]
  split <;> rfl
theorem zk_if (V : zPV) {n w : Nat} (h1 : 1 ≤ n) (h2 : n ≤ 500) (hw : w < 5) : kF_ifStepped V (nI n) (nI w) = (if w = 0 then (f_X0_makeSteps (f_X0_copyFrom V.2.2.2.2.1 V.1) (nI n)).1 else if w = 1 then (f_X0_makeSteps (f_X0_copyFrom V.2.2.2.2.1 V.1) (nI n)).2.1 11 - V.1.1 11 else if w = 2 then (f_X0_makeSteps (f_X0_copyFrom V.2.2.2.2.1 V.1) (nI n)).2.1 12 - V.1.1 12 else if w = 3 then (f_X0_makeSteps (f_X0_copyFrom V.2.2.2.2.1 V.1) (nI n)).2.1 13 - V.1.1 13 else f_X4_allMarks (f_X0_makeSteps (f_X0_copyFrom V.2.2.2.2.1 V.1) (nI n)).2 - f_X4_allMarks V.1) := by
  have n1 : ¬ nI n < (1 : Int32) := nI_nlt (b := 1) (by omega) (by omega)
  have n2 : ¬ (500 : Int32) < nI n := nI_nlt (a := 500) (by omega) (by omega)
  have n3 : ¬ nI w < (0 : Int32) := nI_pos (by omega)
  have n4 : nI w ≤ (4 : Int32) := nI_le (b := 4) (by omega) (by omega)
  unfold kF_ifStepped f_X5_ifStepped r_X5_ifStepped_40 s_X5_ifStepped_32 r_X5_ifStepped_133 r_X5_ifStepped_143 r_X5_ifStepped_40 s_X5_ifStepped_32
  rw [if_neg n1, if_neg n2, if_neg n3, if_pos n4]
  rcases (show w = 0 ∨ w = 1 ∨ w = 2 ∨ w = 3 ∨ w = 4 by omega) with rfl | rfl | rfl | rfl | rfl
  · rw [if_pos (show nI 0 = (0 : Int32) from rfl), if_pos rfl]
  · rw [if_neg (show ¬ nI 1 = (0 : Int32) by decide), if_pos (show nI 1 = (1 : Int32) from rfl), if_neg (by decide), if_pos rfl]
  · rw [if_neg (show ¬ nI 2 = (0 : Int32) by decide), if_neg (show ¬ nI 2 = (1 : Int32) by decide), if_pos (show nI 2 = (2 : Int32) from rfl), if_neg (by decide), if_neg (by decide), if_pos rfl]
  · rw [if_neg (show ¬ nI 3 = (0 : Int32) by decide), if_neg (show ¬ nI 3 = (1 : Int32) by decide), if_neg (show ¬ nI 3 = (2 : Int32) by decide), if_pos (show nI 3 = (3 : Int32) from rfl), if_neg (by decide), if_neg (by decide), if_neg (by decide), if_pos rfl]
  · rw [if_neg (show ¬ nI 4 = (0 : Int32) by decide), if_neg (show ¬ nI 4 = (1 : Int32) by decide), if_neg (show ¬ nI 4 = (2 : Int32) by decide), if_neg (show ¬ nI 4 = (3 : Int32) by decide), if_neg (by decide), if_neg (by decide), if_neg (by decide), if_neg (by decide)]
theorem zI_alike (hk : k < 61) : zA_alike (zI k) := by
  intro V U h
  obtain ⟨hM, hJ, hV, hU, hS⟩ := h
  obtain ⟨r, hr, h4⟩ := vp_in_of hJ.1 (by omega)
  have h4d : U.1.1 4 = nI r := (hM.sc (by omega) (by omega) (by omega) (by omega)).trans h4
  have hJr := hJ.2.2.2.2.1
  have h5 : U.1.1 5 = 0 ∨ U.1.1 5 = 1 := by rw [hM.sc (by omega) (by omega) (by omega) (by omega)]; exact hJ.2.1
  have h8 : U.1.1 8 = 0 ∨ U.1.1 8 = 1 := by rw [hM.sc (by omega) (by omega) (by omega) (by omega)]; exact hJ.2.2.1
  refine ⟨?_, ?_, fun n w h1 h2 hw => ?_, fun w hw n6 n7 => ?_, fun w hw => ?_⟩
  · rw [zk_uj, zk_uj]
    obtain ⟨a1, a2, a3⟩ := zwhat hM hJ V.2.2.2.2.1 U.2.2.2.2.1 (n := 500) (by omega)
    rw [a1, a2.sc (show 4 ≤ 5 by omega) (by omega) (by omega) (by omega)]
  · obtain ⟨e1, F, f1, f2, f3⟩ := zk_ns V hJr hJ.2.2.2.1 hr h4
    rw [e1, f3]
    have e2 : kF_nextStamps U 1 = f_X5_nextStampsByPegs_L4 U.1 F 0 0 := by
      unfold kF_nextStamps f_X5_nextStamps
      rw [if_neg (show ¬ (1 : Int32) = 0 by decide), if_pos rfl]
      unfold r_X5_nextStamps_15 f_X5_nextStampsByPegs
      rw [zfu_eq, hM.set (by omega), f2, nI_clamp (by omega)]
    have := (zns_M hM hJr hr h4 F 0 0 (by omega) z0_in).1
    rw [zT_0] at this
    rw [e2, this]
  · rw [zk_if V h1 h2 hw, zk_if U h1 h2 hw]
    obtain ⟨a1, a2, a3⟩ := zwhat hM hJ V.2.2.2.2.1 U.2.2.2.2.1 (n := n) (by omega)
    rw [a1, a2.sc (show 4 ≤ 11 by omega) (by omega) (by omega) (by omega), a2.sc (show 4 ≤ 12 by omega) (by omega) (by omega) (by omega), a2.sc (show 4 ≤ 13 by omega) (by omega) (by omega) (by omega), hM.sc (show 4 ≤ 11 by omega) (by omega) (by omega) (by omega), hM.sc (show 4 ≤ 12 by omega) (by omega) (by omega) (by omega), hM.sc (show 4 ≤ 13 by omega) (by omega) (by omega) (by omega), zmarks_M a2, zmarks_M hM]
  · rcases zcases18 hw with rfl | rfl | rfl | rfl | rfl | rfl | rfl | rfl | rfl | rfl | rfl | rfl | rfl | rfl | rfl | rfl | rfl | rfl
    · rw [zk_cs V (show 0 < 4 by omega), zk_cs U (show 0 < 4 by omega), hM.set (by omega)]
    · rw [zk_cs V (show 1 < 4 by omega), zk_cs U (show 1 < 4 by omega), hM.set (by omega)]
    · rw [zk_cs V (show 2 < 4 by omega), zk_cs U (show 2 < 4 by omega), hM.set (by omega)]
    · rw [zk_cs V (show 3 < 4 by omega), zk_cs U (show 3 < 4 by omega), hM.set (by omega)]
    · rw [show nI 4 = (4 : Int32) from rfl, zk_c4, zk_c4, hM.sc (by omega) (by omega) (by omega) (by omega)]
    · rw [show nI 5 = (5 : Int32) from rfl, zk_c5 V hJ.2.1, zk_c5 U h5, hM.sc (by omega) (by omega) (by omega) (by omega)]
    · exact absurd rfl n6
    · exact absurd rfl n7
    · rw [show nI 8 = (8 : Int32) from rfl, zk_c8 V hJ.2.2.1, zk_c8 U h8, hM.sc (by omega) (by omega) (by omega) (by omega)]
    · rw [show nI 9 = (9 : Int32) from rfl, zk_c9, zk_c9, hM.sc (by omega) (by omega) (by omega) (by omega)]
    · rw [show nI 10 = (10 : Int32) from rfl, zk_c10, zk_c10, hM.sc (by omega) (by omega) (by omega) (by omega)]
    · rw [show nI 11 = (11 : Int32) from rfl, zk_c11, zk_c11, hM.sc (by omega) (by omega) (by omega) (by omega)]
    · rw [show nI 12 = (12 : Int32) from rfl, zk_c12, zk_c12, hM.sc (by omega) (by omega) (by omega) (by omega)]
    · rw [show nI 13 = (13 : Int32) from rfl, zk_c13, zk_c13, hM.sc (by omega) (by omega) (by omega) (by omega)]
    · rw [show nI 14 = (14 : Int32) from rfl, zk_c14, zk_c14, hM.sc (by omega) (by omega) (by omega) (by omega)]
    · rw [show nI 15 = (15 : Int32) from rfl, zk_c15, zk_c15, zallpegs hM hJr]
    · rw [show nI 16 = (16 : Int32) from rfl, zk_c16, zk_c16, hM.sc (by omega) (by omega) (by omega) (by omega)]
    · rw [show nI 17 = (17 : Int32) from rfl, zk_c17, zk_c17, zmarks_M hM]
  · rcases hw with rfl | rfl
    · rw [show nI 6 = (6 : Int32) from rfl, zk_c6, zk_c6]; exact hM.2.1.symm
    · rw [show nI 7 = (7 : Int32) from rfl, zk_c7, zk_c7]; exact hM.2.2.1.symm
theorem zI_rows : zA_rows (zI k) := by
  intro V U h
  obtain ⟨hM, hJ, hV, hU, hS⟩ := h
  have hJr := hJ.2.2.2.2.1
  refine ⟨fun r hr => ⟨?_, ?_, ?_, ?_⟩, fun r p hr hp => ?_, fun p w hp hw => ?_⟩
  · rw [zk_row0 V hr, zk_row0 U hr, hM.row hr]
  · rw [zk_row1 V hr, zk_row1 U hr, hM.row hr, zT_cnt (hJr r hr)]
  · rw [zk_row2 V hr, zk_row2 U hr, zwould_M hM hJr hr]
  · rw [zk_row3 V hr, zk_row3 U hr, hM.sc (by omega) (by omega) (by omega) (by omega)]
  · rw [z5k hp, zk_stamped V hr hp, zk_stamped U hr (by omega), hM.bt hJr hr (by omega), show 5 - (5 - p) = p by omega]
    by_cases q : zbt (V.1.2 1 r) p = 0
    · rw [if_pos q, if_pos q]
    · rw [if_neg q, if_neg q, hM.peg hr hp q]
  · rw [z5k hp]
    obtain ⟨a0, a1, a2, a3, a4⟩ := zk_st V hp
    obtain ⟨b0, b1, b2, b3, b4⟩ := zk_st U (show 5 - p < 6 by omega)
    rcases (show w = 0 ∨ w = 1 ∨ w = 2 ∨ w = 3 ∨ w = 4 by omega) with rfl | rfl | rfl | rfl | rfl
    · rw [show nI 0 = (0 : Int32) from rfl, a0, b0, hM.arr (by omega) (by omega) hp]
    · rw [show nI 1 = (1 : Int32) from rfl, a1, b1, hM.arr (by omega) (by omega) hp]
    · rw [show nI 2 = (2 : Int32) from rfl, a2, b2, hM.arr (by omega) (by omega) hp]
    · rw [show nI 3 = (3 : Int32) from rfl, a3, b3, zplace_M hM hJr hp]
    · rw [show nI 4 = (4 : Int32) from rfl, a4, b4, hM.arr (by omega) (by omega) hp]
end ZAL
