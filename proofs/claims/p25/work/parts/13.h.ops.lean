/-! The calls that change a clerk, on both objects. -/
section ZOP
variable {k : Nat} {V U : zPV} {c d : zCV} {b : Nat}
theorem zlt_lit {x y : Int32} {a : Int} (h : y.toInt = a) : x < y ↔ x.toInt < a := by rw [Int32.lt_iff_toInt_lt, h]
theorem zle_lit {x y : Int32} {a : Int} (h : y.toInt = a) : x ≤ y ↔ x.toInt ≤ a := by rw [Int32.le_iff_toInt_le, h]
theorem zrow5 {r : Nat} (hr : r < 16) : ¬ f_X5_isRow (nI r) = (0 : Int32) := zrow5_iff.mpr (vp_in_nI hr (by omega))
theorem zpl5 {p : Nat} (hp : p < 6) : ¬ f_X5_isPlace (nI p) = (0 : Int32) := zplace5_iff.mpr (vp_in_nI hp (by omega))
theorem z5k {p : Nat} (hp : p < 6) : (5 : Int32) - nI p = nI (5 - p) := by
  rw [show (5 : Int32) = nI 5 from rfl, pk_sub (by omega)]
theorem zk_stamped (V : zPV) {r p : Nat} (hr : r < 16) (hp : p < 6) : kF_stamped V (nI r) (nI p) = if zbt (V.1.2 1 r) p = 0 then (-6 : Int32) else V.1.2 2 (6 * r + p) := by
  unfold kF_stamped f_X5_stamped
  rw [if_neg (zrow5 hr), if_neg (zpl5 hp), show r_X5_stamped_25 V.1 (nI r) (nI p) = _ from zhas1 V.1 hr, zix2 hr hp]
  by_cases q : zbt (V.1.2 1 r) p = 0
  · rw [if_pos q, if_pos q, if_pos rfl]
  · rw [if_neg q, if_neg q, if_neg (by decide)]
theorem zk_row0 (V : zPV) {r : Nat} (hr : r < 16) : kF_row V (nI r) 0 = V.1.2 1 r := by
  unfold kF_row f_X5_row
  rw [if_neg (zrow5 hr), if_pos rfl, nI_clamp (by omega)]
theorem zk_row1 (V : zPV) {r : Nat} (hr : r < 16) : kF_row V (nI r) 1 = f_J6_bitCount_0f7a4 (V.1.2 1 r) := by
  unfold kF_row f_X5_row
  rw [if_neg (zrow5 hr), if_neg (by decide), if_pos rfl]
  unfold r_X5_row_61 f_X1_pegsInRow
  rw [nI_clamp (by omega)]
theorem zk_row2 (V : zPV) {r : Nat} (hr : r < 16) : kF_row V (nI r) 2 = f_X0_wouldJamAt V.1 (nI r) := by
  unfold kF_row f_X5_row
  rw [if_neg (zrow5 hr), if_neg (by decide), if_neg (by decide), if_pos rfl]
  unfold r_X5_row_70 f_X0_wouldJamAt
  split <;> rfl
theorem zk_row3 (V : zPV) {r : Nat} (hr : r < 16) : kF_row V (nI r) 3 = f_J9_floorMod_7cf53 (nI r - V.1.1 4) 16 := by
  unfold kF_row f_X5_row
  rw [if_neg (zrow5 hr), if_neg (by decide), if_neg (by decide), if_neg (by decide), if_pos rfl]
theorem zk_st (V : zPV) {p : Nat} (hp : p < 6) : kF_stamp V (nI p) 0 = V.1.2 3 p ∧ kF_stamp V (nI p) 1 = V.1.2 4 p ∧ kF_stamp V (nI p) 2 = V.1.2 5 p ∧ kF_stamp V (nI p) 3 = f_X1_pegsAtPlace V.1 (nI p) ∧ kF_stamp V (nI p) 4 = V.1.2 6 p := by
  unfold kF_stamp f_X5_stamp
  refine ⟨?_, ?_, ?_, ?_, ?_⟩
  all_goals rw [if_neg (zpl5 hp)]
  · rw [if_pos rfl, nI_clamp (by omega)]
  · rw [if_neg (show ¬ (1 : Int32) = 0 by decide), if_pos rfl, nI_clamp (by omega)]
  · rw [if_neg (show ¬ (2 : Int32) = 0 by decide), if_neg (show ¬ (2 : Int32) = 1 by decide), if_pos rfl, nI_clamp (by omega)]
  · rw [if_neg (show ¬ (3 : Int32) = 0 by decide), if_neg (show ¬ (3 : Int32) = 1 by decide), if_neg (show ¬ (3 : Int32) = 2 by decide), if_pos rfl]; unfold r_X5_stamp_91; rfl
  · rw [if_neg (show ¬ (4 : Int32) = 0 by decide), if_neg (show ¬ (4 : Int32) = 1 by decide), if_neg (show ¬ (4 : Int32) = 2 by decide), if_neg (show ¬ (4 : Int32) = 3 by decide), if_pos rfl, nI_clamp (by omega)]
theorem zM_arr (h : zM c d) {j p : Nat} (h3 : 3 ≤ j) (h7 : j < 7) (hp : p < 6) (x : Int32) : zM (zA c j (upd (c.2 j) p x)) (zA d j (upd (d.2 j) (5 - p) x)) := by
  obtain ⟨h1, h2, h3', h4, h5, h6, h8⟩ := h
  refine ⟨h1, h2, h3', fun s hs => ?_, fun r hr => ?_, fun r q hr hq hz => ?_, fun i s a1 a2 hs => ?_⟩
  · rw [zA_ne _ _ (by omega), zA_ne _ _ (by omega)]; exact h4 s hs
  · rw [zA_ne _ _ (by omega), zA_ne _ _ (by omega)]; exact h5 r hr
  · rw [zA_ne _ _ (by omega)] at hz
    rw [zA_ne _ _ (by omega), zA_ne _ _ (by omega)]; exact h6 r q hr hq hz
  · by_cases e : i = j
    · subst e
      rw [zA_eq, zA_eq]
      by_cases e2 : s = p
      · subst e2; rw [zupd_eq, zupd_eq]
      · rw [zupd_ne _ _ e2, zupd_ne _ _ (by omega)]; exact h8 i s a1 a2 hs
    · rw [zA_ne _ _ e, zA_ne _ _ e]; exact h8 i s a1 a2 hs
theorem zM_set0 (h : zM c d) {j : Nat} (x : Int32) : zM (zA c 0 (upd (c.2 0) j x)) (zA d 0 (upd (d.2 0) j x)) := by
  obtain ⟨h1, h2, h3', h4, h5, h6, h8⟩ := h
  refine ⟨h1, h2, h3', fun s hs => ?_, fun r hr => ?_, fun r q hr hq hz => ?_, fun i s a1 a2 hs => ?_⟩
  · rw [zA_eq, zA_eq]
    by_cases e2 : s = j
    · subst e2; rw [zupd_eq, zupd_eq]
    · rw [zupd_ne _ _ e2, zupd_ne _ _ e2]; exact h4 s hs
  · rw [zA_ne _ _ (by omega), zA_ne _ _ (by omega)]; exact h5 r hr
  · rw [zA_ne _ _ (by omega)] at hz
    rw [zA_ne _ _ (by omega), zA_ne _ _ (by omega)]; exact h6 r q hr hq hz
  · rw [zA_ne _ _ (by omega), zA_ne _ _ (by omega)]; exact h8 i s a1 a2 hs
theorem zset_ok {j : Nat} (hj : j < 4) {v : Int32} (hv : zSetOK (nI j) v) (vc vh vp vs vt : zCV) (VH VS : Nat → zCV) : f_X5_set vc vh vp vs vt VH VS (nI j) v = (vc.2 0 j, zA vc 0 (upd (vc.2 0) j v), (f_X2_keep vh (VH (vh.1 0).toNatClampNeg) vc).1, va_up VH (vh.1 0).toNatClampNeg (f_X2_keep vh (VH (vh.1 0).toNatClampNeg) vc).2) := by
  have i0 : (nI j).toNatClampNeg = j := nI_clamp (by omega)
  have n1 : ¬ nI j < (0 : Int32) := nI_pos (by omega)
  have n2 : ¬ (4 : Int32) ≤ nI j := nI_ge (a := j) (b := 4) (by omega) (by omega)
  have n3 : ¬ v < zLe j ∧ v ≤ zMs j := by
    have hj2 := hv.2
    rcases (show j = 0 ∨ j = 1 ∨ j = 2 ∨ j = 3 by omega) with rfl | rfl | rfl | rfl
    · rcases hj2 with ⟨-, h⟩ | ⟨e, -⟩ | ⟨e, -⟩ | ⟨e, -⟩
      · rw [show zLe 0 = 1 from rfl, show zMs 0 = 8 from rfl, zlt_lit (a := 1) (by decide), zle_lit (a := 8) (by decide)]; omega
      all_goals exact absurd e (by decide)
    · rcases hj2 with ⟨e, -⟩ | ⟨-, h⟩ | ⟨e, -⟩ | ⟨e, -⟩
      · exact absurd e (by decide)
      · have := vp_in_iff.mp h
        rw [show zLe 1 = 0 from rfl, show zMs 1 = 9 from rfl, zlt_lit (a := 0) (by decide), zle_lit (a := 9) (by decide)]; omega
      all_goals exact absurd e (by decide)
    · rcases hj2 with ⟨e, -⟩ | ⟨e, -⟩ | ⟨-, h⟩ | ⟨e, -⟩
      · exact absurd e (by decide)
      · exact absurd e (by decide)
      · have := vp_in_iff.mp h
        rw [show zLe 2 = 0 from rfl, show zMs 2 = 99 from rfl, zlt_lit (a := 0) (by decide), zle_lit (a := 99) (by decide)]; omega
      · exact absurd e (by decide)
    · rcases hj2 with ⟨e, -⟩ | ⟨e, -⟩ | ⟨e, -⟩ | ⟨-, h⟩
      · exact absurd e (by decide)
      · exact absurd e (by decide)
      · exact absurd e (by decide)
      · rw [show zLe 3 = 1 from rfl, show zMs 3 = 4 from rfl, zlt_lit (a := 1) (by decide), zle_lit (a := 4) (by decide)]; omega
  unfold f_X5_set s_X5_set_60 u_X5_set_38 r_X5_set_38
  rw [if_neg n1, if_neg n2, i0, if_neg n3.1, if_pos n3.2]
theorem zI_set : zA_set (zI k) := by
  intro V U w v h hv
  obtain ⟨j, hj, rfl⟩ := vp_in_of hv.1 (by omega)
  have hM := h.1
  have hJ := h.2.1
  unfold kF_set kG_set
  rw [zset_ok hj hv, zset_ok hj hv, zk_cs V hj]
  refine ⟨rfl, hM.set hj, ?_, zI_chg h (Nat.le_refl _) (zM_set0 hM v) ?_ (zkp h.2.2.1.1) (zkp h.2.2.2.1.1)⟩
  · rw [zk_cs _ hj]
    show (zA V.1 0 (upd (V.1.2 0) j v)).2 0 j = v
    rw [zA_eq, zupd_eq]
  · obtain ⟨h1, h2, h3, h4, h5, h6, h7, h8, h9⟩ := hJ
    refine ⟨h1, h2, h3, ?_, h5, h6, h7, h8, h9⟩
    unfold zJs
    rw [zA_eq]
    have hj2 := hv.2
    rcases (show j = 0 ∨ j = 1 ∨ j = 2 ∨ j = 3 by omega) with rfl | rfl | rfl | rfl
    · rcases hj2 with ⟨-, g1, g2⟩ | ⟨e, -⟩ | ⟨e, -⟩ | ⟨e, -⟩
      · obtain ⟨F, hF, rfl⟩ := vp_in_of (x := v) (n := 9) (vp_in_iff.mpr (by omega)) (by omega)
        rw [nI_toInt (by omega)] at g1 g2
        refine ⟨⟨F, by omega, by omega, by rw [zupd_eq]⟩, ?_⟩
        rw [zupd_ne _ _ (by decide)]; exact h4.2
      all_goals exact absurd e (by decide)
    · rcases hj2 with ⟨e, -⟩ | ⟨-, g⟩ | ⟨e, -⟩ | ⟨e, -⟩
      · exact absurd e (by decide)
      · refine ⟨by rw [zupd_ne _ _ (by decide)]; exact h4.1, by rw [zupd_eq]; exact g⟩
      all_goals exact absurd e (by decide)
    · exact ⟨by rw [zupd_ne _ _ (by decide)]; exact h4.1, by rw [zupd_ne _ _ (by decide)]; exact h4.2⟩
    · exact ⟨by rw [zupd_ne _ _ (by decide)]; exact h4.1, by rw [zupd_ne _ _ (by decide)]; exact h4.2⟩
theorem zord_ok {x : Int32} (hx : vp_in x 64) (vc vh vp vs vt : zCV) (VH VS : Nat → zCV) : f_X5_order vc vh vp vs vt VH VS x = (vc.1 6, zS vc 6 x, (f_X2_keep vh (VH (vh.1 0).toNatClampNeg) vc).1, va_up VH (vh.1 0).toNatClampNeg (f_X2_keep vh (VH (vh.1 0).toNatClampNeg) vc).2) := by
  have := vp_in_iff.mp hx
  unfold f_X5_order
  rw [if_neg (by rw [zlt_lit (a := 0) (by decide)]; omega), if_pos (by rw [zlt_lit (a := 64) (by decide)]; omega)]
  rfl
theorem zI_order : zA_order (zI k) := by
  intro V U x h hx
  unfold kF_order kG_order
  rw [zord_ok hx, zord_ok (zT_in hx), zk_c6]
  refine ⟨rfl, h.1.2.1, rfl, zI_chg h (Nat.le_refl _) (zM_S6 h.1 rfl) ?_ (zkp h.2.2.1.1) (zkp h.2.2.2.1.1)⟩
  obtain ⟨h1, h2, h3, h4, h5, ⟨-, h6⟩, h7, h8, h9⟩ := h.2.1
  exact ⟨h1, h2, h3, h4, h5, ⟨by rw [zS_eq]; exact hx, h6⟩, h7, h8, h9⟩
theorem zink_ok {p : Nat} (hp : p < 6) (vc vh vp vs vt : zCV) (VH VS : Nat → zCV) : f_X5_ink vc vh vp vs vt VH VS (nI p) = ((99 : Int32) - vc.2 3 p, zA vc 3 (upd (vc.2 3) p 99), (f_X2_keep vh (VH (vh.1 0).toNatClampNeg) vc).1, va_up VH (vh.1 0).toNatClampNeg (f_X2_keep vh (VH (vh.1 0).toNatClampNeg) vc).2) := by
  unfold f_X5_ink s_X5_ink_49
  rw [if_neg (zpl5 hp), nI_clamp (by omega)]
  rfl
theorem zI_ink : zA_ink (zI k) := by
  intro V U x h hx
  obtain ⟨p, hp, rfl⟩ := vp_in_of hx (by omega)
  rw [z5k hp, (zk_st V hp).1]
  unfold kF_ink kG_ink
  rw [zink_ok hp, zink_ok (show 5 - p < 6 by omega)]
  refine ⟨rfl, ?_, ?_, zI_chg h (Nat.le_refl _) (zM_arr h.1 (by omega) (by omega) hp 99) ?_ (zkp h.2.2.1.1) (zkp h.2.2.2.1.1)⟩
  · show (99 : Int32) - U.1.2 3 (5 - p) = _
    rw [h.1.arr (by omega) (by omega) hp]
  · rw [(zk_st _ hp).1]
    show (zA V.1 3 (upd (V.1.2 3) p 99)).2 3 p = 99
    rw [zA_eq, zupd_eq]
  · obtain ⟨h1, h2, h3, h4, h5, h6, h7, h8, h9⟩ := h.2.1
    refine ⟨h1, h2, h3, h4, h5, h6, h7, fun i hi => ?_, h9⟩
    rw [zA_eq, zA_ne _ _ (by decide)]
    refine ⟨?_, (h8 i hi).2⟩
    by_cases e : i = p
    · subst e; rw [zupd_eq]; exact zlit _ 100 (by decide +kernel)
    · rw [zupd_ne _ _ e]; exact (h8 i hi).1
theorem zJ_lay0 (h : zJ c b) : zJ (f_X0_layForm c) b := by
  obtain ⟨h1, h2, h3, h4, h5, ⟨h6a, h6b, -, -⟩, h7, h8, h9⟩ := h
  refine ⟨h1, h2, Or.inl rfl, h4, h5, ⟨h6a, z0_in, ⟨0, by omega, rfl⟩, fun z => absurd rfl z⟩, h7, fun i hi => ?_, h9⟩
  obtain ⟨i1, m, m1, m2, -⟩ := h8 i hi
  exact ⟨i1, m, m1, m2, fun z => absurd (zbt_0 hi) z⟩
theorem zI_newForm : zA_newForm (zI k) := by
  intro V U h
  exact ⟨rfl, h.1.2.2.1, rfl, rfl, rfl, zI_chg h (Nat.le_refl _) (zM_lay h.1) (zJ_lay0 h.2.1) (zkp h.2.2.1.1) (zkp h.2.2.2.1.1)⟩
theorem zfree_ok {vc : zCV} (hj : ¬ vc.1 5 = 0) {r : Nat} (hr : r < 16) (h4 : vc.1 4 = nI r) (vh vp vs vt : zCV) (VH VS : Nat → zCV) : f_X5_free vc vh vp vs vt VH VS = (vc.1 4, zS (zS vc 5 0) 4 (nI ((r + 1) % 16)), (f_X2_keep vh (VH (vh.1 0).toNatClampNeg) vc).1, va_up VH (vh.1 0).toNatClampNeg (f_X2_keep vh (VH (vh.1 0).toNatClampNeg) vc).2) := by
  have e50 : s_X5_free_50 vc = zS (zS vc 5 0) 4 (nI ((r + 1) % 16)) := by
    show zS (zS vc 5 0) 4 (f_X1_rowBehind (vc.1 4)) = _
    rw [h4, (zrb r hr).1]
  unfold f_X5_free
  rw [if_neg hj, e50]
  rfl
theorem zI_free : zA_free (zI k) := by
  intro V U h
  have hJ := h.2.1
  have hM := h.1
  obtain ⟨r, hr, h4⟩ := vp_in_of hJ.1 (by omega)
  have h4d : U.1.1 4 = nI r := (hM.sc (by omega) (by omega) (by omega) (by omega)).trans h4
  have h5d : U.1.1 5 = V.1.1 5 := hM.sc (by omega) (by omega) (by omega) (by omega)
  rw [zk_c5 V hJ.2.1, zk_c4, zk_c10]
  by_cases j : V.1.1 5 = 0
  · have eV : f_X5_free V.1 V.2.1 V.2.2.1 V.2.2.2.1 V.2.2.2.2.1 V.2.2.2.2.2.1 V.2.2.2.2.2.2 = ((-5 : Int32), V.1, V.2.1, V.2.2.2.2.2.1) := by unfold f_X5_free; rw [if_pos j]
    have eU : f_X5_free U.1 U.2.1 U.2.2.1 U.2.2.2.1 U.2.2.2.2.1 U.2.2.2.2.2.1 U.2.2.2.2.2.2 = ((-5 : Int32), U.1, U.2.1, U.2.2.2.2.2.1) := by unfold f_X5_free; rw [if_pos (h5d.trans j)]
    unfold kF_free kG_free
    rw [eV, eU]
    exact ⟨rfl, Or.inr ⟨j, rfl⟩, rfl, h⟩
  · have j1 : V.1.1 5 = 1 := hJ.2.1.resolve_left j
    unfold kF_free kG_free
    rw [zfree_ok j hr h4, zfree_ok (show ¬ U.1.1 5 = 0 by rw [h5d]; exact j) hr h4d]
    refine ⟨?_, Or.inl ⟨j1, rfl, ?_, rfl⟩, rfl, zI_chg h (Nat.le_refl _) (zM_S (zM_S hM (by decide) (by decide) rfl) (by decide) (by decide) rfl) ?_ (zkp h.2.2.1.1) (zkp h.2.2.2.1.1)⟩
    · show V.1.1 4 = U.1.1 4
      rw [h4, h4d]
    · rw [zk_c4]
      show (zS (zS V.1 5 0) 4 (nI ((r + 1) % 16))).1 4 = _
      rw [zS_eq, h4, (zrb r hr).2]
    · obtain ⟨h1, h2, h3, h4', h5, h6, h7, h8, ⟨jj, q1, q2, q3⟩⟩ := hJ
      exact ⟨by rw [zS_eq]; exact vp_in_nI (by omega) (by omega), Or.inl rfl, h3, h4', h5, h6, h7, h8, ⟨jj, q1, q2, fun z => absurd rfl z⟩⟩
theorem zup_at (F : Nat → zCV) (i j : Nat) (x : zCV) : va_up F i x j = if j = i then x else F j := rfl
theorem zsave_ok {j : Nat} (hj : j < 2) (vc vh vp vs vt : zCV) (VH VS : Nat → zCV) : f_X5_save vc vh vp vs vt VH VS (nI j) = (f_X1_allPegs vc, zA vs 0 (upd (vs.2 0) j 1), va_up VS j (f_X0_copyFrom (VS j) vc)) := by
  have n1 : ¬ nI j < (0 : Int32) := nI_pos (by omega)
  have n2 : nI j < (2 : Int32) := nI_lt (a := j) (b := 2) (by omega) (by omega)
  unfold f_X5_save u_X5_save_22 s_X5_save_22 s_X5_save_31
  rw [if_neg n1, if_pos n2, nI_clamp (by omega)]
  rfl
theorem zI_save : zA_save (zI k) := by
  intro V U x h hx
  obtain ⟨j, hj, rfl⟩ := vp_in_of hx (by omega)
  obtain ⟨hM, hJ, hV, hU, hS⟩ := h
  unfold kF_save kG_save
  rw [zsave_ok hj, zsave_ok hj]
  refine ⟨(zallpegs hM hJ.2.2.2.2.1).symm, hM, hJ, hV, hU, fun i hi => ?_⟩
  show zM (va_up V.2.2.2.2.2.2 j (f_X0_copyFrom (V.2.2.2.2.2.2 j) V.1) i) (va_up U.2.2.2.2.2.2 j (f_X0_copyFrom (U.2.2.2.2.2.2 j) U.1) i) ∧ zJ (va_up V.2.2.2.2.2.2 j (f_X0_copyFrom (V.2.2.2.2.2.2 j) V.1) i) (200 * k) ∧ (zA U.2.2.2.1 0 (upd (U.2.2.2.1.2 0) j 1)).2 0 i = (zA V.2.2.2.1 0 (upd (V.2.2.2.1.2 0) j 1)).2 0 i
  rw [zup_at, zup_at, zA_eq, zA_eq]
  by_cases e : i = j
  · subst e
    rw [if_pos rfl, if_pos rfl, zupd_eq, zupd_eq]
    exact ⟨zM_copy hM, zJ_copy hJ, rfl⟩
  · rw [if_neg e, if_neg e, zupd_ne _ _ e, zupd_ne _ _ e]
    exact hS i hi
theorem zrest_ok {j : Nat} (hj : j < 2) (vc vh vp vs vt : zCV) (VH VS : Nat → zCV) : f_X5_restore vc vh vp vs vt VH VS (nI j) = if vs.2 0 j = 0 then ((-5 : Int32), vc, vh, VH) else (f_X1_allPegs (f_X0_copyFrom vc (VS j)), f_X0_copyFrom vc (VS j), (f_X2_keep vh (VH (vh.1 0).toNatClampNeg) vc).1, va_up VH (vh.1 0).toNatClampNeg (f_X2_keep vh (VH (vh.1 0).toNatClampNeg) vc).2) := by
  have n1 : ¬ nI j < (0 : Int32) := nI_pos (by omega)
  have n2 : nI j < (2 : Int32) := nI_lt (a := j) (b := 2) (by omega) (by omega)
  unfold f_X5_restore r_X5_restore_55 s_X5_restore_45 u_X5_restore_32 r_X5_restore_32
  rw [if_neg n1, if_pos n2, nI_clamp (by omega)]
theorem zI_restore : zA_restore (zI k) := by
  intro V U x h hx
  obtain ⟨j, hj, rfl⟩ := vp_in_of hx (by omega)
  obtain ⟨s1, s2, s3⟩ := h.2.2.2.2 j hj
  unfold kF_restore kG_restore
  rw [zrest_ok hj, zrest_ok hj, s3]
  by_cases q : V.2.2.2.1.2 0 j = 0
  · rw [if_pos q, if_pos q]
    exact ⟨rfl, h⟩
  · rw [if_neg q, if_neg q]
    have M2 : zM (f_X0_copyFrom V.1 (V.2.2.2.2.2.2 j)) (f_X0_copyFrom U.1 (U.2.2.2.2.2.2 j)) := zM_copy s1
    have J2 : zJ (f_X0_copyFrom V.1 (V.2.2.2.2.2.2 j)) (200 * k) := zJ_copy s2
    exact ⟨(zallpegs M2 J2.2.2.2.2.1).symm, zI_chg h (Nat.le_refl _) M2 J2 (zkp h.2.2.1.1) (zkp h.2.2.2.1.1)⟩
set_option maxRecDepth 100000 in
theorem zk_fc : ∀ x, x < 64 → ∀ p, p < 6 → f_J6_bitCount_0f7a4 (zflip (nI x) p) = f_J6_bitCount_0f7a4 (nI x) + (if zbt (nI x) p = 0 then 1 else -1) := by decide +kernel
theorem zpeg_ok {r p : Nat} (hr : r < 16) (hp : p < 6) (vc vh vp vs vt : zCV) (VH VS : Nat → zCV) : f_X5_peg vc vh vp vs vt VH VS (nI r) (nI p) = (f_J6_bitCount_0f7a4 (zflip (vc.2 1 r) p), f_X1_giveRow vc (nI r) (zflip (vc.2 1 r) p), (f_X2_keep vh (VH (vh.1 0).toNatClampNeg) vc).1, va_up VH (vh.1 0).toNatClampNeg (f_X2_keep vh (VH (vh.1 0).toNatClampNeg) vc).2) := by
  unfold f_X5_peg r_X5_peg_62 s_X5_peg_51
  rw [if_neg (zrow5 hr), if_neg (zpl5 hp), nI_clamp (by omega)]
  have e : f_X1_pegsInRow (f_X1_giveRow vc (nI r) (vc.2 1 r ^^^ ((1 : Int32) <<< ((nI p) &&& 31)))) (nI r) = f_J6_bitCount_0f7a4 (zflip (vc.2 1 r) p) := by
    unfold f_X1_pegsInRow
    rw [nI_clamp (by omega), (zgive hr _).2.2.1, zupd_eq]
    rfl
  rw [e]
  rfl
theorem zI_peg (hk : k < 61) : zA_peg (zI k) := by
  intro V U x y h hx hy
  obtain ⟨r, hr, rfl⟩ := vp_in_of hx (by omega)
  obtain ⟨p, hp, rfl⟩ := vp_in_of hy (by omega)
  have hM := h.1
  have hJ := h.2.1
  have hJr := hJ.2.2.2.2.1
  have hrow := hJr r hr
  have eT : zflip (U.1.2 1 r) (5 - p) = f_L_turned (zflip (V.1.2 1 r) p) := by rw [hM.row hr, zT_flip hrow hp]
  obtain ⟨f64, fb⟩ := zb_flip hrow hp
  rw [z5k hp, zk_stamped V hr hp, zk_row1 V hr]
  unfold kF_peg kG_peg
  rw [zpeg_ok hr hp, zpeg_ok hr (show 5 - p < 6 by omega), zk_stamped _ hr hp, eT]
  refine ⟨(zT_cnt f64).symm, zI_chg h (Nat.le_refl _) (zM_give hM hJr hr f64) (zJ_give hJ hr f64) (zkp h.2.2.1.1) (zkp h.2.2.2.1.1), ?_⟩
  obtain ⟨j, hj, ej⟩ := zof64 hrow
  have hc : f_J6_bitCount_0f7a4 (zflip (V.1.2 1 r) p) = f_J6_bitCount_0f7a4 (V.1.2 1 r) + (if zbt (V.1.2 1 r) p = 0 then 1 else -1) := by rw [ej]; exact zk_fc j hj p hp
  obtain ⟨g1, g2, g3, g4, g5⟩ := zgive (w := V.1) hr (zflip (V.1.2 1 r) p)
  have e1 : (f_X1_giveRow V.1 (nI r) (zflip (V.1.2 1 r) p)).2 1 r = zflip (V.1.2 1 r) p := by rw [g3, zupd_eq]
  by_cases q : zbt (V.1.2 1 r) p = 0
  · left
    rw [if_pos q] at hc ⊢
    refine ⟨by decide, hc, ?_⟩
    show (if zbt ((f_X1_giveRow V.1 (nI r) (zflip (V.1.2 1 r) p)).2 1 r) p = 0 then (-6 : Int32) else (f_X1_giveRow V.1 (nI r) (zflip (V.1.2 1 r) p)).2 2 (6 * r + p)) = 0
    rw [e1, fb p hp, if_pos rfl, if_pos q, if_neg (by decide), g5 p hp, if_pos q]
  · right
    rw [if_neg q] at hc ⊢
    obtain ⟨s, x, y, z, n1, n2, n3, n4, n5, n6, n7⟩ := hJ.2.2.2.2.2.2.1
    obtain ⟨t, ht, et⟩ := n7 r p hr hp q
    refine ⟨?_, hc, ?_⟩
    · rw [et]; exact nI_pos (by omega)
    show (if zbt ((f_X1_giveRow V.1 (nI r) (zflip (V.1.2 1 r) p)).2 1 r) p = 0 then (-6 : Int32) else (f_X1_giveRow V.1 (nI r) (zflip (V.1.2 1 r) p)).2 2 (6 * r + p)) = -6
    rw [e1, fb p hp, if_pos rfl, if_neg q, if_pos rfl]
end ZOP
