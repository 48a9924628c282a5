/-! The calls that change, one by one. -/
theorem zlt_lit {x y : Int32} {a : Int} (h : y.toInt = a) : x < y ↔ x.toInt < a := by rw [Int32.lt_iff_toInt_lt, h]
theorem zle_lit {x y : Int32} {a : Int} (h : y.toInt = a) : x ≤ y ↔ x.toInt ≤ a := by rw [Int32.le_iff_toInt_le, h]
theorem zlit_le {x y : Int32} {a : Int} (h : y.toInt = a) : y ≤ x ↔ a ≤ x.toInt := by rw [Int32.le_iff_toInt_le, h]
theorem zset_iff {j : Nat} (hj : j < 4) {y : Int32} : ¬ f_X6_isSetting (nI j) y = (0 : Int32) ↔ ¬ y < zLe j ∧ y ≤ zMs j := by
  rcases (show j = 0 ∨ j = 1 ∨ j = 2 ∨ j = 3 by omega) with rfl | rfl | rfl | rfl
  · rw [show f_X6_isSetting (nI 0) y = f_X6_in y.toInt64 1 8 from rfl, zin_i (A := 1) (B := 8) rfl rfl, show zLe 0 = 1 from rfl, show zMs 0 = 8 from rfl, zlt_lit (a := 1) (by decide), zle_lit (a := 8) (by decide)]; omega
  · rw [show f_X6_isSetting (nI 1) y = f_X6_in y.toInt64 0 9 from rfl, zin_i (A := 0) (B := 9) rfl rfl, show zLe 1 = 0 from rfl, show zMs 1 = 9 from rfl, zlt_lit (a := 0) (by decide), zle_lit (a := 9) (by decide)]; omega
  · rw [show f_X6_isSetting (nI 2) y = f_X6_in y.toInt64 0 99 from rfl, zin_i (A := 0) (B := 99) rfl rfl, show zLe 2 = 0 from rfl, show zMs 2 = 99 from rfl, zlt_lit (a := 0) (by decide), zle_lit (a := 99) (by decide)]; omega
  · rw [show f_X6_isSetting (nI 3) y = f_X6_in y.toInt64 1 4 from rfl, zin_i (A := 1) (B := 4) rfl rfl, show zLe 3 = 1 from rfl, show zMs 3 = 4 from rfl, zlt_lit (a := 1) (by decide), zle_lit (a := 4) (by decide)]; omega
section ZOA
variable {vc vh vp vs vt : zCV} {VH VS : Nat → zCV} {m : zCV}
theorem zR_kept (h : zR vc vh vp vs vt VH VS m) {c' m' : zCV} (hC : zCk c' (m'.2 0)) (hf : zFr 0 (f_X6_changes m) m') : zR c' (f_X2_keep vh (VH (vh.1 0).toNatClampNeg) vc).1 vp vs vt (va_up VH (vh.1 0).toNatClampNeg (f_X2_keep vh (VH (vh.1 0).toNatClampNeg) vc).2) VS m' := by
  obtain ⟨h1, h2, h3, h4, h5, h6⟩ := h
  obtain ⟨k1, k2⟩ := zkeep h1 h2 h5
  have e1 : ∀ k, k ≠ 0 → m'.1 k = m.1 k := fun k hk => by rw [hf.1, e1_changes m k hk]
  have e2 : ∀ i, i ≠ 0 → i ≠ 2 → m'.2 i = m.2 i := fun i i0 i2 => by rw [hf.2 i i0, e2_changes m i i2]
  exact ⟨hC, zH_congr k1 (by rw [hf.1]) (hf.2 2 (by decide)), zPd_congr h3 (e1 1 (by decide)) (e2 5 (by decide) (by decide)), zSl_congr h4 (e2 3 (by decide) (by decide)) (e2 4 (by decide) (by decide)), k2, h6⟩
theorem zchg0 (m : zCV) : (f_X6_changes m).2 0 = m.2 0 := e2_changes m 0 (by decide)
theorem zR_order : zSim_order zR := by
  intro vc vh vp vs vt VH VS m p0 h
  obtain ⟨s, hs, h10, hE, hV⟩ := h.1
  have hE1 : zE vc ((f_X6_changes m).2 0) := by rw [zchg0]; exact hE
  unfold f_X5_order f_X6_order
  by_cases q : f_X6_in p0.toInt64 (0 : Int64) (63 : Int64) = (0 : Int32)
  · have hn := (not_congr (zin_i (x := p0) (A := 0) (B := 63) (a := 0) (b := 63) rfl rfl)).mp (fun z => z q)
    rw [if_pos q]
    by_cases a : p0 < 0
    · rw [if_pos a]; exact ⟨rfl, h⟩
    · rw [if_neg a]
      rw [zlt_lit (a := 0) (by decide)] at a
      rw [if_neg (by rw [zlt_lit (a := 64) (by decide)]; omega)]; exact ⟨rfl, h⟩
  · have hn := (zin_i (x := p0) (A := 0) (B := 63) (a := 0) (b := 63) rfl rfl).mp q
    rw [if_neg q, if_neg (by rw [zlt_lit (a := 0) (by decide)]; omega), if_pos (by rw [zlt_lit (a := 64) (by decide)]; omega)]
    refine ⟨(hE1.sc (show 4 ≤ 6 by omega) (by omega)).symm, zR_kept h ⟨s, hs, h10, ?_, zV_S hV _ (by decide) (by decide) (Or.inl (by decide))⟩ zFr.wr⟩
    exact zR_S hE1 6 (by omega) (by omega) rfl
theorem zR_set : zSim_set zR := by
  intro vc vh vp vs vt VH VS m p0 p1 h
  obtain ⟨s, hs, h10, hE, hV⟩ := h.1
  have hE1 : zE vc ((f_X6_changes m).2 0) := by rw [zchg0]; exact hE
  unfold f_X5_set f_X6_set
  by_cases a : p0 < 0
  · have e : f_X6_isSetting p0 p1 = 0 := by
      unfold f_X6_isSetting
      rw [if_neg (fun z => by rw [z] at a; exact absurd a (by decide)), if_neg (fun z => by rw [z] at a; exact absurd a (by decide)), if_neg (fun z => by rw [z] at a; exact absurd a (by decide)), if_neg (fun z => by rw [z] at a; exact absurd a (by decide))]
    rw [if_pos a, if_pos e]; exact ⟨rfl, h⟩
  rw [if_neg a]
  by_cases a2 : (4 : Int32) ≤ p0
  · have e : f_X6_isSetting p0 p1 = 0 := by
      unfold f_X6_isSetting
      rw [if_neg (fun z => by rw [z] at a2; exact absurd a2 (by decide)), if_neg (fun z => by rw [z] at a2; exact absurd a2 (by decide)), if_neg (fun z => by rw [z] at a2; exact absurd a2 (by decide)), if_neg (fun z => by rw [z] at a2; exact absurd a2 (by decide))]
    rw [if_pos a2, if_pos e]; exact ⟨rfl, h⟩
  rw [if_neg a2]
  obtain ⟨j, hj, rfl⟩ := vp_in_of (zin_lh a a2) (by omega)
  have i0 : (nI j).toNatClampNeg = j := nI_clamp (by omega)
  rw [i0]
  by_cases q : f_X6_isSetting (nI j) p1 = 0
  · have hn := (not_congr (zset_iff hj (y := p1))).mp (fun z => z q)
    rw [if_pos q]
    by_cases b1 : p1 < zLe j
    · rw [if_pos b1]; exact ⟨rfl, h⟩
    · rw [if_neg b1, if_neg (fun z => hn ⟨b1, z⟩)]; exact ⟨rfl, h⟩
  · obtain ⟨b1, b2⟩ := (zset_iff hj).mp q
    rw [if_neg q, if_neg b1, if_pos b2]
    have E2 : zE (s_X5_set_60 vc (nI j) p1) ((s_X6_set_28 m (nI j) p1).2 0) := zR_A (m := f_X6_changes m) hE1 0 0 4 (by omega) hj i0 (by rw [i0, Nat.zero_add]) rfl
    refine ⟨(hE1.set hj).symm, zR_kept h ⟨s, hs, h10, E2, ?_⟩ zFr.wr⟩
    obtain ⟨v1, v2, v3, v4, v5, v6⟩ := hV
    refine ⟨v1, v2, v3, ?_, v5, v6⟩
    unfold s_X5_set_60
    rw [zA_eq, i0]
    by_cases z : j = 0
    · subst z
      rw [zupd_eq, vp_in_iff]
      rw [show zLe 0 = 1 from rfl, zlt_lit (a := 1) (by decide)] at b1
      rw [show zMs 0 = 8 from rfl, zle_lit (a := 8) (by decide)] at b2
      omega
    · rw [zupd_ne _ _ (Ne.symm z)]; exact v4
theorem zR_ink : zSim_ink zR := by
  intro vc vh vp vs vt VH VS m p0 h
  obtain ⟨s, hs, h10, hE, hV⟩ := h.1
  have hE1 : zE vc ((f_X6_changes m).2 0) := by rw [zchg0]; exact hE
  unfold f_X5_ink f_X6_ink
  by_cases a : vp_in p0 6
  · rw [if_neg (zplace5_iff.mpr a), if_neg (zplace_iff.mpr a)]
    obtain ⟨p, hp, rfl⟩ := vp_in_of a (by omega)
    have i0 : (nI p).toNatClampNeg = p := nI_clamp (by omega)
    have i16 : ((16 : Int32) + nI p).toNatClampNeg = 16 + p := zix (16 : Int32) rfl (by omega)
    have E2 : zE (s_X5_ink_49 vc (nI p)) ((s_X6_ink_36 m (nI p)).2 0) := zR_A (m := f_X6_changes m) hE1 3 16 6 (by omega) hp i0 i16 rfl
    refine ⟨?_, zR_kept h ⟨s, hs, h10, E2, zV_of hV rfl rfl (Or.inl rfl) (zA_ne _ _ (by decide)) (zA_ne _ _ (by decide)) (zA_ne _ _ (by decide))⟩ zFr.wr⟩
    show (99 : Int32) - vc.2 3 (nI p).toNatClampNeg = (99 : Int32) - (f_X6_changes m).2 0 ((16 : Int32) + nI p).toNatClampNeg
    rw [i0, i16, hE1.ink hp]
  · rw [if_pos (Classical.byContradiction fun z => a (zplace5_iff.mp z)), if_pos (Classical.byContradiction fun z => a (zplace_iff.mp z))]
    exact ⟨rfl, h⟩
theorem zR_newForm : zSim_newForm zR := by
  intro vc vh vp vs vt VH VS m h
  obtain ⟨s, hs, h10, hE, hV⟩ := h.1
  have hE1 : zE vc ((f_X6_changes m).2 0) := by rw [zchg0]; exact hE
  unfold f_X5_newForm f_X6_newForm
  exact ⟨(hE1.sc (show 4 ≤ 7 by omega) (by omega)).symm, zR_kept h ⟨s, hs, ((zlay_fr vc).1 10 (by decide) (by decide) (by decide)).trans h10, zlay hE1, zlayV hV⟩ (zFr_newOne _)⟩
theorem zR_free : zSim_free zR := by
  intro vc vh vp vs vt VH VS m h
  obtain ⟨s, hs, h10, hE, hV⟩ := h.1
  have hE1 : zE vc ((f_X6_changes m).2 0) := by rw [zchg0]; exact hE
  unfold f_X5_free f_X6_free
  rw [hE.sc (show 4 ≤ 5 by omega) (by omega)]
  by_cases a : vc.1 5 = 0
  · rw [if_pos a, if_pos a]; exact ⟨rfl, h⟩
  · rw [if_neg a, if_neg a]
    obtain ⟨r, hr, h4⟩ := vp_in_of hV.1 (by omega)
    have E2 : zE (s_X5_free_40 vc) ((s_X6_free_29 m).2 0) := zR_S (m := f_X6_changes m) hE1 5 (by omega) (by omega) rfl
    have e50 : s_X5_free_50 vc = zS (s_X5_free_40 vc) 4 (nI ((r + 1) % 16)) := by
      show zS (s_X5_free_40 vc) 4 (f_X1_rowBehind (vc.1 4)) = _
      rw [h4, (zrb r hr).1]
    refine ⟨(hE1.sc (show 4 ≤ 4 by omega) (by omega)).symm, ?_⟩
    refine zR_kept h ⟨s, hs, ?_, ?_, ?_⟩ (zFr.tr zFr.wr zFr.wr)
    · rw [show (s_X5_free_50 vc).1 10 = vc.1 10 from rfl]; exact h10
    · rw [show s_X5_free_50 vc = _ from e50]
      refine zR_S (m := s_X6_free_29 m) E2 4 (by omega) (by omega) ?_
      show ((((f_X6_changes m).2 0 4) + (1 : Int32)) - (((((f_X6_changes m).2 0 4) + (1 : Int32)) / (16 : Int32)) * (16 : Int32))) = _
      rw [hE1.sc (show 4 ≤ 4 by omega) (by omega), h4, (zrb r hr).2]
    · rw [show s_X5_free_50 vc = _ from e50]
      obtain ⟨-, -, v3, v4, v5, v6⟩ := hV
      exact ⟨by rw [zS_eq]; exact vp_in_nI (by omega) (by omega), Or.inl rfl, v3, v4, v5, v6⟩
theorem zR_step : zSim_step zR := by
  intro vc vh vp vs vt VH VS m p0 h
  obtain ⟨s, hs, h10, hE, hV⟩ := h.1
  have hE1 : zE vc ((f_X6_changes m).2 0) := by rw [zchg0]; exact hE
  unfold f_X5_step f_X6_step
  rw [hE.sc (show 4 ≤ 5 by omega) (by omega), hE.sc (show 4 ≤ 10 by omega) (by omega)]
  by_cases q : f_X6_in p0.toInt64 (1 : Int64) (200 : Int64) = (0 : Int32)
  · have hn := (not_congr (zin_i (x := p0) (A := 1) (B := 200) (a := 1) (b := 200) rfl rfl)).mp (fun z => z q)
    rw [if_pos q]
    by_cases a : p0 < 1
    · rw [if_pos a]; exact ⟨rfl, h⟩
    · rw [if_neg a]
      rw [zlt_lit (a := 1) (by decide)] at a
      rw [if_neg (by rw [zle_lit (a := 200) (by decide)]; omega)]; exact ⟨rfl, h⟩
  · have hn := (zin_i (x := p0) (A := 1) (B := 200) (a := 1) (b := 200) rfl rfl).mp q
    rw [if_neg q, if_neg (by rw [zlt_lit (a := 1) (by decide)]; omega), if_pos (by rw [zle_lit (a := 200) (by decide)]; omega)]
    obtain ⟨n, hn2, rfl⟩ := vp_in_of (x := p0) (n := 201) (vp_in_iff.mpr (by omega)) (by omega)
    rcases hV.2.1 with j | j
    · rw [j, if_pos rfl, if_neg (show ¬ (0 : Int32) = 1 by decide)]
      by_cases t : (vc.1 10 + nI n) ≤ (99999 : Int32)
      · rw [if_pos t, if_pos t]
        have t2 : s + n ≤ 99999 := by
          rw [h10, nI_add, show (99999 : Int32) = nI 99999 from rfl, nI_leI (by omega) (by omega)] at t
          exact t
        obtain ⟨a1, a2, d, a4, a5, a6, a3⟩ := zsteps n 0 vc (f_X6_changes m) (6 * s) (by omega) hE1 hV
        have i0 : (nI n).toNatClampNeg = n := nI_clamp (by omega)
        have e5 : r_X5_step_61 vc (nI n) = f_X0_makeSteps_L2 n 0 vc := by
          unfold r_X5_step_61 f_X0_makeSteps
          rw [i0, zfu_eq]
        have e6 : r_X6_step_51 m (nI n) = f_X6_stepsUpTo_L2 n 0 (f_X6_changes m) := by
          unfold r_X6_step_51 f_X6_stepsUpTo s_X6_step_46
          rw [i0, zfu_eq]
        rw [e5, e6]
        exact ⟨a1.symm, zR_kept h ⟨s + d, by omega, by rw [a6, h10, nI_add], a2, a3.le (by omega)⟩ (by rw [← e6]; exact zFr_stepsUpTo _ _)⟩
      · rw [if_neg t, if_neg t]; exact ⟨rfl, h⟩
    · rw [j, if_neg (show ¬ (1 : Int32) = 0 by decide), if_pos rfl]; exact ⟨rfl, h⟩
end ZOA
