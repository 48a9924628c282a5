/-! The best peg out; a new clerk. -/
theorem zSame.tr {u v w : zCV} (h : zSame u v) (h2 : zSame v w) : zSame u w := by
  obtain ⟨a1, a2, a3, a4, a5, a6, a7⟩ := h
  obtain ⟨b1, b2, b3, b4, b5, b6, b7⟩ := h2
  exact ⟨b1.trans a1, b2.trans a2, fun k hk => (b3 k hk).trans (a3 k hk), b4.trans a4, b5.trans a5, b6.trans a6, b7.trans a7⟩
theorem zbo6 (n i : Nat) (x1 x2 : Int32) (w : zCV) : f_X6_bestOut_L13 (n + 1) i x1 x2 w = if ((w.2 0) ((40 : Int32) + (nI i)).toNatClampNeg) = (-6 : Int32) then f_X6_bestOut_L13 n (i + 1) x1 x2 w else if (r_X6_bestOut_52 i w).1 ≤ x2 then f_X6_bestOut_L13 n (i + 1) x1 x2 (s_X6_bestOut_67 i w) else f_X6_bestOut_L13 n (i + 1) (nI i) (r_X6_bestOut_52 i w).1 (s_X6_bestOut_67 i w) := by
  rw [f_X6_bestOut_L13]
  by_cases y : (r_X6_bestOut_52 i w).1 ≤ x2
  · simp only [if_pos y]
  · simp only [if_neg y]
section ZOE
variable {vc vh vp vs : zCV} {VH VS : Nat → zCV} {m : zCV} {b : Nat}
theorem zbo1 {w : zCV} (hE : zE vc (w.2 0)) (hV : zV vc b) (hb : b + 6 * 64 < 2 ^ 31) {r p : Nat} (hr : r < 16) (hp : p < 6) (hz : ¬ zbit (vc.2 1 r) p = (0 : Int32)) (wt : zCV) :
    (r_X6_bestOut_52 (6 * r + p) w).1 = (r_X5_bestOut_64 vc vh vp vs VH VS r p wt).1 ∧ zSame w (s_X6_bestOut_67 (6 * r + p) w) := by
  have ix : ((40 : Int32) + (nI (6 * r + p))).toNatClampNeg = 40 + 6 * r + p := by
    rw [zix (b := 40) (s := 6 * r + p) (40 : Int32) rfl (by omega)]; omega
  have e1 : (f_X0_copyFrom wt vc).2 1 r = vc.2 1 r := (zcp wt vc).2.2.1 r hr
  obtain ⟨E2, V2⟩ := zflipR hr hp (zE_copy wt hE) (zV_copy wt hV)
  rw [e1, if_neg hz] at E2
  rw [e1] at V2
  have E3 : zE (f_X1_giveRow (f_X0_copyFrom wt vc) (nI r) (zflip (vc.2 1 r) p)) ((s_X6_bestOut_47 (6 * r + p) w).2 0) := by
    unfold s_X6_bestOut_47
    rw [zA_eq, ix]; exact E2
  obtain ⟨z1, z2⟩ := zifs E3 V2 (n := 64) (by omega) (by omega) hb (p1 := 1) (by decide) (by decide)
  rw [if_neg (show ¬ (1 : Int32) = 0 by decide), if_pos rfl, show (f_X1_giveRow (f_X0_copyFrom wt vc) (nI r) (zflip (vc.2 1 r) p)).1 11 = vc.1 11 by rw [eat_give]; exact (zcp wt vc).1 11 (by omega) (by omega)] at z1
  have e5 : (r_X5_bestOut_64 vc vh vp vs VH VS r p wt).1 = (f_X0_makeSteps (f_X1_giveRow (f_X0_copyFrom wt vc) (nI r) (zflip (vc.2 1 r) p)) (nI 64)).2.1 11 - vc.1 11 := by
    unfold r_X5_bestOut_64
    rw [nI_clamp (n := r) (by omega)]
    rfl
  refine ⟨z1.trans e5.symm, ?_⟩
  obtain ⟨a1, a2, a3, a4, a5, a6, a7⟩ := z2
  have u : ∀ i, i ≠ 0 → (s_X6_bestOut_47 (6 * r + p) w).2 i = w.2 i := fun i hi => zA_ne _ _ hi
  have v : ∀ i, i ≠ 0 → (s_X6_bestOut_67 (6 * r + p) w).2 i = (r_X6_bestOut_52 (6 * r + p) w).2.2 i := fun i hi => zA_ne _ _ hi
  refine ⟨a1, a2, fun k hk => ?_, (v 2 (by decide)).trans (a4.trans (u 2 (by decide))), (v 3 (by decide)).trans (a5.trans (u 3 (by decide))), (v 4 (by decide)).trans (a6.trans (u 4 (by decide))), (v 5 (by decide)).trans (a7.trans (u 5 (by decide)))⟩
  have e67 : (s_X6_bestOut_67 (6 * r + p) w).2 0 = upd ((r_X6_bestOut_52 (6 * r + p) w).2.2 0) (40 + 6 * r + p) (w.2 0 (40 + 6 * r + p)) := by
    unfold s_X6_bestOut_67
    rw [zA_eq, ix]
  have e47 : (s_X6_bestOut_47 (6 * r + p) w).2 0 = upd (w.2 0) (40 + 6 * r + p) (-6 : Int32) := by
    unfold s_X6_bestOut_47
    rw [zA_eq, ix]
  rw [e67]
  by_cases e : k = 40 + 6 * r + p
  · subst e; rw [zupd_eq]
  · rw [zupd_ne _ _ e]
    refine (a3 k hk).trans ?_
    rw [e47, zupd_ne _ _ e]
theorem zboI (hE : zE vc (m.2 0)) (hV : zV vc b) (hb : b + 6 * 64 < 2 ^ 31) {r : Nat} (hr : r < 16) (N : Nat) : ∀ (n p : Nat) (x1 x2 : Int32) (wt w : zCV), p + n = 6 → zSame m w →
    ∃ w', zSame m w' ∧ f_X6_bestOut_L13 (n + N) (6 * r + p) x1 x2 w = f_X6_bestOut_L13 N (6 * r + 6) (f_X5_bestOut_L22 vc vh vp vs VH VS r n p x1 x2 wt).1 (f_X5_bestOut_L22 vc vh vp vs VH VS r n p x1 x2 wt).2.1 w' := by
  intro n
  induction n with
  | zero =>
    intro p x1 x2 wt w hp hs
    refine ⟨w, hs, ?_⟩
    rw [Nat.zero_add, show p = 6 by omega]
    rfl
  | succ n ih =>
    intro p x1 x2 wt w hp hs
    rw [show n + 1 + N = (n + N) + 1 by omega]
    rw [zbo6]
    unfold f_X5_bestOut_L22
    have hEw : zE vc (w.2 0) := zE_congr hE hs.2.2.1
    have ix : ((40 : Int32) + (nI (6 * r + p))).toNatClampNeg = 40 + 6 * r + p := by
      rw [zix (b := 40) (s := 6 * r + p) (40 : Int32) rfl (by omega)]; omega
    rw [ix, hEw.peg hr (show p < 6 by omega), show r_X5_bestOut_39 vc r p = _ from zhas1 vc hr]
    by_cases z : zbit (vc.2 1 r) p = (0 : Int32)
    · rw [if_pos z, if_pos z, if_pos rfl, if_pos rfl]
      exact ih (p + 1) x1 x2 wt w (by omega) hs
    · obtain ⟨j, hj, ej⟩ := hV.2.2.2.2.2 r p hr (by omega) z
      rw [if_neg z, if_neg z, if_neg (show ¬ (1 : Int32) = 0 by decide), ej, if_neg (znI_ne (by omega))]
      obtain ⟨q1, q2⟩ := zbo1 (vh := vh) (vp := vp) (vs := vs) (VH := VH) (VS := VS) hEw hV hb hr (show p < 6 by omega) z wt
      rw [q1]
      have hs2 := hs.tr q2
      by_cases y : (r_X5_bestOut_64 vc vh vp vs VH VS r p wt).1 ≤ x2
      · rw [if_pos y, if_pos y]
        exact ih (p + 1) x1 x2 _ _ (by omega) hs2
      · rw [if_neg y, if_neg y, show (nI r * (6 : Int32)) + nI p = nI (6 * r + p) by rw [show (6 : Int32) = nI 6 from rfl, znI_mul, nI_add, Nat.mul_comm]]
        exact ih (p + 1) _ _ _ _ (by omega) hs2
theorem zboO (hE : zE vc (m.2 0)) (hV : zV vc b) (hb : b + 6 * 64 < 2 ^ 31) : ∀ (n r : Nat) (x1 x2 : Int32) (wt w : zCV), r + n = 16 → zSame m w →
    (f_X6_bestOut_L13 (6 * n) (6 * r) x1 x2 w).1 = (f_X5_bestOut_L13 vc vh vp vs VH VS n r x1 x2 wt).1 ∧ zSame m (f_X6_bestOut_L13 (6 * n) (6 * r) x1 x2 w).2.2 := by
  intro n
  induction n with
  | zero => intro r x1 x2 wt w _ hs; exact ⟨rfl, hs⟩
  | succ n ih =>
    intro r x1 x2 wt w hr hs
    obtain ⟨w', h1, h2⟩ := zboI (vh := vh) (vp := vp) (vs := vs) (VH := VH) (VS := VS) hE hV hb (show r < 16 by omega) (6 * n) 6 0 x1 x2 wt w (by omega) hs
    rw [show 6 * (n + 1) = 6 + 6 * n by omega, show 6 * r = 6 * r + 0 by omega, h2]
    unfold f_X5_bestOut_L13
    rw [zfu_eq, show 6 * r + 6 = 6 * (r + 1) by omega]
    exact ih (r + 1) _ _ _ w' (by omega) h1
end ZOE
theorem zR_bestOut : zSim_bestOut zR := by
  intro vc vh vp vs vt VH VS m h
  obtain ⟨s, hs, h10, hE, hV⟩ := h.1
  have e1 := (zR_ifStepped vc vh vp vs vt VH VS m (64 : Int32) (1 : Int32) h).1
  obtain ⟨-, z2⟩ := zifs hE hV (n := 64) (by omega) (by omega) (by omega) (p1 := 1) (by decide) (by decide)
  have hS : zSame m (r_X6_bestOut_7 m).2 := z2
  unfold f_X5_bestOut f_X6_bestOut
  rw [zfu_eq, zfu_eq, show (r_X5_bestOut_7 vc vh vp vs vt VH VS).1 = (r_X6_bestOut_7 m).1 from e1]
  obtain ⟨a1, a2⟩ := zboO (vh := vh) (vp := vp) (vs := vs) (VH := VH) (VS := VS) hE hV (by omega) 16 0 (-6 : Int32) (r_X6_bestOut_7 m).1 (r_X5_bestOut_7 vc vh vp vs vt VH VS).2 (r_X6_bestOut_7 m).2 (by omega) hS
  exact ⟨a1.symm, h.same a2⟩
