/-! Steps at once on the first, one by one on the second. -/
section ZSS
variable {k : Nat}
def zJJ (k : Nat) (V : zPV) (n d : Nat) (U : zPV) : Prop := n ≤ 200 ∧ 1 ≤ n ∧ d ≤ n ∧ V.1.1 5 = 0 ∧ zJ V.1 (200 * k) ∧ zH V ∧ zH U ∧ zSl k V U ∧ ∃ (w : zCV) (e r : Nat), zM w U.1 ∧ zJ w (200 * k + e) ∧ e ≤ n ∧ w.1 10 = V.1.1 10 + nI d ∧ r < 16 ∧ V.1.1 4 = nI r ∧ w.1 4 = nI ((r + d) % 16) ∧ ((w.1 5 = 0 ∧ e ≤ d ∧ f_X0_makeSteps_L2 n 0 V.1 = f_X0_makeSteps_L2 (n - d) d w) ∨ (¬ w.1 5 = 0 ∧ d < n ∧ f_X0_makeSteps_L2 n 0 V.1 = (nI d, w)))
theorem zstep_ok {vc : zCV} {n : Nat} (h1 : 1 ≤ n) (h2 : n ≤ 200) (hj : vc.1 5 = 0) {s : Nat} (hs : vc.1 10 = nI s) (hb : s + n ≤ 99999) (vh vp vs vt : zCV) (VH VS : Nat → zCV) : f_X5_step vc vh vp vs vt VH VS (nI n) = ((f_X0_makeSteps_L2 n 0 vc).1, (f_X0_makeSteps_L2 n 0 vc).2, (f_X2_keep vh (VH (vh.1 0).toNatClampNeg) vc).1, va_up VH (vh.1 0).toNatClampNeg (f_X2_keep vh (VH (vh.1 0).toNatClampNeg) vc).2) := by
  have n1 : ¬ nI n < (1 : Int32) := nI_nlt (b := 1) (by omega) (by omega)
  have n2 : nI n ≤ (200 : Int32) := nI_le (b := 200) (by omega) (by omega)
  have n3 : (vc.1 10) + nI n ≤ (99999 : Int32) := by
    rw [hs, nI_add]
    exact nI_le (b := 99999) (by omega) (by omega)
  unfold f_X5_step r_X5_step_61
  rw [if_neg n1, if_pos n2, if_pos hj, if_pos n3, zmake_eq vc (by omega)]
  rfl
theorem zI_step0 (hk : k < 61) : zA_step0 (zI k) (zJJ k) := by
  intro V U n h h1 h2
  have hM := h.1
  have hJ := h.2.1
  have h5d : U.1.1 5 = V.1.1 5 := hM.sc (by omega) (by omega) (by omega) (by omega)
  rw [zk_c5 V hJ.2.1]
  rcases hJ.2.1 with j | j
  · right
    obtain ⟨r, hr, h4⟩ := vp_in_of hJ.1 (by omega)
    refine ⟨by rw [j]; decide, h2, h1, by omega, j, hJ, h.2.2.1, h.2.2.2.1, h.2.2.2.2, V.1, 0, r, hM, hJ, by omega, ?_, hr, h4, ?_, Or.inl ⟨j, by omega, rfl⟩⟩
    · rw [nI_0, Int32.add_zero]
    · rw [h4, show (r + 0) % 16 = r by omega]
  · left
    have n1 : ¬ nI n < (1 : Int32) := nI_nlt (b := 1) (by omega) (by omega)
    have n2 : nI n ≤ (200 : Int32) := nI_le (b := 200) (by omega) (by omega)
    have j0 : ¬ V.1.1 5 = 0 := by rw [j]; decide
    have eV : f_X5_step V.1 V.2.1 V.2.2.1 V.2.2.2.1 V.2.2.2.2.1 V.2.2.2.2.2.1 V.2.2.2.2.2.2 (nI n) = ((-5 : Int32), V.1, V.2.1, V.2.2.2.2.2.1) := by
      unfold f_X5_step
      rw [if_neg n1, if_pos n2, if_neg j0]
    have eU : f_X5_step U.1 U.2.1 U.2.2.1 U.2.2.2.1 U.2.2.2.2.1 U.2.2.2.2.2.1 U.2.2.2.2.2.2 (nI n) = ((-5 : Int32), U.1, U.2.1, U.2.2.2.2.2.1) := by
      unfold f_X5_step
      rw [if_neg n1, if_pos n2, if_neg (by rw [h5d]; exact j0)]
    unfold kF_step kG_step
    rw [eV, eU]
    exact ⟨j, rfl, rfl, h⟩
theorem zI_step1 (hk : k < 61) : zA_step1 (zJJ k) := by
  intro V n d U h
  obtain ⟨n200, n1, hd, hj, hJ, hV, hU, hS, w, e, r, hM, hJw, he, h10, hr, h4, h4w, hc⟩ := h
  have h5d : U.1.1 5 = w.1 5 := hM.sc (by omega) (by omega) (by omega) (by omega)
  have hI9 : zI (k + 1) (w, V.2.1, V.2.2.1, V.2.2.2.1, V.2.2.2.2.1, V.2.2.2.2.2.1, V.2.2.2.2.2.2) U := ⟨hM, hJw.le (by omega), hV, hU, hS.le (by omega)⟩
  refine ⟨hd, (zI_ok _ _ hI9).2, fun hdn hc5 => ?_⟩
  have hu5 : U.1.1 5 = 0 ∨ U.1.1 5 = 1 := by rw [h5d]; exact hJw.2.1
  rw [zk_c5 U hu5, h5d] at hc5
  obtain ⟨-, ed, eL⟩ : w.1 5 = 0 ∧ e ≤ d ∧ f_X0_makeSteps_L2 n 0 V.1 = f_X0_makeSteps_L2 (n - d) d w := by
    rcases hc with hc | hc
    · exact hc
    · exact absurd hc5 hc.1
  obtain ⟨s', x, y, z, q1, q2, -⟩ := hJw.2.2.2.2.2.2.1
  have hu10 : U.1.1 10 = nI s' := (hM.sc (by omega) (by omega) (by omega) (by omega)).trans q2
  have eU := zstep_ok (vc := U.1) (n := 1) (by omega) (by omega) (h5d.trans hc5) hu10 (by omega) U.2.1 U.2.2.1 U.2.2.2.1 U.2.2.2.2.1 U.2.2.2.2.2.1 U.2.2.2.2.2.2
  obtain ⟨a1, a2, a3, a4⟩ := zone hM hJw (by omega)
  have eU1 : f_X0_makeSteps_L2 1 0 U.1 = if (f_X0_makeOneStep U.1).1 = (0 : Int32) then (nI 0, (f_X0_makeOneStep U.1).2) else (nI 1, (f_X0_makeOneStep U.1).2) := rfl
  have eLs : f_X0_makeSteps_L2 (n - d) d w = if (f_X0_makeOneStep w).1 = (0 : Int32) then (nI d, (f_X0_makeOneStep w).2) else f_X0_makeSteps_L2 (n - (d + 1)) (d + 1) (f_X0_makeOneStep w).2 := by
    rw [show n - d = (n - (d + 1)) + 1 by omega]
    rfl
  unfold kF_step kG_step
  rw [show (1 : Int32) = nI 1 from rfl, eU, eU1, a1]
  have hU' : ∀ (X : zCV) (W : Nat → zCV), zH (X, (f_X2_keep U.2.1 (U.2.2.2.2.2.1 (U.2.1.1 0).toNatClampNeg) U.1).1, U.2.2.1, U.2.2.2.1, U.2.2.2.2.1, W, U.2.2.2.2.2.2) := fun X W => ⟨zkp hU.1, hU.2⟩
  rcases a4 with ⟨z1, z2, z3, z4, -⟩ | ⟨z1, -, -, z2, z3, r2, hr2, h4r, h4n⟩
  · right
    rw [z1, if_pos rfl] at eLs
    rw [z1, if_pos rfl]
    refine ⟨rfl, ⟨n200, n1, hd, hj, hJ, hV, hU' _ _, hS, (f_X0_makeOneStep w).2, e + 1, r, a2, a3.le (by omega), by omega, by rw [z2]; exact h10, hr, h4, by rw [z3]; exact h4w, Or.inr ⟨z4, hdn, by rw [eL, eLs]⟩⟩, ?_⟩
    rw [zk_c5 _ (show (f_X0_makeOneStep U.1).2.1 5 = 0 ∨ (f_X0_makeOneStep U.1).2.1 5 = 1 by rw [a2.sc (by omega) (by omega) (by omega) (by omega)]; exact a3.2.1)]
    show ¬ (f_X0_makeOneStep U.1).2.1 5 = 0
    rw [a2.sc (by omega) (by omega) (by omega) (by omega)]
    exact z4
  · left
    rw [z1, if_neg (show ¬ (1 : Int32) = 0 by decide)] at eLs
    rw [z1, if_neg (show ¬ (1 : Int32) = 0 by decide)]
    refine ⟨rfl, n200, n1, hdn, hj, hJ, hV, hU' _ _, hS, (f_X0_makeOneStep w).2, e + 1, r, a2, a3.le (by omega), by omega, ?_, hr, h4, ?_, Or.inl ⟨z2, by omega, by rw [eL, eLs]⟩⟩
    · rw [z3, h10, Int32.add_assoc, show (1 : Int32) = nI 1 from rfl, nI_add]
    · have : nI r2 = nI ((r + d) % 16) := h4r.symm.trans h4w
      rw [nI_eq (by omega) (by omega)] at this
      rw [h4n, this, show ((r + d) % 16 + 1) % 16 = (r + (d + 1)) % 16 by omega]
theorem zI_step2 (hk : k < 61) : zA_step2 (zI (k + 1)) (zJJ k) := by
  intro V n d U h hx
  obtain ⟨n200, n1, hd, hj, hJ, hV, hU, hS, w, e, r, hM, hJw, he, h10, hr, h4, h4w, hc⟩ := h
  have h5d : U.1.1 5 = w.1 5 := hM.sc (by omega) (by omega) (by omega) (by omega)
  have hu5 : U.1.1 5 = 0 ∨ U.1.1 5 = 1 := by rw [h5d]; exact hJw.2.1
  rw [zk_c5 U hu5, h5d] at hx
  have eL : f_X0_makeSteps_L2 n 0 V.1 = (nI d, w) ∧ (d = n ↔ w.1 5 = 0) := by
    rcases hc with ⟨c1, c2, c3⟩ | ⟨c1, c2, c3⟩
    · have : d = n := hx.resolve_right (fun z => z c1)
      subst this
      rw [Nat.sub_self] at c3
      exact ⟨c3, fun _ => c1, fun _ => rfl⟩
    · exact ⟨c3, fun z => by omega, fun z => absurd z c1⟩
  obtain ⟨s, x, y, z, q1, q2, -⟩ := hJ.2.2.2.2.2.2.1
  have eV := zstep_ok (vc := V.1) n1 n200 hj q2 (by omega) V.2.1 V.2.2.1 V.2.2.2.1 V.2.2.2.2.1 V.2.2.2.2.2.1 V.2.2.2.2.2.2
  unfold kF_step kG_step
  rw [eV, eL.1]
  refine ⟨rfl, h10, ?_, ?_, hM, hJw.le (by omega), ⟨zkp hV.1, hV.2⟩, hU, hS.le (by omega)⟩
  · rw [zk_c4, zk_c4]
    show w.1 4 = _
    rw [h4w, h4, nI_add]
    exact (pk_rem (a := r + d) (d := 16) (by omega) (by omega) (by omega)).symm
  · rw [zk_c5 _ (show w.1 5 = 0 ∨ w.1 5 = 1 from hJw.2.1), nI_eq (by omega) (by omega)]
    exact eL.2
end ZSS
