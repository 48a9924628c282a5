/-! Saving, restoring; rows given. -/
theorem zsaveL {s : Nat} (hs : s < 2) : ∀ (n i : Nat) (w : zCV), i + n ≤ 136 → zFr 3 w (f_X6_save_L12 (nI s) n i w) ∧ ∀ j, (f_X6_save_L12 (nI s) n i w).2 3 j = if 136 * s + i ≤ j ∧ j < 136 * s + i + n then w.2 0 (j - 136 * s) else w.2 3 j := by
  intro n
  induction n with
  | zero => intro i w _; exact ⟨zFr.rf, fun j => by rw [if_neg (by omega)]; rfl⟩
  | succ n ih =>
    intro i w hi
    unfold f_X6_save_L12
    obtain ⟨a1, a2⟩ := ih (i + 1) (s_X6_save_36 (nI s) i w) (by omega)
    have e2 : (s_X6_save_36 (nI s) i w).2 0 = w.2 0 := zA_ne _ _ (by decide)
    have e : ∀ j, (s_X6_save_36 (nI s) i w).2 3 j = if j = 136 * s + i then w.2 0 i else w.2 3 j := by
      intro j
      unfold s_X6_save_36
      rw [zA_eq, nI_clamp (n := i) (by omega), show (136 : Int32) = nI 136 from rfl, znI_mul, nI_add, nI_clamp (by omega)]
      rfl
    refine ⟨zFr.wr.tr a1, fun j => ?_⟩
    rw [a2 j, e2, e j]
    by_cases q : j = 136 * s + i
    · rw [if_neg (show ¬ (136 * s + (i + 1) ≤ j ∧ j < 136 * s + (i + 1) + n) by omega), if_pos q, if_pos (show 136 * s + i ≤ j ∧ j < 136 * s + i + (n + 1) by omega), show j - 136 * s = i by omega]
    · by_cases q2 : 136 * s + (i + 1) ≤ j ∧ j < 136 * s + (i + 1) + n
      · rw [if_pos q2, if_pos (show 136 * s + i ≤ j ∧ j < 136 * s + i + (n + 1) by omega)]
      · rw [if_neg q2, if_neg q, if_neg (show ¬ (136 * s + i ≤ j ∧ j < 136 * s + i + (n + 1)) by omega)]
theorem zrestL {s : Nat} (hs : s < 2) : ∀ (n i : Nat) (w : zCV), i + n ≤ 136 → zFr 0 w (f_X6_restore_L28 (nI s) n i w) ∧ ∀ j, (f_X6_restore_L28 (nI s) n i w).2 0 j = if i ≤ j ∧ j < i + n then w.2 3 (136 * s + j) else w.2 0 j := by
  intro n
  induction n with
  | zero => intro i w _; exact ⟨zFr.rf, fun j => by rw [if_neg (by omega)]; rfl⟩
  | succ n ih =>
    intro i w hi
    unfold f_X6_restore_L28
    obtain ⟨a1, a2⟩ := ih (i + 1) (s_X6_restore_52 (nI s) i w) (by omega)
    have e2 : (s_X6_restore_52 (nI s) i w).2 3 = w.2 3 := zA_ne _ _ (by decide)
    have e : ∀ j, (s_X6_restore_52 (nI s) i w).2 0 j = if j = i then w.2 3 (136 * s + i) else w.2 0 j := by
      intro j
      unfold s_X6_restore_52
      rw [zA_eq, nI_clamp (n := i) (by omega), show (136 : Int32) = nI 136 from rfl, znI_mul, nI_add, nI_clamp (by omega)]
      rfl
    refine ⟨zFr.wr.tr a1, fun j => ?_⟩
    rw [a2 j, e2, e j]
    by_cases q : j = i
    · subst q
      rw [if_neg (show ¬ (j + 1 ≤ j ∧ j < j + 1 + n) by omega), if_pos rfl, if_pos (show j ≤ j ∧ j < j + (n + 1) by omega)]
    · by_cases q2 : i + 1 ≤ j ∧ j < i + 1 + n
      · rw [if_pos q2, if_pos (show i ≤ j ∧ j < i + (n + 1) by omega)]
      · rw [if_neg q2, if_neg q, if_neg (show ¬ (i ≤ j ∧ j < i + (n + 1)) by omega)]
theorem zl2 {x : Int32} : (¬ x < 0 ∧ x < 2) ↔ vp_in x 2 := by
  rw [vp_in_iff, zlt_lit (a := 0) (by decide), zlt_lit (a := 2) (by decide)]; omega
theorem zR_save : zSim_save zR := by
  intro vc vh vp vs vt VH VS m p0 h
  obtain ⟨s, hs, h10, hE, hV⟩ := h.1
  unfold f_X5_save f_X6_save
  by_cases a : vp_in p0 2
  · have b := zl2.mpr a
    rw [if_neg b.1, if_pos b.2, if_neg (zslot_iff.mpr a)]
    obtain ⟨j, hj, rfl⟩ := vp_in_of a (by omega)
    have i0 : (nI j).toNatClampNeg = j := nI_clamp (by omega)
    obtain ⟨f1, f2⟩ := zsaveL hj 136 0 m (by omega)
    have e49 : s_X6_save_49 m (nI j) = zA (f_X6_save_L12 (nI j) 136 0 m) 4 (upd ((f_X6_save_L12 (nI j) 136 0 m).2 4) j (1 : Int32)) := by
      unfold s_X6_save_49
      rw [zfu_eq, i0]
    have g1 : (s_X6_save_49 m (nI j)).1 = m.1 := by rw [e49, zA_1, f1.1]
    have g2 : ∀ i, i ≠ 3 → i ≠ 4 → (s_X6_save_49 m (nI j)).2 i = m.2 i := fun i i3 i4 => by rw [e49, zA_ne _ _ i4, f1.2 i i3]
    have g3 : (s_X6_save_49 m (nI j)).2 3 = (f_X6_save_L12 (nI j) 136 0 m).2 3 := by rw [e49, zA_ne _ _ (by decide)]
    have g4 : (s_X6_save_49 m (nI j)).2 4 = upd (m.2 4) j (1 : Int32) := by rw [e49, zA_eq, f1.2 4 (by decide)]
    have hE2 : zE vc ((s_X6_save_49 m (nI j)).2 0) := by rw [g2 0 (by decide) (by decide)]; exact hE
    obtain ⟨h1, h2, h3, h4, h5, h6⟩ := h
    refine ⟨(zpegs hE2 hV (by omega)).symm, by rw [g2 0 (by decide) (by decide)]; exact h1, zH_congr h2 (by rw [g1]) (g2 2 (by decide) (by decide)), zPd_congr h3 (by rw [g1]) (g2 5 (by decide) (by decide)), fun k hk => ?_, h5, fun k hk => ?_⟩
    · show (_ ∧ _) ∨ (_ ∧ _ ∧ _)
      have u1 : (s_X5_save_31 vs (nI j)).2 0 = upd (vs.2 0) j (1 : Int32) := by
        unfold s_X5_save_31
        rw [zA_eq, i0]
        rfl
      show ((s_X5_save_31 vs (nI j)).2 0 k = 0 ∧ _) ∨ ((s_X5_save_31 vs (nI j)).2 0 k = 1 ∧ (s_X6_save_49 m (nI j)).2 4 k = 1 ∧ zCk ((va_up VS (nI j).toNatClampNeg (s_X5_save_22 vc VS (nI j))) k) (fun i => (s_X6_save_49 m (nI j)).2 3 (136 * k + i)))
      rw [u1, g4, g3, i0]
      by_cases e : k = j
      · subst e
        rw [zupd_eq, zupd_eq, va_up_self]
        refine Or.inr ⟨rfl, rfl, zCk_congr (zCk_copy _ h1) (fun i hi => ?_)⟩
        show (f_X6_save_L12 (nI k) 136 0 m).2 3 (136 * k + i) = m.2 0 i
        rw [f2, if_pos (by omega), show 136 * k + i - 136 * k = i by omega]
      · rw [zupd_ne _ _ e, zupd_ne _ _ e, va_up_ne _ _ e]
        rcases h4 k hk with z | ⟨z1, z2, z3⟩
        · exact Or.inl z
        · refine Or.inr ⟨z1, z2, zCk_congr z3 (fun i hi => ?_)⟩
          show (f_X6_save_L12 (nI j) 136 0 m).2 3 (136 * k + i) = m.2 3 (136 * k + i)
          rw [f2, if_neg (by omega)]
    · have u3 : u_X5_save_22 vc VS (nI j) = va_up VS j (f_X0_copyFrom (VS j) vc) := by
        unfold u_X5_save_22 s_X5_save_22
        rw [i0]
      show ((u_X5_save_22 vc VS (nI j) k).1 5 = 0 ∨ (u_X5_save_22 vc VS (nI j) k).1 5 = 1) ∧ ((u_X5_save_22 vc VS (nI j) k).1 8 = 0 ∨ (u_X5_save_22 vc VS (nI j) k).1 8 = 1)
      rw [u3]
      by_cases e : k = j
      · subst e; rw [va_up_self]; exact zCk_fl (zCk_copy _ h1)
      · rw [va_up_ne _ _ e]; exact h6 k hk
  · have b : ¬ (¬ p0 < 0 ∧ p0 < 2) := fun z => a (zl2.mp z)
    rw [if_pos (Classical.byContradiction fun z => a (zslot_iff.mp z))]
    by_cases c : p0 < 0
    · rw [if_pos c]; exact ⟨rfl, h⟩
    · rw [if_neg c, if_neg (fun z => b ⟨c, z⟩)]; exact ⟨rfl, h⟩
theorem zR_restore : zSim_restore zR := by
  intro vc vh vp vs vt VH VS m p0 h
  unfold f_X5_restore f_X6_restore
  by_cases a : vp_in p0 2
  · have b := zl2.mpr a
    rw [if_neg b.1, if_pos b.2, if_neg (zslot_iff.mpr a)]
    obtain ⟨j, hj, rfl⟩ := vp_in_of a (by omega)
    have i0 : (nI j).toNatClampNeg = j := nI_clamp (by omega)
    rw [i0]
    rcases h.2.2.2.1 j hj with ⟨z1, z2⟩ | ⟨z1, z2, z3⟩
    · rw [z1, z2, if_pos rfl, if_pos rfl]; exact ⟨rfl, h⟩
    · rw [z1, z2, if_neg (show ¬ (1 : Int32) = 0 by decide), if_neg (show ¬ (1 : Int32) = 0 by decide), zfu_eq]
      obtain ⟨f1, f2⟩ := zrestL hj 136 0 (s_X6_restore_23 m) (by omega)
      have h23 : (s_X6_restore_23 m).2 3 = m.2 3 := e2_changes m 3 (by decide)
      have hC : zCk (s_X5_restore_45 vc VS (nI j)) ((f_X6_restore_L28 (nI j) 136 0 (s_X6_restore_23 m)).2 0) := by
        unfold s_X5_restore_45
        rw [i0]
        refine zCk_congr (zCk_copy vc z3) (fun k hk => ?_)
        rw [f2, if_pos (by omega), h23]
      refine ⟨?_, zR_kept h hC f1⟩
      obtain ⟨s, hs, h10, hE, hV⟩ := hC
      have e6 : r_X6_restore_60 m (nI j) = f_X6_pegs (f_X6_restore_L28 (nI j) 136 0 (s_X6_restore_23 m)) := by
        unfold r_X6_restore_60
        rw [zfu_eq]
      rw [e6]
      exact (zpegs hE hV (by omega)).symm
  · have b : ¬ (¬ p0 < 0 ∧ p0 < 2) := fun z => a (zl2.mp z)
    rw [if_pos (Classical.byContradiction fun z => a (zslot_iff.mp z))]
    by_cases c : p0 < 0
    · rw [if_pos c]; exact ⟨rfl, h⟩
    · rw [if_neg c, if_neg (fun z => b ⟨c, z⟩)]; exact ⟨rfl, h⟩
/-! a row is given its pegs -/
theorem zgiveL {f : Nat → Int32} {b r : Nat} (hr : r < 16) : ∀ (n i : Nat) (c : zCV), i + n ≤ 6 → zE c f → zV c b → zE (f_X1_giveRow_L2 (nI r) n i c) f ∧ zV (f_X1_giveRow_L2 (nI r) n i c) b ∧ (f_X1_giveRow_L2 (nI r) n i c).2 1 = c.2 1 ∧ ∀ q, q < 6 → (f_X1_giveRow_L2 (nI r) n i c).2 2 (6 * r + q) = if i ≤ q ∧ q < i + n ∧ zbit (c.2 1 r) q = (0 : Int32) then (0 : Int32) else c.2 2 (6 * r + q) := by
  intro n
  induction n with
  | zero => intro i c _ hE hV; exact ⟨hE, hV, rfl, fun q _ => by rw [if_neg (by omega)]; rfl⟩
  | succ n ih =>
    intro i c hi hE hV
    unfold f_X1_giveRow_L2
    rw [show r_X1_giveRow_11 (nI r) i c = _ from zhas1 c hr]
    by_cases z : zbit (c.2 1 r) i = (0 : Int32)
    · rw [if_pos z, if_pos rfl]
      have es : s_X1_giveRow_28 (nI r) i c = zA c 2 (upd (c.2 2) (6 * r + i) (0 : Int32)) := by
        unfold s_X1_giveRow_28
        rw [zix2 hr (by omega)]
      rw [es]
      have E1 := zE_no hE hr (show i < 6 by omega) z (0 : Int32)
      have k1 : (zA c 2 (upd (c.2 2) (6 * r + i) (0 : Int32))).2 1 = c.2 1 := zA_ne _ _ (by decide)
      have V1 : zV (zA c 2 (upd (c.2 2) (6 * r + i) (0 : Int32))) b := by
        obtain ⟨v1, v2, v3, v4, v5, v6⟩ := hV
        refine ⟨v1, v2, v3, v4, by rw [k1]; exact v5, fun a q ha hq hz => ?_⟩
        rw [k1] at hz
        rw [zA_eq, zupd_ne _ _ (fun w => by
          obtain ⟨rfl, rfl⟩ : a = r ∧ q = i := ⟨by omega, by omega⟩
          exact hz z)]
        exact v6 a q ha hq hz
      obtain ⟨a1, a2, a3, a4⟩ := ih (i + 1) _ (by omega) E1 V1
      refine ⟨a1, a2, a3.trans k1, fun q hq => ?_⟩
      rw [a4 q hq, k1, zA_eq]
      by_cases e : q = i
      · subst e
        rw [if_neg (show ¬ (q + 1 ≤ q ∧ _) from fun w => by omega), zupd_eq, if_pos ⟨by omega, by omega, z⟩]
      · rw [zupd_ne _ _ (by omega)]
        by_cases w : i + 1 ≤ q ∧ q < i + 1 + n ∧ zbit (c.2 1 r) q = (0 : Int32)
        · rw [if_pos w, if_pos ⟨by omega, by omega, w.2.2⟩]
        · rw [if_neg w, if_neg (fun y => w ⟨by omega, by omega, y.2.2⟩)]
    · rw [if_neg z, if_neg (show ¬ (1 : Int32) = 0 by decide)]
      obtain ⟨a1, a2, a3, a4⟩ := ih (i + 1) c (by omega) hE hV
      refine ⟨a1, a2, a3, fun q hq => ?_⟩
      rw [a4 q hq]
      by_cases w : i + 1 ≤ q ∧ q < i + 1 + n ∧ zbit (c.2 1 r) q = (0 : Int32)
      · rw [if_pos w, if_pos ⟨by omega, by omega, w.2.2⟩]
      · rw [if_neg w, if_neg (fun y => w ⟨by
          by_cases e : q = i
          · subst e; exact absurd y.2.2 z
          · omega, by omega, y.2.2⟩)]
theorem zgive {c : zCV} {f f' : Nat → Int32} {b r : Nat} (hr : r < 16) (hE : zE c f) (hV : zV c b) {y : Int32} (hy : vp_in y 64) (ho : ∀ k, (∀ p, p < 6 → k ≠ 40 + 6 * r + p) → f' k = f k) (hn : ∀ p, p < 6 → f' (40 + 6 * r + p) = if zbit y p = (0 : Int32) then (-6 : Int32) else if zbit (c.2 1 r) p = (0 : Int32) then (0 : Int32) else c.2 2 (6 * r + p)) :
    zE (f_X1_giveRow c (nI r) y) f' ∧ zV (f_X1_giveRow c (nI r) y) b := by
  obtain ⟨a1, a2, a3, a4⟩ := zgiveL (f := f) (b := b) hr 6 0 c (by omega) hE hV
  have es : f_X1_giveRow c (nI r) y = zA (f_X1_giveRow_L2 (nI r) 6 0 c) 1 (upd ((f_X1_giveRow_L2 (nI r) 6 0 c).2 1) r y) := by
    unfold f_X1_giveRow s_X1_giveRow_41
    rw [zfu_eq, nI_clamp (by omega)]
  rw [es]
  have h2 : ∀ p, p < 6 → (f_X1_giveRow_L2 (nI r) 6 0 c).2 2 (6 * r + p) = if zbit (c.2 1 r) p = (0 : Int32) then (0 : Int32) else c.2 2 (6 * r + p) := by
    intro p hp
    rw [a4 p hp]
    by_cases z : zbit (c.2 1 r) p = (0 : Int32)
    · rw [if_pos ⟨by omega, by omega, z⟩, if_pos z]
    · rw [if_neg (fun w => z w.2.2), if_neg z]
  refine ⟨zE_row a1 hr y ho (fun p hp => by rw [hn p hp, h2 p hp]), ?_⟩
  obtain ⟨v1, v2, v3, v4, v5, v6⟩ := a2
  refine ⟨v1, v2, v3, v4, fun a ha => ?_, fun a q ha hq hz => ?_⟩
  · rw [zA_eq]
    by_cases e : a = r
    · subst e; rw [zupd_eq]; exact hy
    · rw [zupd_ne _ _ e]; exact v5 a ha
  · rw [zA_eq] at hz
    rw [zA_ne _ _ (by decide)]
    by_cases e : a = r
    · subst e
      rw [h2 q hq]
      by_cases z : zbit (c.2 1 a) q = (0 : Int32)
      · rw [if_pos z]; exact ⟨0, by omega, nI_0.symm⟩
      · rw [if_neg z]; exact hV.2.2.2.2.2 a q ha hq z
    · rw [zupd_ne _ _ e] at hz; exact v6 a q ha hq hz
/-- one peg is turned over -/
theorem zflipR {c : zCV} {f : Nat → Int32} {b r p : Nat} (hr : r < 16) (hp : p < 6) (hE : zE c f) (hV : zV c b) : zE (f_X1_giveRow c (nI r) (zflip (c.2 1 r) p)) (upd f (40 + 6 * r + p) (if zbit (c.2 1 r) p = (0 : Int32) then (0 : Int32) else (-6 : Int32))) ∧ zV (f_X1_giveRow c (nI r) (zflip (c.2 1 r) p)) b := by
  obtain ⟨x, hx, ex⟩ := zof64 (hV.2.2.2.2.1 r hr)
  refine zgive hr hE hV (by rw [ex]; exact zb_flip64 x hx p hp) (fun k hk => zupd_ne _ _ (hk p hp)) (fun q hq => ?_)
  rw [ex, zb_flip x hx p hp q hq]
  by_cases e : q = p
  · subst e
    rw [zupd_eq, if_pos rfl]
    by_cases z : zbit (nI x) q = (0 : Int32)
    · rw [if_pos z, if_pos z, if_neg (show ¬ (1 : Int32) = 0 by decide), if_pos z]
    · rw [if_neg z, if_neg z, if_pos rfl]
  · rw [zupd_ne _ _ (by omega), if_neg e, (zE_iff.mp hE).2.2.2.2.2.2 r q hr hq, ex]
    by_cases z : zbit (nI x) q = (0 : Int32)
    · rw [if_pos z, if_pos z]
    · rw [if_neg z, if_neg z, if_neg z]
theorem zR_peg : zSim_peg zR := by
  intro vc vh vp vs vt VH VS m p0 p1 h
  obtain ⟨s, hs, h10, hE, hV⟩ := h.1
  have hE1 : zE vc ((f_X6_changes m).2 0) := by rw [zchg0]; exact hE
  unfold f_X5_peg f_X6_peg
  by_cases a : vp_in p0 16
  · rw [if_neg (zrow5_iff.mpr a), if_neg (zrow_iff.mpr a)]
    by_cases a2 : vp_in p1 6
    · rw [if_neg (zplace5_iff.mpr a2), if_neg (zplace_iff.mpr a2)]
      obtain ⟨r, hr, rfl⟩ := vp_in_of a (by omega)
      obtain ⟨p, hp, rfl⟩ := vp_in_of a2 (by omega)
      obtain ⟨E2, V2⟩ := zflipR hr hp hE1 hV
      have e51 : s_X5_peg_51 vc (nI r) (nI p) = f_X1_giveRow vc (nI r) (zflip (vc.2 1 r) p) := by
        unfold s_X5_peg_51
        rw [nI_clamp (by omega)]; rfl
      have k10 : (s_X5_peg_51 vc (nI r) (nI p)).1 10 = nI s := by rw [e51, eat_give]; exact h10
      rw [← e51] at E2 V2
      rw [show r_X6_peg_32 m (nI r) (nI p) = _ from zhas6 (m := f_X6_changes m) hE1 hV (by omega) hr hp]
      by_cases z : zbit (vc.2 1 r) p = (0 : Int32)
      · rw [if_pos z] at E2
        rw [if_pos z, if_pos rfl]
        have E3 : zE (s_X5_peg_51 vc (nI r) (nI p)) ((s_X6_peg_44 m (nI r) (nI p)).2 0) := by
          unfold s_X6_peg_44
          rw [zA_eq, zat_ix hr hp]; exact E2
        exact ⟨(zpegsIn E3 V2 (by omega) hr).symm, zR_kept h ⟨s, hs, k10, E3, V2⟩ zFr.wr⟩
      · rw [if_neg z] at E2
        rw [if_neg z, if_neg (show ¬ (1 : Int32) = 0 by decide)]
        have E3 : zE (s_X5_peg_51 vc (nI r) (nI p)) ((s_X6_peg_44_2 m (nI r) (nI p)).2 0) := by
          unfold s_X6_peg_44_2
          rw [zA_eq, zat_ix hr hp]; exact E2
        exact ⟨(zpegsIn E3 V2 (by omega) hr).symm, zR_kept h ⟨s, hs, k10, E3, V2⟩ zFr.wr⟩
    · rw [if_pos (Classical.byContradiction fun z => a2 (zplace5_iff.mp z)), if_pos (Classical.byContradiction fun z => a2 (zplace_iff.mp z))]
      exact ⟨rfl, h⟩
  · rw [if_pos (Classical.byContradiction fun z => a (zrow5_iff.mp z)), if_pos (Classical.byContradiction fun z => a (zrow_iff.mp z))]
    exact ⟨rfl, h⟩
