/-! The rows told are given to the drum. -/
def znv (s : Nat) (x : Int32) (q : Nat) : Int32 := if zbit (nI s) q = (0 : Int32) then (-6 : Int32) else if x = (-6 : Int32) then (0 : Int32) else x
theorem zrd_step {b p r s : Nat} (hb : b < 62) (hp : p < 6) (hr : r < 16) {w : zCV} (h6 : w.2 6 b = nI r) (h7 : w.2 7 b = nI s) (n : Nat) : f_X6_read_L18 (n + 1) (6 * b + p) w = f_X6_read_L18 n (6 * b + p + 1) (zA w 0 (upd (w.2 0) (40 + 6 * r + p) (znv s (w.2 0 (40 + 6 * r + p)) p))) := by
  have hrem : (nI (6 * b + p)) - (((nI (6 * b + p)) / (6 : Int32)) * (6 : Int32)) = nI p := by
    rw [show (6 : Int32) = nI 6 from rfl, pk_rem (by omega) (by omega) (by omega), show (6 * b + p) % 6 = p by omega]
  have hdiv : (nI (6 * b + p)) / (6 : Int32) = nI b := by
    rw [show (6 : Int32) = nI 6 from rfl, pk_div (by omega) (by omega) (by omega), show (6 * b + p) / 6 = b by omega]
  have hb0 : (nI b).toNatClampNeg = b := nI_clamp (by omega)
  have e1 : s_X6_read_107 (6 * b + p) w = zA w 0 (upd (w.2 0) (40 + 6 * r + p) (w.2 0 (40 + 6 * r + p))) := by
    unfold s_X6_read_107
    rw [hrem, hdiv, hb0, h6, zat_ix hr hp]
  have e2 : s_X6_read_107_2 (6 * b + p) w = zA w 0 (upd (w.2 0) (40 + 6 * r + p) (0 : Int32)) := by
    unfold s_X6_read_107_2
    rw [hrem, hdiv, hb0, h6, zat_ix hr hp]
  have e3 : s_X6_read_107_3 (6 * b + p) w = zA w 0 (upd (w.2 0) (40 + 6 * r + p) (-6 : Int32)) := by
    unfold s_X6_read_107_3
    rw [hrem, hdiv, hb0, h6, zat_ix hr hp]
  rw [f_X6_read_L18, hrem, hdiv, hb0, h6, h7, zat_ix hr hp, e1, e2, e3]
  unfold znv
  rw [show ((nI s) >>> ((nI p) &&& 31)) &&& (1 : Int32) = zbit (nI s) p from rfl]
  rcases zbit01 (nI s) p with q | q
  · rw [q, if_neg (show ¬ (0 : Int32) = 1 by decide), if_pos rfl, if_pos rfl]
  · rw [q, if_pos rfl, if_neg (show ¬ (1 : Int32) = 0 by decide), if_neg (show ¬ (1 : Int32) = 0 by decide)]
    by_cases y : w.2 0 (40 + 6 * r + p) = (-6 : Int32)
    · rw [if_pos y, if_pos y]
    · rw [if_neg y, if_neg y]
theorem zrd_row {b r s : Nat} (hb : b < 62) (hr : r < 16) (N : Nat) : ∀ (n p : Nat) (w : zCV), p + n = 6 → w.2 6 b = nI r → w.2 7 b = nI s → ∃ w', f_X6_read_L18 (n + N) (6 * b + p) w = f_X6_read_L18 N (6 * b + 6) w' ∧ zFr 0 w w' ∧ (∀ q, q < 6 → w'.2 0 (40 + 6 * r + q) = if p ≤ q then znv s (w.2 0 (40 + 6 * r + q)) q else w.2 0 (40 + 6 * r + q)) ∧ ∀ k, (∀ q, q < 6 → k ≠ 40 + 6 * r + q) → w'.2 0 k = w.2 0 k := by
  intro n
  induction n with
  | zero =>
    intro p w hp h6 h7
    refine ⟨w, by rw [Nat.zero_add, show p = 6 by omega], zFr.rf, fun q hq => by rw [if_neg (by omega)], fun _ _ => rfl⟩
  | succ n ih =>
    intro p w hp h6 h7
    have hp6 : p < 6 := by omega
    obtain ⟨w', a1, a2, a3, a4⟩ := ih (p + 1) (zA w 0 (upd (w.2 0) (40 + 6 * r + p) (znv s (w.2 0 (40 + 6 * r + p)) p))) (by omega) (by rw [zA_ne _ _ (by decide)]; exact h6) (by rw [zA_ne _ _ (by decide)]; exact h7)
    refine ⟨w', ?_, zFr.wr.tr a2, fun q hq => ?_, fun k hk => ?_⟩
    · rw [show n + 1 + N = (n + N) + 1 by omega, zrd_step hb hp6 hr h6 h7]
      exact a1
    · rw [a3 q hq, zA_eq]
      by_cases e : q = p
      · subst e
        rw [if_neg (show ¬ q + 1 ≤ q by omega), zupd_eq, if_pos (Nat.le_refl q)]
      · rw [zupd_ne _ _ (show 40 + 6 * r + q ≠ 40 + 6 * r + p by omega)]
        by_cases y : p + 1 ≤ q
        · rw [if_pos y, if_pos (show p ≤ q by omega)]
        · rw [if_neg y, if_neg (show ¬ p ≤ q by omega)]
    · rw [a4 k hk, zA_eq, zupd_ne _ _ (hk p hp6)]
theorem zapp_1 (w : zCV) : ∀ (d : Nat) (c : zCV), (zapp w d c).1 = c.1 := by
  intro d
  induction d with
  | zero => intro c; rfl
  | succ d ih => intro c; exact (eat_give _ _ _).trans (ih c)
theorem zrd_all {w0 c0 : zCV} {d B : Nat} (hd : d ≤ 61) (hB : B < 2 ^ 31) (ht : ztold w0 d) : ∀ (n b : Nat) (w : zCV), b + n = d → w.2 6 = w0.2 6 → w.2 7 = w0.2 7 → zE (zapp w0 b c0) (w.2 0) → zV (zapp w0 b c0) B →
    zFr 0 w (f_X6_read_L18 (6 * n) (6 * b) w) ∧ zE (zapp w0 d c0) ((f_X6_read_L18 (6 * n) (6 * b) w).2 0) ∧ zV (zapp w0 d c0) B := by
  intro n
  induction n with
  | zero =>
    intro b w hb _ _ hE hV
    have : b = d := by omega
    subst this
    exact ⟨zFr.rf, hE, hV⟩
  | succ n ih =>
    intro b w hb h6 h7 hE hV
    obtain ⟨⟨r, hr, er⟩, s, hs, es⟩ := ht b (by omega)
    obtain ⟨w', a1, a2, a3, a4⟩ := zrd_row (s := s) (show b < 62 by omega) hr (6 * n) 6 0 w (by omega) (by rw [h6]; exact er) (by rw [h7]; exact es)
    have hg := zgive (f' := w'.2 0) hr hE hV (y := nI s) (vp_in_nI hs (by omega)) (fun k hk => a4 k hk) (fun q hq => by
      rw [a3 q hq, if_pos (Nat.zero_le q), hE.peg hr hq]
      unfold znv
      by_cases z : zbit (nI s) q = (0 : Int32)
      · rw [if_pos z, if_pos z]
      · rw [if_neg z, if_neg z]
        by_cases y : zbit ((zapp w0 b c0).2 1 r) q = (0 : Int32)
        · rw [if_pos y, if_pos rfl, if_pos y]
        · obtain ⟨j, hj, ej⟩ := hV.2.2.2.2.2 r q hr hq y
          rw [if_neg y, if_neg y, ej, if_neg (znI_ne (by omega))])
    have ea : zapp w0 (b + 1) c0 = f_X1_giveRow (zapp w0 b c0) (nI r) (nI s) := by
      show f_X1_giveRow (zapp w0 b c0) (w0.2 6 b) (w0.2 7 b) = _
      rw [er, es]
    obtain ⟨b1, b2, b3⟩ := ih (b + 1) w' (by omega) ((a2.2 6 (by decide)).trans h6) ((a2.2 7 (by decide)).trans h7) (by rw [ea]; exact hg.1) (by rw [ea]; exact hg.2)
    rw [show 6 * (n + 1) = 6 + 6 * n by omega, show 6 * b = 6 * b + 0 by omega, a1, show 6 * b + 6 = 6 * (b + 1) by omega]
    exact ⟨a2.tr b1, b2, b3⟩
theorem zR_read : zSim_read zR := by
  intro vc vh vp vs vt VH VS m h
  obtain ⟨f1, f2⟩ := zfault_both h.2.2.1
  have h1 := h.same (vt' := vt) (zfault_same h.2.2.1)
  unfold f_X5_read f_X6_read
  rw [show r_X5_read_4 vp = (r_X6_read_1 m).1 from f1.symm]
  by_cases q : (r_X6_read_1 m).1 = (-6 : Int32)
  · rw [if_pos q, if_pos q]
    obtain ⟨d, hd, e3, ht, hc⟩ := f2 q
    obtain ⟨s, hs, h10, hE, hV⟩ := h1.1
    have k6 : (s_X6_read_13 m).2 6 = (f_X6_fault m).2.2 6 := e2_changes _ 6 (by decide)
    have k7 : (s_X6_read_13 m).2 7 = (f_X6_fault m).2.2 7 := e2_changes _ 7 (by decide)
    have k0 : (s_X6_read_13 m).2 0 = (f_X6_fault m).2.2 0 := e2_changes _ 0 (by decide)
    have k3 : (s_X6_read_13 m).1 3 = nI d := (e1_changes _ 3 (by decide)).trans e3
    obtain ⟨a1, a2, a3⟩ := zrd_all (w0 := (f_X6_fault m).2) (c0 := vc) (B := 6 * s) hd (by omega) ht d 0 (s_X6_read_13 m) (by omega) k6 k7 (by rw [k0]; exact hE) hV
    have e116 : s_X6_read_116 m = zS (f_X6_read_L18 (6 * d) (6 * 0) (s_X6_read_13 m)) 1 (0 : Int32) := by
      unfold s_X6_read_116
      rw [k3, show (6 : Int32) * nI d = nI (6 * d) by rw [show (6 : Int32) = nI 6 from rfl, znI_mul], nI_clamp (by omega), zfu_eq]
    have e37 : s_X5_read_37 vc vp = zapp (f_X6_fault m).2 d vc := hc vc
    generalize f_X6_read_L18 (6 * d) (6 * 0) (s_X6_read_13 m) = L at a1 a2 e116
    have hCk : zCk (s_X5_read_37 vc vp) (L.2 0) := ⟨s, hs, by rw [e37, zapp_1]; exact h10, by rw [e37]; exact a2, by rw [e37]; exact a3⟩
    obtain ⟨g1, g2, g3, g4, g5, g6⟩ := zR_kept h1 hCk a1
    rw [e116]
    refine ⟨?_, g1, zH_congr g2 (zS_ne _ _ (by decide)) rfl, ⟨0, by omega, zS_eq _ _ _, zS_eq _ _ _, fun i hi => absurd hi (by omega)⟩, zSl_congr g4 rfl rfl, g5, g6⟩
    show f_X1_allPegs (s_X5_read_37 vc vp) = f_X6_pegs (s_X6_read_116 m)
    rw [e116, e37]
    exact (zpegs (m := zS L 1 (0 : Int32)) a2 a3 (by omega)).symm
  · rw [if_neg q, if_neg q]
    exact ⟨rfl, h1⟩
theorem zR_sim : zSim zR := ⟨zR_0, zR_ok, zR_set, zR_peg, zR_order, zR_ink, zR_step, zR_free, zR_newForm, zR_read, zR_row, zR_stamped, zR_stamp, zR_count, zR_untilJam, zR_ifStepped, zR_bestOut, zR_nextStamps, zR_put, zR_wipe, zR_fault, zR_undo, zR_save, zR_restore⟩
