/-! One step of both clerks, and what the first is then. -/
section ZST
variable {c d : zCV} {b : Nat}
theorem zM_lay (h : zM c d) : zM (f_X0_layForm c) (f_X0_layForm d) :=
  zM_S (zM_S (zM_S7 h (x := 0) (y := 0) zT_0.symm) (by decide) (by decide) rfl) (by decide) (by decide) rfl
theorem zlay_fr (c : zCV) : (∀ k, k ≠ 7 → k ≠ 8 → k ≠ 9 → (f_X0_layForm c).1 k = c.1 k) ∧ (f_X0_layForm c).2 = c.2 :=
  ⟨fun k h7 h8 h9 => ((zS_ne _ _ h9).trans (zS_ne _ _ h8)).trans (zS_ne _ _ h7), rfl⟩
theorem zM_fin (h : zM c d) (h6 : vp_in (c.1 6) 64) (h7 : vp_in (c.1 7) 64) : zM (f_X0_finishForm c) (f_X0_finishForm d) := by
  unfold f_X0_finishForm
  rw [h.sc (show 4 ≤ 8 by omega) (by omega) (by omega) (by omega)]
  by_cases q : c.1 8 = 0
  · rw [if_pos q, if_pos q]
    by_cases q2 : c.1 7 = c.1 6
    · rw [if_pos q2, if_pos (show d.1 7 = d.1 6 by rw [h.2.2.1, h.2.1, q2])]
      exact zM_lay (zM_S h (by decide) (by decide) (by rw [h.sc (show 4 ≤ 11 by omega) (by omega) (by omega) (by omega)]))
    · rw [if_neg q2, if_neg (show ¬ d.1 7 = d.1 6 by rw [h.2.2.1, h.2.1]; exact fun z => q2 ((zT_inj h7 h6).mp z))]
      exact zM_lay (zM_S h (by decide) (by decide) (by rw [h.sc (show 4 ≤ 12 by omega) (by omega) (by omega) (by omega)]))
  · rw [if_neg q, if_neg q]
    exact zM_lay (zM_S h (by decide) (by decide) (by rw [h.sc (show 4 ≤ 13 by omega) (by omega) (by omega) (by omega)]))
theorem zpegs_M (h : zM c d) (hJ : zJr c) {r : Nat} (hr : r < 16) : f_X1_pegsInRow d (nI r) = f_X1_pegsInRow c (nI r) := by
  unfold f_X1_pegsInRow
  rw [nI_clamp (by omega), h.row hr, zT_cnt (hJ r hr)]
theorem zwould_M (h : zM c d) (hJ : zJr c) {r : Nat} (hr : r < 16) : f_X0_wouldJamAt d (nI r) = f_X0_wouldJamAt c (nI r) := by
  unfold f_X0_wouldJamAt r_X0_wouldJamAt_5
  rw [zpegs_M h hJ hr, h.set (by omega)]
/-- the falls, the drum goes on, a step more -/
def zst3 (c : zCV) (r : Nat) : zCV := zS (zS (zS (zLo c r (zpg (c.2 1 r)) 6) 4 (nI ((r + 1) % 16))) 10 (c.1 10 + (1 : Int32))) 9 (c.1 9 + (1 : Int32))
theorem zst3_eq {r : Nat} (hr : r < 16) (h4 : c.1 4 = nI r) (h7 : vp_in (c.1 7) 64) : s_X0_makeOneStep_83 c = zst3 c r := by
  have e63 : s_X0_makeOneStep_63 c = zS (zLo c r (zpg (c.2 1 r)) 6) 4 (nI ((r + 1) % 16)) := by
    unfold s_X0_makeOneStep_63
    rw [zfall_all hr h4 h7]
    unfold f_X1_goOn s_X1_goOn_8
    rw [show (zLo c r (zpg (c.2 1 r)) 6).1 4 = nI r from h4, (zrb r hr).1]
  unfold s_X0_makeOneStep_83 s_X0_makeOneStep_73
  rw [e63]
  rfl
theorem zst3_M (h : zM c d) (hJ : zJ c b) {r : Nat} (hr : r < 16) : zM (zst3 c r) (zst3 d r) :=
  zM_S (zM_S (zM_S (zM_falls h hJ.2.2.2.2.1 hJ.2.2.2.2.2.1.2.1 hr) (by decide) (by decide) rfl) (by decide) (by decide) (by rw [h.sc (show 4 ≤ 10 by omega) (by omega) (by omega) (by omega)])) (by decide) (by decide) (by rw [h.sc (show 4 ≤ 9 by omega) (by omega) (by omega) (by omega)])
/-- what the first is behind a step, but for the form's own numbers -/
def zJ' (c : zCV) (b : Nat) : Prop := vp_in (c.1 4) 16 ∧ (c.1 5 = 0 ∨ c.1 5 = 1) ∧ (c.1 8 = 0 ∨ c.1 8 = 1) ∧ zJs c ∧ zJr c ∧ (vp_in (c.1 6) 64 ∧ vp_in (c.1 7) 64 ∧ (∃ f, f ≤ 8 ∧ c.1 9 = nI f) ∧ (¬ c.1 8 = 0 → ∃ q, q < 6 ∧ ¬ zbt (c.1 7) q = 0)) ∧ (∃ s x y z : Nat, s + 1 ≤ b ∧ c.1 10 = nI (s + 1) ∧ x + y + z ≤ s ∧ c.1 11 = nI x ∧ c.1 12 = nI y ∧ c.1 13 = nI z ∧ zJp c (s + 1)) ∧ zJm c b ∧ zJj c b
theorem zst3_p (c : zCV) (r : Nat) : (zst3 c r).1 4 = nI ((r + 1) % 16) ∧ (zst3 c r).1 5 = c.1 5 ∧ (zst3 c r).1 6 = c.1 6 ∧ (zst3 c r).1 7 = zhaz c (zpg (c.2 1 r)) 6 ∧ (zst3 c r).1 9 = c.1 9 + (1 : Int32) ∧ (zst3 c r).1 10 = c.1 10 + (1 : Int32) ∧ (zst3 c r).1 11 = c.1 11 ∧ (zst3 c r).1 12 = c.1 12 ∧ (zst3 c r).1 13 = c.1 13 ∧ (zst3 c r).1 14 = c.1 14 := by
  have e : ∀ k, k ≠ 4 → k ≠ 9 → k ≠ 10 → (zst3 c r).1 k = (zLo c r (zpg (c.2 1 r)) 6).1 k := fun k h4 h9 h10 => ((zS_ne _ _ h9).trans (zS_ne _ _ h10)).trans (zS_ne _ _ h4)
  have l : ∀ k, k ≠ 7 → k ≠ 8 → k ≠ 15 → (zLo c r (zpg (c.2 1 r)) 6).1 k = c.1 k := fun k h7 h8 h15 => by
    show (if k = 7 then zhaz c (zpg (c.2 1 r)) 6 else if k = 8 then _ else if k = 15 then _ else c.1 k) = c.1 k
    rw [if_neg h7, if_neg h8, if_neg h15]
  have l7 : (zLo c r (zpg (c.2 1 r)) 6).1 7 = zhaz c (zpg (c.2 1 r)) 6 := rfl
  have g : ∀ k, k ≠ 4 → k ≠ 9 → k ≠ 10 → k ≠ 7 → k ≠ 8 → k ≠ 15 → (zst3 c r).1 k = c.1 k := fun k h4 h9 h10 h7 h8 h15 => (e k h4 h9 h10).trans (l k h7 h8 h15)
  refine ⟨((zS_ne _ _ (by decide)).trans (zS_ne _ _ (by decide))).trans (zS_eq _ _ _), g 5 (by decide) (by decide) (by decide) (by decide) (by decide) (by decide), g 6 (by decide) (by decide) (by decide) (by decide) (by decide) (by decide), (e 7 (by decide) (by decide) (by decide)).trans l7, zS_eq _ _ _, (zS_ne _ _ (by decide)).trans (zS_eq _ _ _), g 11 (by decide) (by decide) (by decide) (by decide) (by decide) (by decide), g 12 (by decide) (by decide) (by decide) (by decide) (by decide) (by decide), g 13 (by decide) (by decide) (by decide) (by decide) (by decide) (by decide), g 14 (by decide) (by decide) (by decide) (by decide) (by decide) (by decide)⟩
theorem zst3_8 (c : zCV) (r : Nat) : (zst3 c r).1 8 = if zany (fun k => zpg (c.2 1 r) k && zhs c k) 6 = true then (1 : Int32) else c.1 8 := rfl
theorem zst3_0 (c : zCV) (r : Nat) : (zst3 c r).2 0 = c.2 0 := rfl
theorem zst3_r (c : zCV) (r a : Nat) : (zst3 c r).2 1 a = upd (c.2 1) r (zrow c r (zpg (c.2 1 r)) 6) a := rfl
theorem zst3_s (c : zCV) (r x : Nat) : (zst3 c r).2 2 x = if 6 * r ≤ x ∧ x < 6 * r + 6 ∧ zpg (c.2 1 r) (x - 6 * r) = true then c.2 2 x + (1 : Int32) else c.2 2 x := rfl
theorem zst3_i (c : zCV) (r k : Nat) : (zst3 c r).2 3 k = if k < 6 ∧ (zpg (c.2 1 r) k && zen c k) = true then c.2 3 k - c.2 0 1 else c.2 3 k := rfl
theorem zst3_m (c : zCV) (r k : Nat) : (zst3 c r).2 4 k = if k < 6 ∧ (zpg (c.2 1 r) k && zen c k) = true then c.2 4 k + (1 : Int32) else c.2 4 k := rfl
theorem zst3_J (hJ : zJ c b) {r : Nat} (hr : r < 16) : zJ' (zst3 c r) (b + 1) := by
  obtain ⟨h1, h2, h3, h4, h5, ⟨h6a, h6b, ⟨f, hf, h9⟩, h6d⟩, ⟨s, x, y, z, n1, n2, n3, n4, n5, n6, n7⟩, h8, ⟨j, j1, j2, j3⟩⟩ := hJ
  obtain ⟨a1, a2⟩ := zhaz_bt h6b (zpg (c.2 1 r)) 6 (Nat.le_refl _)
  obtain ⟨b1, b2⟩ := zrow_bt (h5 r hr) (zpg (c.2 1 r)) 6 (Nat.le_refl _)
  obtain ⟨p4, p5, p6, k7, p9, p10, p11, p12, p13, p14⟩ := zst3_p c r
  have k8 := zst3_8 c r
  have p0 := zst3_0 c r
  have kr := zst3_r c r
  have e2 := zst3_s c r
  have e3 := zst3_i c r
  have e4 := zst3_m c r
  generalize zst3 c r = w at *
  have hold : ∀ a p, a < 16 → p < 6 → ¬ zbt (w.2 1 a) p = 0 → ¬ zbt (c.2 1 a) p = 0 := by
    intro a p ha hp hz z0
    apply hz
    rw [kr]
    by_cases e : a = r
    · subst e
      rw [zupd_eq, b2 p hp, z0]
      split <;> rfl
    · rw [zupd_ne _ _ e]; exact z0
  refine ⟨?_, by rw [p5]; exact h2, ?_, ?_, fun a ha => ?_, ⟨by rw [p6]; exact h6a, by rw [k7]; exact a1, ⟨f + 1, by omega, by rw [p9, h9, nI_1]⟩, fun q8 => ?_⟩, ⟨s, x, y, z, by omega, by rw [p10, n2, nI_1], n3, by rw [p11]; exact n4, by rw [p12]; exact n5, by rw [p13]; exact n6, fun a p ha hp hz => ?_⟩, fun k hk => ?_, ⟨j, by omega, by rw [p14]; exact j2, by rw [p5]; exact j3⟩⟩
  · rw [p4]
    exact vp_in_nI (by omega) (by omega)
  · rw [k8]
    split
    · exact Or.inr rfl
    · exact h3
  · unfold zJs
    rw [p0]
    exact h4
  · rw [kr]
    by_cases e : a = r
    · subst e; rw [zupd_eq]; exact b1
    · rw [zupd_ne _ _ e]; exact h5 a ha
  · rw [k8] at q8
    rw [k7]
    by_cases e : zany (fun k => zpg (c.2 1 r) k && zhs c k) 6 = true
    · obtain ⟨k, hk, hb⟩ := (zany_iff 6).mp e
      rw [Bool.and_eq_true] at hb
      have hz : ¬ zbt (c.1 7) k = 0 := by
        have := hb.2
        unfold zhs at this
        exact of_decide_eq_true this
      refine ⟨k, hk, ?_⟩
      rw [a2 k hk]
      split
      · decide
      · exact hz
    · rw [if_neg e] at q8
      obtain ⟨q, hq, hz⟩ := h6d q8
      refine ⟨q, hq, ?_⟩
      rw [a2 q hq]
      split
      · decide
      · exact hz
  · obtain ⟨t, ht, et⟩ := n7 a p ha hp (hold a p ha hp hz)
    rw [e2, et]
    split
    · exact ⟨t + 1, by omega, nI_1 t⟩
    · exact ⟨t, by omega, rfl⟩
  · obtain ⟨i1, m, m1, m2, m3⟩ := h8 k hk
    rw [e3, e4, k7, a2 k hk]
    by_cases e : k < 6 ∧ (zpg (c.2 1 r) k && zen c k) = true
    · rw [if_pos e, if_pos e, if_pos e, m2]
      refine ⟨?_, m + 1, by omega, nI_1 m, fun _ => by omega⟩
      have he : zen c k = true := by
        have := e.2
        rw [Bool.and_eq_true] at this
        exact this.2
      unfold zen at he
      have he := of_decide_eq_true he
      obtain ⟨i, hi, ei⟩ := vp_in_of i1 (by omega)
      obtain ⟨o, ho, eo⟩ := vp_in_of h4.2 (by omega)
      rw [ei, eo] at he ⊢
      have := (nI_leI (by omega) (by omega)).mp he
      rw [pk_sub this]
      exact vp_in_nI (by omega) (by omega)
    · rw [if_neg e, if_neg e, if_neg e]
      exact ⟨i1, m, by omega, m2, m3⟩
theorem zJ_lay (h : zJ' c b) {k : Nat} (hk : k = 11 ∨ k = 12 ∨ k = 13) : zJ (f_X0_layForm (zS c k (c.1 k + (1 : Int32)))) b := by
  obtain ⟨h1, h2, h3, h4, h5, ⟨h6a, h6b, -, -⟩, ⟨s, x, y, z, n1, n2, n3, n4, n5, n6, n7⟩, h8, hj⟩ := h
  obtain ⟨f1, f2⟩ := zlay_fr (zS c k (c.1 k + (1 : Int32)))
  have g4 : (f_X0_layForm (zS c k (c.1 k + (1 : Int32)))).1 4 = c.1 4 := (f1 4 (by decide) (by decide) (by decide)).trans (zS_ne _ _ (by omega))
  have g5 : (f_X0_layForm (zS c k (c.1 k + (1 : Int32)))).1 5 = c.1 5 := (f1 5 (by decide) (by decide) (by decide)).trans (zS_ne _ _ (by omega))
  have g6 : (f_X0_layForm (zS c k (c.1 k + (1 : Int32)))).1 6 = c.1 6 := (f1 6 (by decide) (by decide) (by decide)).trans (zS_ne _ _ (by omega))
  have g10 : (f_X0_layForm (zS c k (c.1 k + (1 : Int32)))).1 10 = c.1 10 := (f1 10 (by decide) (by decide) (by decide)).trans (zS_ne _ _ (by omega))
  have g14 : (f_X0_layForm (zS c k (c.1 k + (1 : Int32)))).1 14 = c.1 14 := (f1 14 (by decide) (by decide) (by decide)).trans (zS_ne _ _ (by omega))
  have g7 : (f_X0_layForm (zS c k (c.1 k + (1 : Int32)))).1 7 = 0 := rfl
  have g8 : (f_X0_layForm (zS c k (c.1 k + (1 : Int32)))).1 8 = 0 := rfl
  have g9 : (f_X0_layForm (zS c k (c.1 k + (1 : Int32)))).1 9 = nI 0 := rfl
  have g11 := f1 11 (by decide) (by decide) (by decide)
  have g12 := f1 12 (by decide) (by decide) (by decide)
  have g13 := f1 13 (by decide) (by decide) (by decide)
  generalize f_X0_layForm (zS c k (c.1 k + (1 : Int32))) = w at *
  have f2 : w.2 = c.2 := f2
  unfold zJ zJs zJr zJf zJn zJm zJj zJp
  rw [g4, g5, g6, g7, g8, g9, g10, g14, g11, g12, g13, f2]
  refine ⟨h1, h2, Or.inl rfl, h4, h5, ⟨h6a, z0_in, ⟨0, by omega, rfl⟩, fun z => absurd rfl z⟩, ?_, fun i hi => ?_, ?_⟩
  · rcases hk with rfl | rfl | rfl
    · exact ⟨s + 1, x + 1, y, z, n1, n2, by omega, by rw [zS_eq, n4, nI_1], by rw [zS_ne _ _ (by decide)]; exact n5, by rw [zS_ne _ _ (by decide)]; exact n6, n7⟩
    · exact ⟨s + 1, x, y + 1, z, n1, n2, by omega, by rw [zS_ne _ _ (by decide)]; exact n4, by rw [zS_eq, n5, nI_1], by rw [zS_ne _ _ (by decide)]; exact n6, n7⟩
    · exact ⟨s + 1, x, y, z + 1, n1, n2, by omega, by rw [zS_ne _ _ (by decide)]; exact n4, by rw [zS_ne _ _ (by decide)]; exact n5, by rw [zS_eq, n6, nI_1], n7⟩
  · obtain ⟨i1, m, m1, m2, -⟩ := h8 i hi
    exact ⟨i1, m, m1, m2, fun z => absurd (zbt_0 hi) z⟩
  · exact hj
theorem zJ_fin (h : zJ' c b) : zJ (f_X0_finishForm c) b := by
  unfold f_X0_finishForm
  split
  · split
    · exact zJ_lay h (Or.inl rfl)
    · exact zJ_lay h (Or.inr (Or.inl rfl))
  · exact zJ_lay h (Or.inr (Or.inr rfl))
theorem zfin_fr (c : zCV) : (∀ k, k ≠ 7 → k ≠ 8 → k ≠ 9 → k ≠ 11 → k ≠ 12 → k ≠ 13 → (f_X0_finishForm c).1 k = c.1 k) ∧ (f_X0_finishForm c).2 = c.2 := by
  unfold f_X0_finishForm
  repeat' split
  all_goals exact ⟨fun k h7 h8 h9 h11 h12 h13 => ((zlay_fr _).1 k h7 h8 h9).trans (zS_ne _ _ (by assumption)), (zlay_fr _).2⟩
/-- one step -/
theorem zone (hM : zM c d) (hJ : zJ c b) (hb : b < 2 ^ 30) :
    (f_X0_makeOneStep d).1 = (f_X0_makeOneStep c).1 ∧ zM (f_X0_makeOneStep c).2 (f_X0_makeOneStep d).2 ∧ zJ (f_X0_makeOneStep c).2 (b + 1) ∧
    (((f_X0_makeOneStep c).1 = (0 : Int32) ∧ (f_X0_makeOneStep c).2.1 10 = c.1 10 ∧ (f_X0_makeOneStep c).2.1 4 = c.1 4 ∧ ¬ (f_X0_makeOneStep c).2.1 5 = 0 ∧ (¬ c.1 5 = 0 ∨ ¬ f_X0_wouldJamAt c (c.1 4) = (0 : Int32))) ∨
     ((f_X0_makeOneStep c).1 = (1 : Int32) ∧ c.1 5 = 0 ∧ f_X0_wouldJamAt c (c.1 4) = (0 : Int32) ∧ (f_X0_makeOneStep c).2.1 5 = 0 ∧ (f_X0_makeOneStep c).2.1 10 = c.1 10 + (1 : Int32) ∧ ∃ r, r < 16 ∧ c.1 4 = nI r ∧ (f_X0_makeOneStep c).2.1 4 = nI ((r + 1) % 16))) := by
  obtain ⟨r, hr, h4⟩ := vp_in_of hJ.1 (by omega)
  have h4d : d.1 4 = nI r := (hM.sc (by omega) (by omega) (by omega) (by omega)).trans h4
  have h7 := hJ.2.2.2.2.2.1.2.1
  have h7d : vp_in (d.1 7) 64 := by rw [hM.2.2.1]; exact zT_in h7
  have e5 : d.1 5 = c.1 5 := hM.sc (by omega) (by omega) (by omega) (by omega)
  have ew : f_X0_wouldJamAt d (d.1 4) = f_X0_wouldJamAt c (c.1 4) := by rw [h4, h4d]; exact zwould_M hM hJ.2.2.2.2.1 hr
  unfold f_X0_makeOneStep r_X0_makeOneStep_17
  rw [e5, ew]
  by_cases j : c.1 5 = 0
  · rw [if_pos j, if_pos j]
    by_cases w : f_X0_wouldJamAt c (c.1 4) = (0 : Int32)
    · rw [if_pos w, if_pos w]
      unfold s_X0_makeOneStep_100
      rw [zst3_eq hr h4 h7, zst3_eq hr h4d h7d]
      have M3 := zst3_M hM hJ hr
      have J3 := zst3_J hJ hr
      rw [show (zst3 d r).1 9 = (zst3 c r).1 9 from M3.sc (by omega) (by omega) (by omega) (by omega), M3.set (show 0 < 4 by omega)]
      by_cases q : (zst3 c r).1 9 < (zst3 c r).2 0 0
      · rw [if_pos q, if_pos q]
        refine ⟨rfl, M3, ?_, Or.inr ⟨rfl, j, w, j, rfl, r, hr, h4, rfl⟩⟩
        obtain ⟨p1, p2, p3, p4, p5, ⟨p6a, p6b, ⟨f, hf, e9⟩, p6d⟩, ⟨s, x, y, z, n1, n2, n3, n4⟩, p8, p9⟩ := J3
        refine ⟨p1, p2, p3, p4, p5, ⟨p6a, p6b, ⟨f, ?_, e9⟩, p6d⟩, ⟨s + 1, x, y, z, n1, n2, by omega, n4⟩, p8, p9⟩
        obtain ⟨F, F1, F2, F3⟩ := p4.1
        rw [e9, F3, nI_ltI (by omega) (by omega)] at q
        omega
      · rw [if_neg q, if_neg q]
        obtain ⟨k1, k2⟩ := zfin_fr (zst3 c r)
        exact ⟨rfl, zM_fin M3 J3.2.2.2.2.2.1.1 J3.2.2.2.2.2.1.2.1, zJ_fin J3, Or.inr ⟨rfl, j, w, (k1 5 (by decide) (by decide) (by decide) (by decide) (by decide) (by decide)).trans j, k1 10 (by decide) (by decide) (by decide) (by decide) (by decide) (by decide), r, hr, h4, k1 4 (by decide) (by decide) (by decide) (by decide) (by decide) (by decide)⟩⟩
    · rw [if_neg w, if_neg w]
      have M5 : zM (s_X0_makeOneStep_35 c) (s_X0_makeOneStep_35 d) := zM_S (zM_S hM (by decide) (by decide) rfl) (by decide) (by decide) (by rw [show (s_X0_makeOneStep_25 d).1 14 = d.1 14 from rfl, show (s_X0_makeOneStep_25 c).1 14 = c.1 14 from rfl, hM.sc (show 4 ≤ 14 by omega) (by omega) (by omega) (by omega)])
      refine ⟨rfl, M5, ?_, Or.inl ⟨rfl, rfl, rfl, by show ¬ (1 : Int32) = 0; decide, Or.inr w⟩⟩
      obtain ⟨p1, p2, p3, p4, p5, p6, ⟨s, x, y, z, n1, n2⟩, p8, ⟨jj, q1, q2, q3⟩⟩ := hJ
      refine ⟨p1, Or.inr rfl, p3, p4, p5, p6, ⟨s, x, y, z, by omega, n2⟩, fun k hk => ⟨(p8 k hk).1, ?_⟩, ⟨jj + 1, by omega, ?_, fun _ => by omega⟩⟩
      · obtain ⟨-, m, m1, m2⟩ := p8 k hk
        exact ⟨m, by omega, m2⟩
      · show c.1 14 + (1 : Int32) = nI (jj + 1)
        rw [q2, nI_1]
  · rw [if_neg j, if_neg j]
    exact ⟨rfl, hM, hJ.le (by omega), Or.inl ⟨rfl, rfl, rfl, j, Or.inl j⟩⟩
end ZST
