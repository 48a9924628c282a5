/-! A text's fault, and the rows told. -/
/-- the first d told rows, given to a clerk -/
def zapp (w : zCV) : Nat → zCV → zCV
  | 0, c => c
  | d + 1, c => f_X1_giveRow (zapp w d c) (w.2 6 d) (w.2 7 d)
def ztold (w : zCV) (d : Nat) : Prop := ∀ k, k < d → (∃ r, r < 16 ∧ w.2 6 k = nI r) ∧ ∃ s, s < 64 ∧ w.2 7 k = nI s
theorem zapp_congr {w w' : zCV} : ∀ (d : Nat) (c : zCV), (∀ k, k < d → w'.2 6 k = w.2 6 k ∧ w'.2 7 k = w.2 7 k) → zapp w' d c = zapp w d c := by
  intro d
  induction d with
  | zero => intro c _; rfl
  | succ d ih =>
    intro c h
    show f_X1_giveRow (zapp w' d c) (w'.2 6 d) (w'.2 7 d) = f_X1_giveRow (zapp w d c) (w.2 6 d) (w.2 7 d)
    rw [ih c (fun k hk => h k (by omega)), (h d (by omega)).1, (h d (by omega)).2]
theorem zrw6 (u : zCV) (row : Int32) (s d : Nat) (hd : (u.1 3).toNatClampNeg = d) : zrw u row s 6 = upd (u.2 6) d row ∧ zrw u row s 7 = upd (u.2 7) d (nI s) ∧ ∀ i, i ≠ 6 → i ≠ 7 → zrw u row s i = u.2 i := by
  unfold zrw
  rw [hd]
  refine ⟨?_, ?_, fun i h6 h7 => ?_⟩
  · rw [zA_ne _ _ (by decide), zA_eq]
  · rw [zA_eq]
  · rw [zA_ne _ _ h7, zA_ne _ _ h6]
section ZTF
variable {vp : zCV} {t : Nat} {X : Nat → Nat}
theorem zfl (hT : zT vp t X) (v : zCV) : ∀ (n i d : Nat) (w : zCV), 62 ≤ n + i → zW w t X i → w.1 3 = nI d → d ≤ i → ztold w d →
    (f_X6_fault_L12 v n 1 w).1 = zD vp t i 0 ∧ ((f_X6_fault_L12 v n 1 w).1 = (-6 : Int32) → ∃ d', d' ≤ 61 ∧ (f_X6_fault_L12 v n 1 w).2.1 3 = nI d' ∧ ztold (f_X6_fault_L12 v n 1 w).2 d' ∧ ∀ c, zC vp t i 0 0 0 (zapp w d c) = zapp (f_X6_fault_L12 v n 1 w).2 d' c) := by
  obtain ⟨t1, t2, t3, t4⟩ := id hT
  intro n
  induction n with
  | zero => intro i d w h hW; exact absurd h (by have := hW.2.2.1; omega)
  | succ n ih =>
    intro i d w h hW h3 hd ht
    rw [f_X6_fault_L12, if_neg (show ¬ (1 : Int32) = 0 by decide)]
    have hi := hW.2.2.1
    rcases zrow_read hT hW with ⟨a1, a2⟩ | ⟨a1, j, l, s, row, b1, b2, b3, b4, b5, b6, b7, b8, b9, b10, b11, b12⟩
    · rw [if_pos (show (r_X6_fault_17 w).1 = (0 : Int32) from a1)]
      have a3 : zD vp t i 0 = (r_X6_fault_17 w).2.1 2 := a2
      refine ⟨a3.symm, fun e => ?_⟩
      have := (zrr_spec (v := w) (by rw [hW.2.1]; exact vp_in_nI (by omega) (by omega)) (by rw [hW.1]; exact vp_in_nI (by omega) (by omega))).1
      exact absurd (vp_in_iff.mp this).1 (by rw [show (f_X6_readsRow w).2.1 2 = (-6 : Int32) from e]; decide)
    · rw [if_neg (show ¬ (r_X6_fault_17 w).1 = (0 : Int32) from fun e => by rw [show (r_X6_fault_17 w).1 = 1 from a1] at e; exact absurd e (by decide))]
      have hd3 : (w.1 3).toNatClampNeg = d := by rw [h3, nI_clamp (by omega)]
      obtain ⟨c6, c7, c5⟩ := zrw6 w (nI row) s d hd3
      rw [← b9] at c6 c7 c5
      have hWj : zW (f_X6_readsRow w).2 t X j := ⟨b7.trans hW.1, b6, b2, fun k hk => by rw [c5 5 (by decide) (by decide)]; exact hW.2.2.2 k hk⟩
      have told2 : ztold (f_X6_readsRow w).2 (d + 1) := by
        intro k hk
        rw [c6, c7]
        by_cases e : k = d
        · subst e; rw [zupd_eq, zupd_eq]; exact ⟨⟨row, b5, rfl⟩, s, b4, rfl⟩
        · rw [zupd_ne _ _ e, zupd_ne _ _ e]; exact ht k (by omega)
      have happ : ∀ c, zapp (f_X6_readsRow w).2 (d + 1) c = f_X1_giveRow (zapp w d c) (nI row) (nI s) := by
        intro c
        show f_X1_giveRow (zapp (f_X6_readsRow w).2 d c) ((f_X6_readsRow w).2.2 6 d) ((f_X6_readsRow w).2.2 7 d) = _
        rw [c6, c7, zupd_eq, zupd_eq, zapp_congr (w := w) d c (fun k hk => by rw [c6, c7, zupd_ne _ _ (by omega), zupd_ne _ _ (by omega)]; exact ⟨rfl, rfl⟩)]
      have e3 : (f_X6_readsRow w).2.1 3 = nI (d + 1) := by rw [b8, h3, nI_1]
      have et : r_X6_takesOne_3 (f_X6_readsRow w).2 (59 : Int32) = if j < t ∧ 59 ≤ X j ∧ X j ≤ 59 then (1 : Int32) else (0 : Int32) := zhe (a := 59) (b := 59) hWj t2 t3 (by omega) (by omega)
      have hrow : ¬ f_X5_isRow (nI row) = (0 : Int32) := zrow5_iff.mpr (vp_in_nI b5 (by omega))
      have xj := t3 j
      by_cases z : j < t ∧ 59 ≤ X j ∧ X j ≤ 59
      · have e31 : r_X6_fault_31 w = ((1 : Int32), s_X6_takesOne_22_2 (f_X6_readsRow w).2) := by
          unfold r_X6_fault_31 r_X6_fault_17 f_X6_takesOne
          rw [et, if_pos z, if_neg (show ¬ (1 : Int32) = 0 by decide)]
        rw [e31]
        dsimp only
        have hW2 : zW (s_X6_takesOne_22_2 (f_X6_readsRow w).2) t X (j + 1) := ⟨hWj.1, by
          show (f_X6_readsRow w).2.1 2 + (1 : Int32) = _
          rw [b6, nI_1], by omega, hWj.2.2.2⟩
        obtain ⟨g1, g2⟩ := ih (j + 1) (d + 1) _ (by omega) hW2 ((zS_ne _ _ (by decide)).trans e3) (by omega) told2
        have hdj : f_X3_dueBehind (nI (3 + l)) (nI (X j)) = 0 := by rw [zdue3 l (by omega) _ (by omega), if_pos (by omega)]
        refine ⟨?_, fun e => ?_⟩
        · rw [g1, show zD vp t i 0 = _ from b10, zD_go hT z.1, hdj, if_neg (show ¬ (0 : Int32) = -1 by decide)]
        · obtain ⟨d', k1, k2, k3, k4⟩ := g2 e
          refine ⟨d', k1, k2, k3, fun c => ?_⟩
          rw [b12, zC_go hT z.1, show X j = 59 by omega, if_pos (show nI 59 = (59 : Int32) by decide), if_neg hrow, ← happ]
          exact (congrArg (zC vp t (j + 1) 0 0 0) (zapp_congr (w := s_X6_takesOne_22_2 (f_X6_readsRow w).2) (w' := (f_X6_readsRow w).2) (d + 1) c (fun _ _ => ⟨rfl, rfl⟩))).trans (k4 c)
      · have e31 : r_X6_fault_31 w = ((0 : Int32), s_X6_takesOne_22 (f_X6_readsRow w).2) := by
          unfold r_X6_fault_31 r_X6_fault_17 f_X6_takesOne
          rw [et, if_neg z, if_pos rfl]
        rw [e31]
        dsimp only
        obtain ⟨q, rfl⟩ : ∃ q, n = q + 1 := ⟨n - 1, by omega⟩
        rw [f_X6_fault_L12, if_pos rfl]
        have u2 : (s_X6_takesOne_22 (f_X6_readsRow w).2).1 2 = nI j := by
          show (f_X6_readsRow w).2.1 2 + (0 : Int32) = _
          rw [b6, Int32.add_zero]
        have u1 : (s_X6_takesOne_22 (f_X6_readsRow w).2).1 1 = nI t := hWj.1
        have u3 : (s_X6_takesOne_22 (f_X6_readsRow w).2).1 3 = nI (d + 1) := (zS_ne _ _ (by decide)).trans e3
        rw [u2, u1]
        by_cases y : j = t
        · subst y
          rw [if_pos rfl]
          refine ⟨?_, fun _ => ⟨d + 1, by omega, u3, told2, fun c => ?_⟩⟩
          · rw [show zD vp j i 0 = _ from b10, zD_end hT, if_neg (show ¬ nI (3 + l) < (3 : Int32) from nI_nlt (b := 3) (by omega) (by omega))]
          · rw [b12, zC_end hT, if_neg hrow, ← happ]
            exact zapp_congr (w := s_X6_takesOne_22 (f_X6_readsRow w).2) (w' := (f_X6_readsRow w).2) (d + 1) c (fun _ _ => ⟨rfl, rfl⟩)
        · rw [if_neg (fun e => y ((nI_eq (by omega) (by omega)).mp e))]
          have hdj : f_X3_dueBehind (nI (3 + l)) (nI (X j)) = -1 := by rw [zdue3 l (by omega) _ (by omega), if_neg (by omega), if_neg (by omega)]
          refine ⟨?_, fun e => absurd e (znI_ne (by omega))⟩
          rw [show zD vp t i 0 = _ from b10, zD_go hT (show j < t by omega), hdj, if_pos rfl]
end ZTF
theorem zPd_T {vp m : zCV} (h : zPd vp m) : ∃ t X, zT vp t X ∧ m.1 1 = nI t ∧ ∀ j, j < t → m.2 5 j = nI (X j) := by
  obtain ⟨t, ht, e1, e2, e3⟩ := h
  have : ∃ X : Nat → Nat, ∀ i, X i ≤ 255 ∧ (i < t → m.2 5 i = nI (X i) ∧ vp.2 0 i = nI (X i)) := by
    refine ⟨fun i => if h : i < t then (e3 i h).choose else 0, fun i => ?_⟩
    by_cases h : i < t
    · simp only [dif_pos h]
      have := (e3 i h).choose_spec
      exact ⟨this.1, fun _ => this.2⟩
    · simp only [dif_neg h]
      exact ⟨by omega, fun z => absurd z h⟩
  obtain ⟨X, hX⟩ := this
  exact ⟨t, X, ⟨e1, ht, fun i => (hX i).1, fun i hi => ((hX i).2 hi).2⟩, e2, fun j hj => ((hX j).2 hj).1⟩
theorem zfault_both {vp m : zCV} (h : zPd vp m) : (f_X6_fault m).1 = f_X3_firstFault vp ∧ ((f_X6_fault m).1 = (-6 : Int32) → ∃ d, d ≤ 61 ∧ (f_X6_fault m).2.1 3 = nI d ∧ ztold (f_X6_fault m).2 d ∧ ∀ c, f_X3_changeRows vp c = zapp (f_X6_fault m).2 d c) := by
  obtain ⟨t, X, hT, e1, e2⟩ := zPd_T h
  have t2 := hT.2.1
  have hW : zW (s_X6_fault_7 m) t X 0 := ⟨e1, nI_0.symm, by omega, e2⟩
  obtain ⟨a1, a2⟩ := zfl hT m 62 0 0 (s_X6_fault_7 m) (by omega) hW nI_0.symm (by omega) (fun k hk => absurd hk (by omega))
  have e6 : f_X6_fault m = f_X6_fault_L12 m 62 1 (s_X6_fault_7 m) := by
    unfold f_X6_fault
    rw [zfu_eq]
  have e5 : f_X3_firstFault vp = zD vp t 0 0 := by
    unfold f_X3_firstFault zD
    rw [hT.1, nI_clamp (by omega), zfu_eq]
    rfl
  have ec : ∀ c, f_X3_changeRows vp c = zC vp t 0 0 0 0 c := by
    intro c
    unfold f_X3_changeRows zC
    rw [hT.1, nI_clamp (by omega), zfu_eq]
    rfl
  rw [e6, e5]
  refine ⟨a1, fun e => ?_⟩
  obtain ⟨d', k1, k2, k3, k4⟩ := a2 e
  exact ⟨d', k1, k2, k3, fun c => (ec c).trans (k4 c)⟩
theorem zfault_same {vp m : zCV} (h : zPd vp m) : zSame m (f_X6_fault m).2 := by
  obtain ⟨t, ht, e1, e2, e3⟩ := h
  obtain ⟨a0, a1, a2, -, -⟩ := zfault_spec (v := m) (by rw [e2]; exact vp_in_nI (by omega) (by omega))
  exact ⟨a0, a1, fun k _ => by rw [a2 0 (by decide) (by decide)], a2 2 (by decide) (by decide), a2 3 (by decide) (by decide), a2 4 (by decide) (by decide), a2 5 (by decide) (by decide)⟩
theorem zR_fault : zSim_fault zR := by
  intro vc vh vp vs vt VH VS m h
  exact ⟨(zfault_both h.2.2.1).1.symm, h.same (zfault_same h.2.2.1)⟩
