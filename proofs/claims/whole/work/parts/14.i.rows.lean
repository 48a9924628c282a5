/-! A row of a text, as both sides read it. -/
def zrw (u : zCV) (row : Int32) (s : Nat) : Nat → Nat → Int32 := (zA (zA u 6 (upd (u.2 6) (u.1 3).toNatClampNeg row)) 7 (upd (u.2 7) (u.1 3).toNatClampNeg (nI s))).2
section ZTY
variable {vp : zCV} {t : Nat} {X : Nat → Nat}
theorem zD_bad {due : Int32} (hT : zT vp t X) {j : Nat} (hj : j ≤ t) (h3 : due < 3) (hb : j < t → f_X3_dueBehind due (nI (X j)) = -1) : zD vp t j due = nI j := by
  by_cases h : j < t
  · rw [zD_go hT h, hb h, if_pos rfl]
  · have : j = t := by omega
    subst this
    rw [zD_end hT, if_pos h3]
/-- what a row's reading says -/
def zRow (vp : zCV) (t : Nat) (X : Nat → Nat) (i j : Nat) (due : Int32) (u : zCV) (r : Int32 × zCV) : Prop :=
  (r.1 = (0 : Int32) ∧ zD vp t j due = r.2.1 2) ∨ (r.1 = (1 : Int32) ∧ ∃ j' l s row, i < j' ∧ j' ≤ t ∧ l ≤ 6 ∧ s < 64 ∧ row < 16 ∧ r.2.1 2 = nI j' ∧ r.2.1 1 = u.1 1 ∧ r.2.1 3 = u.1 3 + (1 : Int32) ∧ r.2.2 = zrw u (nI row) s ∧ zD vp t j due = zD vp t j' (nI (3 + l)) ∧ ¬ (j' < t ∧ 48 + l ≤ X j' ∧ X j' ≤ 53) ∧ ∀ c, zC vp t i 0 0 0 c = zC vp t j' (nI row) (nI s) 1 c)
theorem zRT_row (hT : zT vp t X) {i j row : Nat} {due : Int32} {u : zCV} (hW : zW u t X j) (hij : i < j) (hrow : row < 16) (h3 : due < 3) (hd : j < t → f_X3_dueBehind due (nI (X j)) = if X j = 58 then 3 else -1) (hC : ∀ c, zC vp t i 0 0 0 c = zC vp t j (nI row) 0 0 c) : zRow vp t X i j due u (zRT u (nI row)) := by
  obtain ⟨t1, t2, t3, t4⟩ := id hT
  have e : f_X6_isHere u (58 : Int32) (58 : Int32) = if j < t ∧ 58 ≤ X j ∧ X j ≤ 58 then (1 : Int32) else (0 : Int32) := zhe (a := 58) (b := 58) hW t2 t3 (by omega) (by omega)
  have e2 : r_X6_takesOne_3 u (58 : Int32) = f_X6_isHere u (58 : Int32) (58 : Int32) := rfl
  unfold zRT f_X6_takesOne
  rw [e2, e]
  by_cases z : j < t ∧ 58 ≤ X j ∧ X j ≤ 58
  · rw [if_pos z, if_neg (show ¬ (1 : Int32) = 0 by decide)]
    dsimp only
    rw [if_neg (show ¬ (1 : Int32) = 0 by decide)]
    have hx : X j = 58 := by omega
    have hW2 : zW (s_X6_takesOne_22_2 u) t X (j + 1) := ⟨hW.1, by
      show u.1 2 + (1 : Int32) = _
      rw [hW.2.1, nI_1], by omega, hW.2.2.2⟩
    obtain ⟨l', s', j', g1, g2, g3, g4, g5, g6, g7, g8, g9, g10, g11⟩ := zpl hT 7 0 0 (j + 1) _ (by omega) (by omega) (by omega) hW2
    rw [zfu_eq]
    have o : f_X6_readsRow_L93 7 0 0 (s_X6_takesOne_22_2 u) = f_X6_readsRow_L93 7 (nI 0) (nI 0) (s_X6_takesOne_22_2 u) := by rw [nI_0]
    rw [o]
    generalize f_X6_readsRow_L93 7 (nI 0) (nI 0) (s_X6_takesOne_22_2 u) = L at g1 g6 g7 g8 ⊢
    have k3 : L.2.2.1 3 = u.1 3 := (g7 3 (by decide)).trans (zS_ne _ _ (by decide))
    have k1 : L.2.2.1 1 = u.1 1 := (g7 1 (by decide)).trans (zS_ne _ _ (by decide))
    refine Or.inr ⟨rfl, j', l', s', row, by omega, g5, g3, g2, hrow, ?_, ?_, ?_, ?_, ?_, g10, fun c => ?_⟩
    · exact (zS_ne _ _ (by decide)).trans g6
    · exact (zS_ne _ _ (by decide)).trans k1
    · refine (zS_eq _ _ _).trans ?_
      show L.2.2.1 3 + (1 : Int32) = _
      rw [k3]
    · show (zA (zA L.2.2 6 _) 7 _).2 = _
      rw [k3, g1]
      unfold zrw zA
      rw [g8]
      rfl
    · rw [zD_go hT z.1, hd z.1, if_pos hx, if_neg (show ¬ (3 : Int32) = -1 by decide)]
      exact g9
    · rw [hC c, zC_go hT z.1, hx, if_neg (show ¬ nI 58 = (59 : Int32) by decide), if_pos (show nI 58 = (58 : Int32) by decide)]
      have := g11 (nI row) c
      rw [nI_0] at this
      exact this
  · rw [if_neg z, if_pos rfl]
    dsimp only
    rw [if_pos rfl]
    refine Or.inl ⟨rfl, ?_⟩
    show _ = u.1 2 + (0 : Int32)
    rw [hW.2.1, Int32.add_zero]
    exact zD_bad hT hW.2.2.1 h3 (fun h => by rw [hd h, if_neg (by omega)])
theorem zrow_read (hT : zT vp t X) {i : Nat} {w : zCV} (hW : zW w t X i) : zRow vp t X i i 0 w (f_X6_readsRow w) := by
  obtain ⟨t1, t2, t3, t4⟩ := id hT
  rw [zrr_cut]
  have hx := t3 i
  rw [show f_X6_isHere w (48 : Int32) (57 : Int32) = if i < t ∧ 48 ≤ X i ∧ X i ≤ 57 then (1 : Int32) else (0 : Int32) from zhe (a := 48) (b := 57) hW t2 t3 (by omega) (by omega)]
  by_cases z : i < t ∧ 48 ≤ X i ∧ X i ≤ 57
  · rw [if_pos z, if_neg (show ¬ (1 : Int32) = 0 by decide)]
    obtain ⟨y, hy⟩ : ∃ y, X i = 48 + y := ⟨X i - 48, by omega⟩
    have sub48 : ∀ q, nI (48 + q) - (48 : Int32) = nI q := fun q => by rw [show nI (48 + q) = nI q + (48 : Int32) by rw [show (48 : Int32) = nI 48 from rfl, nI_add, Nat.add_comm], Int32.add_sub_cancel]
    have ev : ((w.2 5) (w.1 2).toNatClampNeg) - (48 : Int32) = nI y := by
      rw [hW.2.1, nI_clamp (by omega), hW.2.2.2 i z.1, hy, sub48]
    have hW1 : zW (zS w 2 ((w.1 2) + (1 : Int32))) t X (i + 1) := ⟨hW.1, by
      rw [zS_eq, hW.2.1, nI_1], by omega, hW.2.2.2⟩
    have hC1 : ∀ c, zC vp t i 0 0 0 c = zC vp t (i + 1) (nI y) 0 0 c := fun c => by
      rw [zC_go hT z.1, hy, if_neg (show ¬ nI (48 + y) = (59 : Int32) from fun w => by rw [show (59 : Int32) = nI 59 from rfl, nI_eq (by omega) (by omega)] at w; omega), if_neg (show ¬ nI (48 + y) = (58 : Int32) from fun w => by rw [show (58 : Int32) = nI 58 from rfl, nI_eq (by omega) (by omega)] at w; omega), if_pos rfl, show ((0 : Int32) * (10 : Int32)) + nI (48 + y) = nI (48 + y) by rw [show (0 : Int32) * (10 : Int32) = 0 by decide, Int32.zero_add], sub48]
    have up : ∀ {j : Nat} {due : Int32} {u : zCV} {r : Int32 × zCV}, (∀ k, k ≠ 2 → u.1 k = w.1 k) → u.2 = w.2 → zD vp t i 0 = zD vp t j due → zRow vp t X i j due u r → zRow vp t X i i 0 w r := by
      intro j due u r h1 h2 h3 h
      rcases h with ⟨a1, a2⟩ | ⟨a1, j', l, s, row, b1, b2, b3, b4, b5, b6, b7, b8, b9, b10, b11, b12⟩
      · exact Or.inl ⟨a1, h3.trans a2⟩
      · refine Or.inr ⟨a1, j', l, s, row, b1, b2, b3, b4, b5, b6, b7.trans (h1 1 (by decide)), b8.trans (by rw [h1 3 (by decide)]), b9.trans ?_, h3.trans b10, b11, b12⟩
        unfold zrw zA
        rw [h1 3 (by decide), h2]
    rw [ev]
    by_cases y1 : y = 1
    · subst y1
      rw [if_pos (show nI 1 = (1 : Int32) from rfl)]
      have D1 : zD vp t i 0 = zD vp t (i + 1) 1 := by
        have hd : f_X3_dueBehind 0 (nI (X i)) = 1 := by rw [zdue0 _ (by omega), if_pos (show X i = 49 by omega)]
        rw [zD_go hT z.1, hd, if_neg (show ¬ (1 : Int32) = -1 by decide)]
      have hx1 := t3 (i + 1)
      rw [show f_X6_isHere (zS w 2 ((w.1 2) + (1 : Int32))) (48 : Int32) (53 : Int32) = if i + 1 < t ∧ 48 ≤ X (i + 1) ∧ X (i + 1) ≤ 53 then (1 : Int32) else (0 : Int32) from zhe (a := 48) (b := 53) hW1 t2 t3 (by omega) (by omega)]
      by_cases q : i + 1 < t ∧ 48 ≤ X (i + 1) ∧ X (i + 1) ≤ 53
      · rw [if_pos q, if_neg (show ¬ (1 : Int32) = 0 by decide)]
        obtain ⟨d, hd⟩ : ∃ d, X (i + 1) = 48 + d := ⟨X (i + 1) - 48, by omega⟩
        have er : (((10 : Int32) + ((w.2 5) ((zS w 2 ((w.1 2) + (1 : Int32))).1 2).toNatClampNeg)) - (48 : Int32)) = nI (10 + d) := by
          rw [hW1.2.1, nI_clamp (by omega), hW.2.2.2 (i + 1) q.1, hd, show (10 : Int32) + nI (48 + d) = nI (48 + (10 + d)) by rw [show (10 : Int32) = nI 10 from rfl, nI_add, show 10 + (48 + d) = 48 + (10 + d) by omega], sub48]
        rw [er]
        have hW2 : zW (zS (zS w 2 ((w.1 2) + (1 : Int32))) 2 (((zS w 2 ((w.1 2) + (1 : Int32))).1 2) + (1 : Int32))) t X (i + 2) := ⟨hW.1, by
          rw [zS_eq, hW1.2.1, nI_1], by omega, hW.2.2.2⟩
        refine up (fun k hk => (zS_ne _ _ hk).trans (zS_ne _ _ hk)) rfl (D1.trans ?_) (zRT_row (due := 2) hT hW2 (by omega) (by omega) (by decide) (fun h => zdue2 _ (by have := t3 (i + 2); omega)) (fun c => ?_))
        · rw [zD_go hT q.1, zdue1 _ (by omega), if_pos q.2, if_neg (show ¬ (2 : Int32) = -1 by decide)]
        · rw [hC1 c, zC_go hT q.1, hd, if_neg (show ¬ nI (48 + d) = (59 : Int32) from fun w => by rw [show (59 : Int32) = nI 59 from rfl, nI_eq (by omega) (by omega)] at w; omega), if_neg (show ¬ nI (48 + d) = (58 : Int32) from fun w => by rw [show (58 : Int32) = nI 58 from rfl, nI_eq (by omega) (by omega)] at w; omega), if_pos rfl, show (nI 1 * (10 : Int32)) + nI (48 + d) = nI (48 + (10 + d)) by rw [show (10 : Int32) = nI 10 from rfl, znI_mul, nI_add, show 1 * 10 + (48 + d) = 48 + (10 + d) by omega], sub48]
      · rw [if_neg q, if_pos rfl]
        refine up (fun k hk => zS_ne _ _ hk) rfl D1 (zRT_row (due := 1) (row := 1) hT hW1 (by omega) (by omega) (by decide) (fun h => ?_) hC1)
        rw [zdue1 _ (by omega), if_neg (fun z => q ⟨h, z⟩)]
    · rw [if_neg (show ¬ nI y = (1 : Int32) from fun w => by rw [show (1 : Int32) = nI 1 from rfl, nI_eq (by omega) (by omega)] at w; exact y1 w)]
      refine up (fun k hk => zS_ne _ _ hk) rfl ?_ (zRT_row (due := 2) hT hW1 (by omega) (by omega) (by decide) (fun h => zdue2 _ (by have := t3 (i + 1); omega)) hC1)
      have hd : f_X3_dueBehind 0 (nI (X i)) = 2 := by rw [zdue0 _ (by omega), if_neg (show ¬ X i = 49 by omega), if_pos z.2]
      rw [zD_go hT z.1, hd, if_neg (show ¬ (2 : Int32) = -1 by decide)]
  · rw [if_neg z, if_pos rfl]
    refine Or.inl ⟨rfl, ?_⟩
    show _ = w.1 2
    rw [hW.2.1]
    exact zD_bad hT hW.2.2.1 (by decide) (fun h => by rw [zdue0 _ (by omega), if_neg (by omega), if_neg (by omega)])
end ZTY
