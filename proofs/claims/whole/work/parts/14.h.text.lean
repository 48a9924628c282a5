/-! A text, as both sides read it. -/
def zT (vp : zCV) (t : Nat) (X : Nat → Nat) : Prop := vp.1 0 = nI t ∧ t ≤ 60 ∧ (∀ i, X i ≤ 255) ∧ ∀ i, i < t → vp.2 0 i = nI (X i)
def zW (w : zCV) (t : Nat) (X : Nat → Nat) (i : Nat) : Prop := w.1 1 = nI t ∧ w.1 2 = nI i ∧ i ≤ t ∧ ∀ j, j < t → w.2 5 j = nI (X j)
def zD (vp : zCV) (t i : Nat) (due : Int32) : Int32 := f_X3_firstFault_L4 vp (t - i) i due
def zC (vp : zCV) (t i : Nat) (R P J : Int32) (c : zCV) : zCV := (f_X3_changeRows_L10 vp (t + 1 - i) i R P J c).2.2.2
set_option maxRecDepth 100000 in
theorem zdue0 : ∀ x, x < 256 → f_X3_dueBehind 0 (nI x) = if x = 49 then 1 else if 48 ≤ x ∧ x ≤ 57 then 2 else -1 := by decide +kernel
set_option maxRecDepth 100000 in
theorem zdue1 : ∀ x, x < 256 → f_X3_dueBehind 1 (nI x) = if 48 ≤ x ∧ x ≤ 53 then 2 else if x = 58 then 3 else -1 := by decide +kernel
set_option maxRecDepth 100000 in
theorem zdue2 : ∀ x, x < 256 → f_X3_dueBehind 2 (nI x) = if x = 58 then 3 else -1 := by decide +kernel
set_option maxRecDepth 100000 in
theorem zdue3 : ∀ l, l < 7 → ∀ x, x < 256 → f_X3_dueBehind (nI (3 + l)) (nI x) = if x = 59 then 0 else if 48 + l ≤ x ∧ x ≤ 53 then nI (3 + (x - 48 + 1)) else -1 := by decide +kernel
set_option maxRecDepth 100000 in
theorem zadd64 : ∀ s, s < 64 → ∀ y, y < 6 → ¬ ((nI s ||| ((1 : Int32) <<< (((nI (48 + y)) - (48 : Int32)) &&& 31))) < 0 ∨ 64 ≤ (nI s ||| ((1 : Int32) <<< (((nI (48 + y)) - (48 : Int32)) &&& 31))).toNatClampNeg) := by decide +kernel
theorem znI_ne1 {j : Nat} (h : j < 2 ^ 31) : ¬ nI j = (-1 : Int32) := by
  intro q
  have h1 := nI_toInt h
  rw [q, show (-1 : Int32).toInt = -1 by decide] at h1
  omega
section ZTX
variable {vp : zCV} {t : Nat} {X : Nat → Nat}
theorem zD_end (hT : zT vp t X) (due : Int32) : zD vp t t due = if due < 3 then nI t else -6 := by
  unfold zD
  rw [Nat.sub_self]
  show (if due < (3 : Int32) then vp.1 0 else (-6 : Int32)) = _
  rw [hT.1]
theorem zD_go (hT : zT vp t X) {i : Nat} (hi : i < t) (due : Int32) : zD vp t i due = if f_X3_dueBehind due (nI (X i)) = (-1 : Int32) then nI i else zD vp t (i + 1) (f_X3_dueBehind due (nI (X i))) := by
  unfold zD
  rw [show t - i = (t - (i + 1)) + 1 by omega, f_X3_firstFault_L4, nI_clamp (by have := hT.2.1; omega), hT.2.2.2 i hi]
theorem zC_go (hT : zT vp t X) {i : Nat} (hi : i < t) (R P J : Int32) (c : zCV) : zC vp t i R P J c = if nI (X i) = (59 : Int32) then (if f_X5_isRow R = (0 : Int32) then zC vp t (i + 1) 0 0 0 c else zC vp t (i + 1) 0 0 0 (f_X1_giveRow c R P)) else if nI (X i) = (58 : Int32) then zC vp t (i + 1) R P 1 c else if J = (0 : Int32) then zC vp t (i + 1) (((R * (10 : Int32)) + nI (X i)) - (48 : Int32)) P J c else zC vp t (i + 1) R (P ||| ((1 : Int32) <<< ((nI (X i) - (48 : Int32)) &&& 31))) J c := by
  unfold zC
  have h60 := hT.2.1
  rw [show t + 1 - i = (t + 1 - (i + 1)) + 1 by omega, f_X3_changeRows_L10, hT.1, if_neg (by rw [nI_eq (by omega) (by omega)]; omega), nI_clamp (by omega), hT.2.2.2 i hi]
  repeat' split
  all_goals rfl
theorem zC_end (hT : zT vp t X) (R P J : Int32) (c : zCV) : zC vp t t R P J c = if f_X5_isRow R = (0 : Int32) then c else f_X1_giveRow c R P := by
  unfold zC
  rw [show t + 1 - t = 0 + 1 by omega, f_X3_changeRows_L10, hT.1, if_pos rfl]
  split <;> rfl
theorem zhe {w : zCV} {i a b : Nat} (hW : zW w t X i) (ht : t ≤ 60) (hX : ∀ i, X i ≤ 255) (ha : a ≤ 255) (hb : b ≤ 255) : f_X6_isHere w (nI a) (nI b) = if i < t ∧ a ≤ X i ∧ X i ≤ b then (1 : Int32) else (0 : Int32) := by
  obtain ⟨w1, w2, w3, w4⟩ := hW
  unfold f_X6_isHere
  rw [w1, w2]
  by_cases h : i < t
  · rw [if_neg (show ¬ nI t ≤ nI i from nI_ge h (by omega)), nI_clamp (by omega), w4 i h]
    have hx := hX i
    have := zin_i (x := nI (X i)) (a := (nI a).toInt64) (b := (nI b).toInt64) (A := a) (B := b) (by rw [zi64, nI_toInt (by omega)]) (by rw [zi64, nI_toInt (by omega)])
    rw [nI_toInt (by omega)] at this
    by_cases q : a ≤ X i ∧ X i ≤ b
    · rw [if_neg (this.mpr (by omega)), if_pos ⟨h, q⟩]
    · rw [if_pos (Classical.byContradiction fun z => q (by have := this.mp z; omega)), if_neg (fun z => q z.2)]
  · rw [if_pos (show nI t ≤ nI i from nI_le (by omega) (by omega)), if_neg (fun z => h z.1)]
theorem zpl (hT : zT vp t X) : ∀ (n l s j : Nat) (w : zCV), 7 ≤ n + l → l ≤ 6 → s < 64 → zW w t X j →
    ∃ l' s' j', (f_X6_readsRow_L93 n (nI s) (nI l) w).1 = nI s' ∧ s' < 64 ∧ l' ≤ 6 ∧ j ≤ j' ∧ j' ≤ t ∧ (f_X6_readsRow_L93 n (nI s) (nI l) w).2.2.1 2 = nI j' ∧ (∀ k, k ≠ 2 → (f_X6_readsRow_L93 n (nI s) (nI l) w).2.2.1 k = w.1 k) ∧ (f_X6_readsRow_L93 n (nI s) (nI l) w).2.2.2 = w.2 ∧ zD vp t j (nI (3 + l)) = zD vp t j' (nI (3 + l')) ∧ ¬ (j' < t ∧ 48 + l' ≤ X j' ∧ X j' ≤ 53) ∧ ∀ R c, zC vp t j R (nI s) 1 c = zC vp t j' R (nI s') 1 c := by
  obtain ⟨t1, t2, t3, t4⟩ := id hT
  intro n
  induction n with
  | zero => intro l s j w h hl; exact absurd h (by omega)
  | succ n ih =>
    intro l s j w h hl hs hW
    rw [f_X6_readsRow_L93]
    by_cases q : l = 6
    · subst q
      rw [if_pos (show (6 : Int32) ≤ nI 6 by decide)]
      exact ⟨6, s, j, rfl, hs, by omega, by omega, hW.2.2.1, hW.2.1, fun _ _ => rfl, rfl, rfl, by omega, fun _ _ => rfl⟩
    · have e : r_X6_readsRow_106 (nI l) w = if j < t ∧ 48 + l ≤ X j ∧ X j ≤ 53 then (1 : Int32) else (0 : Int32) := by
        unfold r_X6_readsRow_106
        rw [show (48 : Int32) + nI l = nI (48 + l) by rw [show (48 : Int32) = nI 48 from rfl, nI_add]]
        exact zhe (a := 48 + l) (b := 53) hW t2 t3 (by omega) (by omega)
      rw [if_neg (show ¬ (6 : Int32) ≤ nI l from nI_ge (b := 6) (by omega) (by omega)), e]
      by_cases z : j < t ∧ 48 + l ≤ X j ∧ X j ≤ 53
      · rw [if_pos z, if_neg (show ¬ (1 : Int32) = 0 by decide)]
        obtain ⟨y, hy⟩ : ∃ y, X j = 48 + y := ⟨X j - 48, by omega⟩
        have ew : (w.2 5) (w.1 2).toNatClampNeg = nI (48 + y) := by rw [hW.2.1, nI_clamp (by omega), hW.2.2.2 j z.1, hy]
        obtain ⟨s2, hs2, es2⟩ := zof64 (zadd64 s hs y (by omega))
        have el : (nI (48 + y) - (48 : Int32)) + (1 : Int32) = nI (y + 1) := by
          rw [show nI (48 + y) = nI y + (48 : Int32) by rw [show (48 : Int32) = nI 48 from rfl, nI_add, Nat.add_comm], Int32.add_sub_cancel, nI_1]
        rw [ew, es2, el]
        have hW2 : zW (s_X6_readsRow_151 w) t X (j + 1) := ⟨hW.1, by
          show w.1 2 + (1 : Int32) = _
          rw [hW.2.1, nI_1], by omega, hW.2.2.2⟩
        obtain ⟨l', s', j', g1, g2, g3, g4, g5, g6, g7, g8, g9, g10, g11⟩ := ih (y + 1) s2 (j + 1) _ (by omega) (by omega) hs2 hW2
        refine ⟨l', s', j', g1, g2, g3, by omega, g5, g6, fun k hk => (g7 k hk).trans (zS_ne _ _ hk), g8, ?_, g10, fun R c => ?_⟩
        · have hd : f_X3_dueBehind (nI (3 + l)) (nI (X j)) = nI (3 + (y + 1)) := by
            rw [zdue3 l (by omega) _ (by have := t3 j; omega), if_neg (show ¬ X j = 59 by omega), if_pos z.2, hy, show 48 + y - 48 + 1 = y + 1 by omega]
          rw [zD_go hT z.1, hd, if_neg (znI_ne1 (by omega))]
          exact g9
        · rw [zC_go hT z.1, hy, if_neg (show ¬ nI (48 + y) = (59 : Int32) from fun w => by rw [show (59 : Int32) = nI 59 from rfl, nI_eq (by omega) (by omega)] at w; omega), if_neg (show ¬ nI (48 + y) = (58 : Int32) from fun w => by rw [show (58 : Int32) = nI 58 from rfl, nI_eq (by omega) (by omega)] at w; omega), if_neg (show ¬ (1 : Int32) = 0 by decide), es2]
          exact g11 R c
      · rw [if_neg z, if_pos rfl]
        exact ⟨l, s, j, rfl, hs, hl, Nat.le_refl _, hW.2.2.1, hW.2.1, fun _ _ => rfl, rfl, rfl, z, fun _ _ => rfl⟩
end ZTX
