/-! All the falls of a row. -/
section ZFL
variable {c : zCV} {r : Nat} {g : Nat → Bool} {i : Nat}
theorem zLo_f (h : g i = false) : zLo c r g i = zLo c r g (i + 1) := by
  have a7 : zhaz c g (i + 1) = zhaz c g i := by
    show (if (g i && zen c i) = true then _ else _) = _
    rw [h, Bool.false_and, if_neg Bool.false_ne_true]
  have a1 : zrow c r g (i + 1) = zrow c r g i := by
    show (if (g i && zwo c r i) = true then _ else _) = _
    rw [h, Bool.false_and, if_neg Bool.false_ne_true]
  have a8 : zany (fun k => g k && zhs c k) (i + 1) = zany (fun k => g k && zhs c k) i := by
    show (zany (fun k => g k && zhs c k) i || (g i && zhs c i)) = _
    rw [h, Bool.false_and, Bool.or_false]
  have a15 : zcn (fun k => g k && zwo c r k) (i + 1) = zcn (fun k => g k && zwo c r k) i := by
    show zcn (fun k => g k && zwo c r k) i + (if (g i && zwo c r i) = true then (1 : Int32) else 0) = _
    rw [h, Bool.false_and, if_neg Bool.false_ne_true, Int32.add_zero]
  unfold zLo
  rw [a7, a1, a8, a15]
  refine Prod.ext rfl (funext fun j => ?_)
  by_cases e1 : j = 1
  · subst e1; rfl
  have hl : ∀ (s : Nat) (b : Bool), (s < i ∧ (g s && b) = true) ↔ (s < i + 1 ∧ (g s && b) = true) := by
    intro s b
    constructor
    · rintro ⟨h1, h2⟩; exact ⟨by omega, h2⟩
    · rintro ⟨h1, h2⟩
      refine ⟨?_, h2⟩
      have : s ≠ i := fun e => by rw [e, h, Bool.false_and] at h2; exact absurd h2 Bool.false_ne_true
      omega
  by_cases e2 : j = 2
  · subst e2
    show (fun x => if 6 * r ≤ x ∧ x < 6 * r + i ∧ g (x - 6 * r) = true then c.2 2 x + (1 : Int32) else c.2 2 x) = fun x => if 6 * r ≤ x ∧ x < 6 * r + (i + 1) ∧ g (x - 6 * r) = true then c.2 2 x + (1 : Int32) else c.2 2 x
    funext x
    by_cases q : 6 * r ≤ x ∧ x < 6 * r + i ∧ g (x - 6 * r) = true
    · rw [if_pos q, if_pos ⟨q.1, by omega, q.2.2⟩]
    · rw [if_neg q, if_neg]
      rintro ⟨q1, q2, q3⟩
      refine q ⟨q1, ?_, q3⟩
      have : x - 6 * r ≠ i := fun e => by rw [e, h] at q3; exact absurd q3 Bool.false_ne_true
      omega
  by_cases e3 : j = 3
  · subst e3; simp only [hl, reduceCtorEq, if_false, if_true, Nat.reduceEqDiff]
  by_cases e4 : j = 4
  · subst e4; simp only [hl, reduceCtorEq, if_false, if_true, Nat.reduceEqDiff]
  by_cases e5 : j = 5
  · subst e5; simp only [hl, reduceCtorEq, if_false, if_true, Nat.reduceEqDiff]
  by_cases e6 : j = 6
  · subst e6; simp only [hl, reduceCtorEq, if_false, if_true, Nat.reduceEqDiff]
  · simp only [e1, e2, e3, e4, e5, e6, if_false]
theorem zLo_t (hi : i < 6) (h7 : vp_in (c.1 7) 64) (h : g i = true) : zWe (zFa (zLo c r g i) i) r i = zLo c r g (i + 1) := by
  have n3 : ¬ (i < i ∧ (g i && zen c i) = true) := fun h => absurd h.1 (Nat.lt_irrefl i)
  have hen : zen (zLo c r g i) i = zen c i := by
    show decide (c.2 0 1 ≤ (if i < i ∧ (g i && zen c i) = true then c.2 3 i - c.2 0 1 else c.2 3 i)) = _
    rw [if_neg n3]; rfl
  have hhs : zhs (zLo c r g i) i = zhs c i := by
    show decide (¬ zbt (zhaz c g i) i = 0) = _
    rw [(zhaz_bt h7 g i (by omega)).2 i hi, if_neg n3]; rfl
  have hwo : zwo (zFa (zLo c r g i) i) r i = zwo c r i := by
    show (decide (¬ c.2 0 2 = 0) && decide (¬ (if 6 * r ≤ 6 * r + i ∧ 6 * r + i < 6 * r + i ∧ g (6 * r + i - 6 * r) = true then c.2 2 (6 * r + i) + (1 : Int32) else c.2 2 (6 * r + i)) + (1 : Int32) < c.2 0 2)) = _
    rw [if_neg (by omega)]; rfl
  have a7 : zhaz c g (i + 1) = if zen c i = true then zhaz c g i ||| zbi i else zhaz c g i := by
    show (if (g i && zen c i) = true then _ else _) = _
    rw [h, Bool.true_and]
  have a1 : zrow c r g (i + 1) = if zwo c r i = true then zdrop (zrow c r g i) i else zrow c r g i := by
    show (if (g i && zwo c r i) = true then _ else _) = _
    rw [h, Bool.true_and]
  have a8 : zany (fun k => g k && zhs c k) (i + 1) = (zany (fun k => g k && zhs c k) i || zhs c i) := by
    show (zany (fun k => g k && zhs c k) i || (g i && zhs c i)) = _
    rw [h, Bool.true_and]
  have a15 : zcn (fun k => g k && zwo c r k) (i + 1) = zcn (fun k => g k && zwo c r k) i + (if zwo c r i = true then (1 : Int32) else 0) := by
    show zcn (fun k => g k && zwo c r k) i + (if (g i && zwo c r i) = true then (1 : Int32) else 0) = _
    rw [h, Bool.true_and]
  unfold zWe
  rw [hwo]
  refine Prod.ext (funext fun j => ?_) (funext fun j => ?_)
  · show (if j = 15 then (if zwo c r i = true then (zFa (zLo c r g i) i).1 15 + (1 : Int32) else (zFa (zLo c r g i) i).1 15) else (zFa (zLo c r g i) i).1 j) = (if j = 7 then zhaz c g (i + 1) else if j = 8 then (if zany (fun k => g k && zhs c k) (i + 1) = true then (1 : Int32) else c.1 8) else if j = 15 then c.1 15 + zcn (fun k => g k && zwo c r k) (i + 1) else c.1 j)
    rw [a7, a8, a15]
    by_cases e15 : j = 15
    · subst e15
      show (if zwo c r i = true then (c.1 15 + zcn (fun k => g k && zwo c r k) i) + (1 : Int32) else (c.1 15 + zcn (fun k => g k && zwo c r k) i)) = c.1 15 + (zcn (fun k => g k && zwo c r k) i + (if zwo c r i = true then (1 : Int32) else 0))
      by_cases b : zwo c r i = true
      · rw [if_pos b, if_pos b, Int32.add_assoc]
      · rw [if_neg b, if_neg b, Int32.add_zero]
    · rw [if_neg e15]
      show (if j = 7 then (if zen (zLo c r g i) i = true then zhaz c g i ||| zbi i else zhaz c g i) else if j = 8 then (if zhs (zLo c r g i) i = true then (1 : Int32) else (if zany (fun k => g k && zhs c k) i = true then (1 : Int32) else c.1 8)) else (zLo c r g i).1 j) = _
      rw [hen, hhs]
      by_cases e7 : j = 7
      · rw [if_pos e7, if_pos e7]
      · rw [if_neg e7, if_neg e7]
        by_cases e8 : j = 8
        · rw [if_pos e8, if_pos e8]
          cases zhs c i <;> cases zany (fun k => g k && zhs c k) i <;> rfl
        · rw [if_neg e8, if_neg e8, if_neg e15]
          show (if j = 7 then zhaz c g i else if j = 8 then (if zany (fun k => g k && zhs c k) i = true then (1 : Int32) else c.1 8) else if j = 15 then c.1 15 + zcn (fun k => g k && zwo c r k) i else c.1 j) = c.1 j
          rw [if_neg e7, if_neg e8, if_neg e15]
  · have hl : ∀ (s : Nat) (b : Nat → Bool) (x y : Int32), s ≠ i → (if s < i ∧ (g s && b s) = true then x else y) = (if s < i + 1 ∧ (g s && b s) = true then x else y) := by
      intro s b x y hs
      by_cases q : s < i ∧ (g s && b s) = true
      · rw [if_pos q, if_pos ⟨by omega, q.2⟩]
      · rw [if_neg q, if_neg (fun z => q ⟨by omega, z.2⟩)]
    by_cases e1 : j = 1
    · subst e1
      show (if zwo c r i = true then upd (upd (c.2 1) r (zrow c r g i)) r (zdrop (upd (c.2 1) r (zrow c r g i) r) i) else upd (c.2 1) r (zrow c r g i)) = upd (c.2 1) r (zrow c r g (i + 1))
      rw [a1, zupd_eq]
      by_cases b : zwo c r i = true
      · rw [if_pos b, if_pos b]
        funext x
        by_cases e : x = r
        · subst e; rw [zupd_eq, zupd_eq]
        · rw [zupd_ne _ _ e, zupd_ne _ _ e, zupd_ne _ _ e]
      · rw [if_neg b, if_neg b]
    by_cases e2 : j = 2
    · subst e2
      show upd (fun x => if 6 * r ≤ x ∧ x < 6 * r + i ∧ g (x - 6 * r) = true then c.2 2 x + (1 : Int32) else c.2 2 x) (6 * r + i) ((if 6 * r ≤ 6 * r + i ∧ 6 * r + i < 6 * r + i ∧ g (6 * r + i - 6 * r) = true then c.2 2 (6 * r + i) + (1 : Int32) else c.2 2 (6 * r + i)) + (1 : Int32)) = fun x => if 6 * r ≤ x ∧ x < 6 * r + (i + 1) ∧ g (x - 6 * r) = true then c.2 2 x + (1 : Int32) else c.2 2 x
      rw [if_neg (by omega)]
      funext x
      by_cases e : x = 6 * r + i
      · subst e
        rw [zupd_eq, if_pos ⟨by omega, by omega, by rw [show 6 * r + i - 6 * r = i by omega]; exact h⟩]
      · rw [zupd_ne _ _ e]
        by_cases q : 6 * r ≤ x ∧ x < 6 * r + i ∧ g (x - 6 * r) = true
        · rw [if_pos q, if_pos ⟨q.1, by omega, q.2.2⟩]
        · rw [if_neg q, if_neg (fun z => q ⟨z.1, by omega, z.2.2⟩)]
    by_cases e3 : j = 3
    · subst e3
      show (if zen (zLo c r g i) i = true then upd (fun s => if s < i ∧ (g s && zen c s) = true then c.2 3 s - c.2 0 1 else c.2 3 s) i ((if i < i ∧ (g i && zen c i) = true then c.2 3 i - c.2 0 1 else c.2 3 i) - c.2 0 1) else (fun s => if s < i ∧ (g s && zen c s) = true then c.2 3 s - c.2 0 1 else c.2 3 s)) = fun s => if s < i + 1 ∧ (g s && zen c s) = true then c.2 3 s - c.2 0 1 else c.2 3 s
      rw [hen, if_neg n3]
      funext s
      by_cases b : zen c i = true
      · rw [if_pos b]
        by_cases e : s = i
        · subst e; rw [zupd_eq, if_pos ⟨by omega, by rw [h, b]; rfl⟩]
        · rw [zupd_ne _ _ e]; exact hl s (zen c) _ _ e
      · rw [if_neg b]
        by_cases e : s = i
        · subst e; rw [if_neg n3, if_neg (fun z => b (by have := z.2; rw [h, Bool.true_and] at this; exact this))]
        · exact hl s (zen c) _ _ e
    by_cases e4 : j = 4
    · subst e4
      show (if zen (zLo c r g i) i = true then upd (fun s => if s < i ∧ (g s && zen c s) = true then c.2 4 s + (1 : Int32) else c.2 4 s) i ((if i < i ∧ (g i && zen c i) = true then c.2 4 i + (1 : Int32) else c.2 4 i) + (1 : Int32)) else (fun s => if s < i ∧ (g s && zen c s) = true then c.2 4 s + (1 : Int32) else c.2 4 s)) = fun s => if s < i + 1 ∧ (g s && zen c s) = true then c.2 4 s + (1 : Int32) else c.2 4 s
      rw [hen, if_neg n3]
      funext s
      by_cases b : zen c i = true
      · rw [if_pos b]
        by_cases e : s = i
        · subst e; rw [zupd_eq, if_pos ⟨by omega, by rw [h, b]; rfl⟩]
        · rw [zupd_ne _ _ e]; exact hl s (zen c) _ _ e
      · rw [if_neg b]
        by_cases e : s = i
        · subst e; rw [if_neg n3, if_neg (fun z => b (by have := z.2; rw [h, Bool.true_and] at this; exact this))]
        · exact hl s (zen c) _ _ e
    by_cases e5 : j = 5
    · subst e5
      have n5 : ¬ (i < i ∧ (g i && !zen c i) = true) := fun h => absurd h.1 (Nat.lt_irrefl i)
      show (if zen (zLo c r g i) i = true then (fun s => if s < i ∧ (g s && !zen c s) = true then c.2 5 s + (1 : Int32) else c.2 5 s) else upd (fun s => if s < i ∧ (g s && !zen c s) = true then c.2 5 s + (1 : Int32) else c.2 5 s) i ((if i < i ∧ (g i && !zen c i) = true then c.2 5 i + (1 : Int32) else c.2 5 i) + (1 : Int32))) = fun s => if s < i + 1 ∧ (g s && !zen c s) = true then c.2 5 s + (1 : Int32) else c.2 5 s
      rw [hen, if_neg n5]
      funext s
      by_cases b : zen c i = true
      · rw [if_pos b]
        by_cases e : s = i
        · subst e; rw [if_neg n5, if_neg (fun z => by have := z.2; rw [h, b] at this; exact absurd this (by decide))]
        · exact hl s (fun s => !zen c s) _ _ e
      · rw [if_neg b]
        by_cases e : s = i
        · subst e; rw [zupd_eq, if_pos ⟨by omega, by rw [h, Bool.eq_false_iff.mpr b]; rfl⟩]
        · rw [zupd_ne _ _ e]; exact hl s (fun s => !zen c s) _ _ e
    by_cases e6 : j = 6
    · subst e6
      have n6 : ¬ (i < i ∧ (g i && zhs c i) = true) := fun h => absurd h.1 (Nat.lt_irrefl i)
      show (if zhs (zLo c r g i) i = true then upd (fun s => if s < i ∧ (g s && zhs c s) = true then c.2 6 s + (1 : Int32) else c.2 6 s) i ((if i < i ∧ (g i && zhs c i) = true then c.2 6 i + (1 : Int32) else c.2 6 i) + (1 : Int32)) else (fun s => if s < i ∧ (g s && zhs c s) = true then c.2 6 s + (1 : Int32) else c.2 6 s)) = fun s => if s < i + 1 ∧ (g s && zhs c s) = true then c.2 6 s + (1 : Int32) else c.2 6 s
      rw [hhs, if_neg n6]
      funext s
      by_cases b : zhs c i = true
      · rw [if_pos b]
        by_cases e : s = i
        · subst e; rw [zupd_eq, if_pos ⟨by omega, by rw [h, b]; rfl⟩]
        · rw [zupd_ne _ _ e]; exact hl s (zhs c) _ _ e
      · rw [if_neg b]
        by_cases e : s = i
        · subst e; rw [if_neg n6, if_neg (fun z => b (by have := z.2; rw [h, Bool.true_and] at this; exact this))]
        · exact hl s (zhs c) _ _ e
    · simp only [zLo, zFa, e1, e2, e3, e4, e5, e6, if_false]
end ZFL
/-- which places a set has -/
def zpg (p : Int32) (k : Nat) : Bool := decide (¬ zbt p k = 0)
theorem zfalls {c : zCV} {r : Nat} (hr : r < 16) (h4 : c.1 4 = nI r) (h7 : vp_in (c.1 7) 64) (p : Int32) : ∀ (n i : Nat), i + n = 6 → f_X0_letStampsFall_L2 p n i (zLo c r (zpg p) i) = zLo c r (zpg p) 6
  | 0, i, h => by
    have : i = 6 := by omega
    subst this
    rfl
  | n + 1, i, h => by
    unfold f_X0_letStampsFall_L2
    by_cases q : zbt p i = 0
    · rw [if_pos (show (p >>> ((nI i) &&& 31)) &&& (1 : Int32) = (0 : Int32) from q), zLo_f (show zpg p i = false by unfold zpg; rw [decide_eq_false_iff_not]; exact fun h => h q)]
      exact zfalls hr h4 h7 p n (i + 1) (by omega)
    · rw [if_neg (show ¬ (p >>> ((nI i) &&& 31)) &&& (1 : Int32) = (0 : Int32) from q)]
      have e : s_X0_letStampsFall_39 i (zLo c r (zpg p) i) = zLo c r (zpg p) (i + 1) := by
        unfold s_X0_letStampsFall_39 s_X0_letStampsFall_18
        rw [zFa_eq _ (show i < 6 by omega), show (zFa (zLo c r (zpg p) i) i).1 4 = nI r from h4, zWe_eq _ hr (show i < 6 by omega)]
        exact zLo_t (by omega) h7 (show zpg p i = true by unfold zpg; rw [decide_eq_true_iff]; exact q)
      rw [e]
      exact zfalls hr h4 h7 p n (i + 1) (by omega)
/-- the row where the drum stands lets its stamps fall -/
theorem zfall_all {c : zCV} {r : Nat} (hr : r < 16) (h4 : c.1 4 = nI r) (h7 : vp_in (c.1 7) 64) : s_X0_makeOneStep_56 c = zLo c r (zpg (c.2 1 r)) 6 := by
  unfold s_X0_makeOneStep_56 f_X0_letStampsFall
  rw [zfu_eq, h4, nI_clamp (by omega)]
  have := zfalls hr h4 h7 (c.2 1 r) 6 0 rfl
  rw [zLo_0] at this
  exact this
