/-! The class's clerk as the reference's row of numbers. -/
def zbit (x : Int32) (p : Nat) : Int32 := (x >>> ((nI p) &&& 31)) &&& (1 : Int32)
def zVw (c : zCV) (k : Nat) : Int32 :=
  if k < 4 then c.2 0 k else if k < 16 then c.1 k else if k < 22 then c.2 3 (k - 16) else if k < 28 then c.2 4 (k - 22) else if k < 34 then c.2 5 (k - 28) else if k < 40 then c.2 6 (k - 34)
  else if zbit (c.2 1 ((k - 40) / 6)) ((k - 40) % 6) = (0 : Int32) then (-6 : Int32) else c.2 2 (k - 40)
def zE (c : zCV) (f : Nat → Int32) : Prop := ∀ k, k < 136 → f k = zVw c k
theorem zVw_0 (c : zCV) {k : Nat} (h : k < 4) : zVw c k = c.2 0 k := by rw [zVw, if_pos h]
theorem zVw_S0 (c : zCV) {k : Nat} (h1 : 4 ≤ k) (h : k < 16) : zVw c k = c.1 k := by rw [zVw, if_neg (by omega), if_pos h]
theorem zVw_3 (c : zCV) {s : Nat} (h : s < 6) : zVw c (16 + s) = c.2 3 s := by rw [zVw, if_neg (by omega), if_neg (by omega), if_pos (by omega), Nat.add_sub_cancel_left]
theorem zVw_4 (c : zCV) {s : Nat} (h : s < 6) : zVw c (22 + s) = c.2 4 s := by rw [zVw, if_neg (by omega), if_neg (by omega), if_neg (by omega), if_pos (by omega), Nat.add_sub_cancel_left]
theorem zVw_5 (c : zCV) {s : Nat} (h : s < 6) : zVw c (28 + s) = c.2 5 s := by rw [zVw, if_neg (by omega), if_neg (by omega), if_neg (by omega), if_neg (by omega), if_pos (by omega), Nat.add_sub_cancel_left]
theorem zVw_6 (c : zCV) {s : Nat} (h : s < 6) : zVw c (34 + s) = c.2 6 s := by rw [zVw, if_neg (by omega), if_neg (by omega), if_neg (by omega), if_neg (by omega), if_neg (by omega), if_pos (by omega), Nat.add_sub_cancel_left]
theorem zVw_p (c : zCV) {k : Nat} (h : 40 ≤ k) : zVw c k = if zbit (c.2 1 ((k - 40) / 6)) ((k - 40) % 6) = (0 : Int32) then (-6 : Int32) else c.2 2 (k - 40) := by
  rw [zVw, if_neg (by omega), if_neg (by omega), if_neg (by omega), if_neg (by omega), if_neg (by omega), if_neg (by omega)]
theorem zVw_rp (c : zCV) {r p : Nat} (hp : p < 6) : zVw c (40 + 6 * r + p) = if zbit (c.2 1 r) p = (0 : Int32) then (-6 : Int32) else c.2 2 (6 * r + p) := by
  rw [zVw_p c (by omega), show 40 + 6 * r + p - 40 = 6 * r + p by omega, show (6 * r + p) / 6 = r by omega, show (6 * r + p) % 6 = p by omega]
theorem zcase (k : Nat) (hk : k < 136) : k < 4 ∨ (4 ≤ k ∧ k < 16) ∨ (∃ s, s < 6 ∧ k = 16 + s) ∨ (∃ s, s < 6 ∧ k = 22 + s) ∨ (∃ s, s < 6 ∧ k = 28 + s) ∨ (∃ s, s < 6 ∧ k = 34 + s) ∨ ∃ r p, r < 16 ∧ p < 6 ∧ k = 40 + 6 * r + p := by
  by_cases h1 : k < 4
  · exact Or.inl h1
  by_cases h2 : k < 16
  · exact Or.inr (Or.inl ⟨by omega, h2⟩)
  by_cases h3 : k < 22
  · exact Or.inr (Or.inr (Or.inl ⟨k - 16, by omega, by omega⟩))
  by_cases h4 : k < 28
  · exact Or.inr (Or.inr (Or.inr (Or.inl ⟨k - 22, by omega, by omega⟩)))
  by_cases h5 : k < 34
  · exact Or.inr (Or.inr (Or.inr (Or.inr (Or.inl ⟨k - 28, by omega, by omega⟩))))
  by_cases h6 : k < 40
  · exact Or.inr (Or.inr (Or.inr (Or.inr (Or.inr (Or.inl ⟨k - 34, by omega, by omega⟩)))))
  · exact Or.inr (Or.inr (Or.inr (Or.inr (Or.inr (Or.inr ⟨(k - 40) / 6, (k - 40) % 6, by omega, by omega, by omega⟩)))))
/-- the view by its parts -/
theorem zE_iff {c : zCV} {f : Nat → Int32} : zE c f ↔ (∀ k, k < 4 → f k = c.2 0 k) ∧ (∀ k, 4 ≤ k → k < 16 → f k = c.1 k) ∧ (∀ s, s < 6 → f (16 + s) = c.2 3 s) ∧ (∀ s, s < 6 → f (22 + s) = c.2 4 s) ∧ (∀ s, s < 6 → f (28 + s) = c.2 5 s) ∧ (∀ s, s < 6 → f (34 + s) = c.2 6 s) ∧ ∀ r p, r < 16 → p < 6 → f (40 + 6 * r + p) = if zbit (c.2 1 r) p = (0 : Int32) then (-6 : Int32) else c.2 2 (6 * r + p) := by
  constructor
  · intro h
    exact ⟨fun k hk => (h k (by omega)).trans (zVw_0 c hk), fun k h1 h2 => (h k (by omega)).trans (zVw_S0 c h1 h2), fun s hs => (h _ (by omega)).trans (zVw_3 c hs), fun s hs => (h _ (by omega)).trans (zVw_4 c hs), fun s hs => (h _ (by omega)).trans (zVw_5 c hs), fun s hs => (h _ (by omega)).trans (zVw_6 c hs), fun r p hr hp => (h _ (by omega)).trans (zVw_rp c hp)⟩
  · rintro ⟨h0, h1, h3, h4, h5, h6, h7⟩ k hk
    rcases zcase k hk with q | ⟨q1, q2⟩ | ⟨s, hs, rfl⟩ | ⟨s, hs, rfl⟩ | ⟨s, hs, rfl⟩ | ⟨s, hs, rfl⟩ | ⟨r, p, hr, hp, rfl⟩
    · rw [zVw_0 c q]; exact h0 k q
    · rw [zVw_S0 c q1 q2]; exact h1 k q1 q2
    · rw [zVw_3 c hs]; exact h3 s hs
    · rw [zVw_4 c hs]; exact h4 s hs
    · rw [zVw_5 c hs]; exact h5 s hs
    · rw [zVw_6 c hs]; exact h6 s hs
    · rw [zVw_rp c hp]; exact h7 r p hr hp
theorem zupd_eq (f : Nat → Int32) (k : Nat) (x : Int32) : upd f k x k = x := if_pos rfl
theorem zupd_ne (f : Nat → Int32) {k j : Nat} (x : Int32) (h : j ≠ k) : upd f k x j = f j := if_neg h
theorem zS_2 (c : zCV) (j : Nat) (x : Int32) : (zS c j x).2 = c.2 := rfl
theorem zS_eq (c : zCV) (j : Nat) (x : Int32) : (zS c j x).1 j = x := if_pos rfl
theorem zS_ne (c : zCV) {j k : Nat} (x : Int32) (h : k ≠ j) : (zS c j x).1 k = c.1 k := if_neg h
theorem zA_1 (c : zCV) (j : Nat) (f : Nat → Int32) : (zA c j f).1 = c.1 := rfl
/-- a scalar is written on both sides -/
theorem zE_S {c : zCV} {f : Nat → Int32} (h : zE c f) {j : Nat} (h4 : 4 ≤ j) (h16 : j < 16) (x : Int32) : zE (zS c j x) (upd f j x) := by
  obtain ⟨h0, h1, h3, h4', h5, h6, h7⟩ := zE_iff.mp h
  refine zE_iff.mpr ⟨fun k hk => ?_, fun k q1 q2 => ?_, fun s hs => ?_, fun s hs => ?_, fun s hs => ?_, fun s hs => ?_, fun r p hr hp => ?_⟩
  · rw [zupd_ne _ _ (by omega), zS_2]; exact h0 k hk
  · by_cases e : k = j
    · subst e; rw [zupd_eq, zS_eq]
    · rw [zupd_ne _ _ e, zS_ne _ _ e]; exact h1 k q1 q2
  · rw [zupd_ne _ _ (by omega), zS_2]; exact h3 s hs
  · rw [zupd_ne _ _ (by omega), zS_2]; exact h4' s hs
  · rw [zupd_ne _ _ (by omega), zS_2]; exact h5 s hs
  · rw [zupd_ne _ _ (by omega), zS_2]; exact h6 s hs
  · rw [zupd_ne _ _ (by omega), zS_2]; exact h7 r p hr hp
/-- a cell of a row that isn't the drum's -/
theorem zE_A {c : zCV} {f : Nat → Int32} (h : zE c f) {j b n s : Nat} (hj : (j = 0 ∧ b = 0 ∧ n = 4) ∨ (j = 3 ∧ b = 16 ∧ n = 6) ∨ (j = 4 ∧ b = 22 ∧ n = 6) ∨ (j = 5 ∧ b = 28 ∧ n = 6) ∨ (j = 6 ∧ b = 34 ∧ n = 6)) (hs : s < n) (x : Int32) : zE (zA c j (upd (c.2 j) s x)) (upd f (b + s) x) := by
  obtain ⟨h0, h1, h3, h4, h5, h6, h7⟩ := zE_iff.mp h
  refine zE_iff.mpr ⟨fun k hk => ?_, fun k q1 q2 => ?_, fun k hk => ?_, fun k hk => ?_, fun k hk => ?_, fun k hk => ?_, fun r p hr hp => ?_⟩
  · rcases hj with ⟨rfl, rfl, rfl⟩ | ⟨rfl, rfl, rfl⟩ | ⟨rfl, rfl, rfl⟩ | ⟨rfl, rfl, rfl⟩ | ⟨rfl, rfl, rfl⟩
    · rw [zA_eq, Nat.zero_add]
      by_cases e : k = s
      · subst e; rw [zupd_eq, zupd_eq]
      · rw [zupd_ne _ _ e, zupd_ne _ _ e]; exact h0 k hk
    all_goals rw [zA_ne _ _ (by decide), zupd_ne _ _ (by omega)]; exact h0 k hk
  · rw [zA_1, zupd_ne _ _ (by omega)]; exact h1 k q1 q2
  · rcases hj with ⟨rfl, rfl, rfl⟩ | ⟨rfl, rfl, rfl⟩ | ⟨rfl, rfl, rfl⟩ | ⟨rfl, rfl, rfl⟩ | ⟨rfl, rfl, rfl⟩
    case inr.inl =>
      rw [zA_eq]
      by_cases e : k = s
      · subst e; rw [zupd_eq, zupd_eq]
      · rw [zupd_ne _ _ (by omega), zupd_ne _ _ e]; exact h3 k hk
    all_goals rw [zA_ne _ _ (by decide), zupd_ne _ _ (by omega)]; exact h3 k hk
  · rcases hj with ⟨rfl, rfl, rfl⟩ | ⟨rfl, rfl, rfl⟩ | ⟨rfl, rfl, rfl⟩ | ⟨rfl, rfl, rfl⟩ | ⟨rfl, rfl, rfl⟩
    case inr.inr.inl =>
      rw [zA_eq]
      by_cases e : k = s
      · subst e; rw [zupd_eq, zupd_eq]
      · rw [zupd_ne _ _ (by omega), zupd_ne _ _ e]; exact h4 k hk
    all_goals rw [zA_ne _ _ (by decide), zupd_ne _ _ (by omega)]; exact h4 k hk
  · rcases hj with ⟨rfl, rfl, rfl⟩ | ⟨rfl, rfl, rfl⟩ | ⟨rfl, rfl, rfl⟩ | ⟨rfl, rfl, rfl⟩ | ⟨rfl, rfl, rfl⟩
    case inr.inr.inr.inl =>
      rw [zA_eq]
      by_cases e : k = s
      · subst e; rw [zupd_eq, zupd_eq]
      · rw [zupd_ne _ _ (by omega), zupd_ne _ _ e]; exact h5 k hk
    all_goals rw [zA_ne _ _ (by decide), zupd_ne _ _ (by omega)]; exact h5 k hk
  · rcases hj with ⟨rfl, rfl, rfl⟩ | ⟨rfl, rfl, rfl⟩ | ⟨rfl, rfl, rfl⟩ | ⟨rfl, rfl, rfl⟩ | ⟨rfl, rfl, rfl⟩
    case inr.inr.inr.inr =>
      rw [zA_eq]
      by_cases e : k = s
      · subst e; rw [zupd_eq, zupd_eq]
      · rw [zupd_ne _ _ (by omega), zupd_ne _ _ e]; exact h6 k hk
    all_goals rw [zA_ne _ _ (by decide), zupd_ne _ _ (by omega)]; exact h6 k hk
  · have e1 : (zA c j (upd (c.2 j) s x)).2 1 = c.2 1 := zA_ne _ _ (by omega)
    have e2 : (zA c j (upd (c.2 j) s x)).2 2 = c.2 2 := zA_ne _ _ (by omega)
    rw [e1, e2, zupd_ne _ _ (by omega)]; exact h7 r p hr hp
/-- the number of a peg that stands -/
theorem zE_peg {c : zCV} {f : Nat → Int32} (h : zE c f) {r p : Nat} (hr : r < 16) (hp : p < 6) (hb : ¬ zbit (c.2 1 r) p = (0 : Int32)) (x : Int32) : zE (zA c 2 (upd (c.2 2) (6 * r + p) x)) (upd f (40 + 6 * r + p) x) := by
  obtain ⟨h0, h1, h3, h4, h5, h6, h7⟩ := zE_iff.mp h
  refine zE_iff.mpr ⟨fun k hk => ?_, fun k q1 q2 => ?_, fun k hk => ?_, fun k hk => ?_, fun k hk => ?_, fun k hk => ?_, fun a q ha hq => ?_⟩
  · rw [zA_ne _ _ (by decide), zupd_ne _ _ (by omega)]; exact h0 k hk
  · rw [zA_1, zupd_ne _ _ (by omega)]; exact h1 k q1 q2
  · rw [zA_ne _ _ (by decide), zupd_ne _ _ (by omega)]; exact h3 k hk
  · rw [zA_ne _ _ (by decide), zupd_ne _ _ (by omega)]; exact h4 k hk
  · rw [zA_ne _ _ (by decide), zupd_ne _ _ (by omega)]; exact h5 k hk
  · rw [zA_ne _ _ (by decide), zupd_ne _ _ (by omega)]; exact h6 k hk
  · rw [zA_eq, show (zA c 2 (upd (c.2 2) (6 * r + p) x)).2 1 = c.2 1 from zA_ne _ _ (by decide)]
    by_cases e : a = r ∧ q = p
    · obtain ⟨rfl, rfl⟩ := e
      rw [zupd_eq, if_neg hb, zupd_eq]
    · have e2 : 6 * a + q ≠ 6 * r + p := fun z => e (by omega)
      rw [zupd_ne _ _ (by omega), zupd_ne _ _ e2]; exact h7 a q ha hq
/-- the number of a peg that doesn't stand is nobody's -/
theorem zE_no {c : zCV} {f : Nat → Int32} (h : zE c f) {r p : Nat} (hr : r < 16) (hp : p < 6) (hb : zbit (c.2 1 r) p = (0 : Int32)) (x : Int32) : zE (zA c 2 (upd (c.2 2) (6 * r + p) x)) f := by
  obtain ⟨h0, h1, h3, h4, h5, h6, h7⟩ := zE_iff.mp h
  refine zE_iff.mpr ⟨fun k hk => ?_, h1, fun k hk => ?_, fun k hk => ?_, fun k hk => ?_, fun k hk => ?_, fun a q ha hq => ?_⟩
  · rw [zA_ne _ _ (by decide)]; exact h0 k hk
  · rw [zA_ne _ _ (by decide)]; exact h3 k hk
  · rw [zA_ne _ _ (by decide)]; exact h4 k hk
  · rw [zA_ne _ _ (by decide)]; exact h5 k hk
  · rw [zA_ne _ _ (by decide)]; exact h6 k hk
  · rw [zA_eq, show (zA c 2 (upd (c.2 2) (6 * r + p) x)).2 1 = c.2 1 from zA_ne _ _ (by decide), h7 a q ha hq]
    by_cases e : a = r ∧ q = p
    · obtain ⟨rfl, rfl⟩ := e
      rw [if_pos hb, if_pos hb]
    · have e2 : 6 * a + q ≠ 6 * r + p := fun z => e (by omega)
      rw [zupd_ne _ _ e2]
/-- a whole row of the drum -/
theorem zE_row {c : zCV} {f f' : Nat → Int32} (h : zE c f) {r : Nat} (hr : r < 16) (y : Int32) (ho : ∀ k, (∀ p, p < 6 → k ≠ 40 + 6 * r + p) → f' k = f k) (hn : ∀ p, p < 6 → f' (40 + 6 * r + p) = if zbit y p = (0 : Int32) then (-6 : Int32) else c.2 2 (6 * r + p)) : zE (zA c 1 (upd (c.2 1) r y)) f' := by
  obtain ⟨h0, h1, h3, h4, h5, h6, h7⟩ := zE_iff.mp h
  refine zE_iff.mpr ⟨fun k hk => ?_, fun k q1 q2 => ?_, fun k hk => ?_, fun k hk => ?_, fun k hk => ?_, fun k hk => ?_, fun a q ha hq => ?_⟩
  · rw [zA_ne _ _ (by decide), ho _ (fun p hp => by omega)]; exact h0 k hk
  · rw [zA_1, ho _ (fun p hp => by omega)]; exact h1 k q1 q2
  · rw [zA_ne _ _ (by decide), ho _ (fun p hp => by omega)]; exact h3 k hk
  · rw [zA_ne _ _ (by decide), ho _ (fun p hp => by omega)]; exact h4 k hk
  · rw [zA_ne _ _ (by decide), ho _ (fun p hp => by omega)]; exact h5 k hk
  · rw [zA_ne _ _ (by decide), ho _ (fun p hp => by omega)]; exact h6 k hk
  · rw [zA_eq, show (zA c 1 (upd (c.2 1) r y)).2 2 = c.2 2 from zA_ne _ _ (by decide)]
    by_cases e : a = r
    · subst e
      rw [zupd_eq]; exact hn q hq
    · rw [zupd_ne _ _ e, ho _ (fun p hp => by omega)]; exact h7 a q ha hq
