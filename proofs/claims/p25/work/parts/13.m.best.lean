/-! The row of the best peg. -/
section ZBO
variable {k : Nat} {c d : zCV} {b : Nat}
/-- how many are right without a peg, or with it -/
def zrt (c v : zCV) (r p : Nat) : Int32 := (f_X0_makeSteps (f_X1_giveRow (f_X0_copyFrom v c) (nI r) (zflip (c.2 1 r) p)) (nI 64)).2.1 11 - c.1 11
theorem zrt_M (hM : zM c d) (hJ : zJ c b) (hb : b + 64 < 2 ^ 30) {r p : Nat} (hr : r < 16) (hp : p < 6) (v w : zCV) : zrt d w r (5 - p) = zrt c v r p := by
  have hJr := hJ.2.2.2.2.1
  obtain ⟨f64, -⟩ := zb_flip (hJr r hr) hp
  have eT : zflip (d.2 1 r) (5 - p) = f_L_turned (zflip (c.2 1 r) p) := by rw [hM.row hr, zT_flip (hJr r hr) hp]
  have M2 := zM_give (zM_copy (v := v) (w := w) hM) (zJ_copy (v := v) hJ).2.2.2.2.1 hr f64
  have J2 := zJ_give (zJ_copy (v := v) hJ) hr f64
  unfold zrt
  rw [eT, zmake_eq _ (by omega), zmake_eq _ (by omega)]
  obtain ⟨-, a2, -⟩ := zsteps 64 0 _ _ b hb M2 J2
  rw [a2.sc (show 4 ≤ 11 by omega) (by omega) (by omega) (by omega), hM.sc (show 4 ≤ 11 by omega) (by omega) (by omega) (by omega)]
theorem zrt_v (hM : zM c d) (hJ : zJ c b) (hb : b + 64 < 2 ^ 30) {r p : Nat} (hr : r < 16) (hp : p < 6) (v w : zCV) : zrt c v r p = zrt c w r p :=
  (zrt_M hM hJ hb hr hp v v).symm.trans (zrt_M hM hJ hb hr hp w v)
theorem zrt_v' (hM : zM c d) (hJ : zJ c b) (hb : b + 64 < 2 ^ 30) {r p : Nat} (hr : r < 16) (hp : p < 6) (v w : zCV) : zrt d v r p = zrt d w r p := by
  have h1 := zrt_M hM hJ hb hr (p := 5 - p) (by omega) v v
  have h2 := zrt_M hM hJ hb hr (p := 5 - p) (by omega) v w
  rw [show 5 - (5 - p) = p by omega] at h1 h2
  exact h1.trans h2.symm
def zbin (g : Nat → Bool) (a : Nat → Int32) (r : Nat) : Nat → Nat → Int32 → Int32 → Int32 × Int32
  | 0, _, x1, x2 => (x1, x2)
  | n + 1, i, x1, x2 => if g i = true then (if a i ≤ x2 then zbin g a r n (i + 1) x1 x2 else zbin g a r n (i + 1) (nI (6 * r + i)) (a i)) else zbin g a r n (i + 1) x1 x2
theorem zbin_s (g : Nat → Bool) (a : Nat → Int32) (r : Nat) : ∀ (n i : Nat) (x1 x2 : Int32), x2 ≤ (zbin g a r n i x1 x2).2 ∧ (∀ p, i ≤ p → p < i + n → g p = true → a p ≤ (zbin g a r n i x1 x2).2) ∧ (((zbin g a r n i x1 x2).2 = x2 ∧ (zbin g a r n i x1 x2).1 = x1) ∨ (x2 < (zbin g a r n i x1 x2).2 ∧ ∃ p, i ≤ p ∧ p < i + n ∧ g p = true ∧ (zbin g a r n i x1 x2).2 = a p ∧ (zbin g a r n i x1 x2).1 = nI (6 * r + p)))
  | 0, i, x1, x2 => ⟨Int32.le_refl _, fun p h1 h2 _ => by omega, Or.inl ⟨rfl, rfl⟩⟩
  | n + 1, i, x1, x2 => by
    unfold zbin
    by_cases q : g i = true
    · rw [if_pos q]
      by_cases q2 : a i ≤ x2
      · rw [if_pos q2]
        obtain ⟨h1, h2, h3⟩ := zbin_s g a r n (i + 1) x1 x2
        refine ⟨h1, fun p p1 p2 hg => ?_, ?_⟩
        · by_cases e : p = i
          · subst e; exact Int32.le_trans q2 h1
          · exact h2 p (by omega) (by omega) hg
        · rcases h3 with h3 | ⟨h4, p, p1, p2, p3⟩
          · exact Or.inl h3
          · exact Or.inr ⟨h4, p, by omega, by omega, p3⟩
      · rw [if_neg q2]
        obtain ⟨h1, h2, h3⟩ := zbin_s g a r n (i + 1) (nI (6 * r + i)) (a i)
        have hlt : x2 < a i := Int32.not_le.mp q2
        refine ⟨Int32.le_trans (Int32.le_of_lt hlt) h1, fun p p1 p2 hg => ?_, Or.inr ⟨?_, ?_⟩⟩
        · by_cases e : p = i
          · subst e; exact h1
          · exact h2 p (by omega) (by omega) hg
        · rw [Int32.lt_iff_toInt_lt] at hlt ⊢
          rw [Int32.le_iff_toInt_le] at h1
          omega
        · rcases h3 with ⟨h3, h5⟩ | ⟨h4, p, p1, p2, p3⟩
          · exact ⟨i, by omega, by omega, q, h3, h5⟩
          · exact ⟨p, by omega, by omega, p3⟩
    · rw [if_neg q]
      obtain ⟨h1, h2, h3⟩ := zbin_s g a r n (i + 1) x1 x2
      refine ⟨h1, fun p p1 p2 hg => ?_, ?_⟩
      · by_cases e : p = i
        · subst e; exact absurd hg q
        · exact h2 p (by omega) (by omega) hg
      · rcases h3 with h3 | ⟨h4, p, p1, p2, p3⟩
        · exact Or.inl h3
        · exact Or.inr ⟨h4, p, by omega, by omega, p3⟩
def zRb (x y : Int32) : Prop := (x = (-6 : Int32) ∧ y = (-6 : Int32)) ∨ ∃ r p q, r < 16 ∧ p < 6 ∧ q < 6 ∧ x = nI (6 * r + p) ∧ y = nI (6 * r + q)
/-- a row, from both sides -/
theorem zbin_M {g h : Nat → Bool} {a e : Nat → Int32} {r : Nat} (hr : r < 16) (hg : ∀ p, p < 6 → h p = g (5 - p)) (ha : ∀ p, p < 6 → e p = a (5 - p)) {x1 y1 x2 : Int32} (hx : zRb x1 y1) : (zbin h e r 6 0 y1 x2).2 = (zbin g a r 6 0 x1 x2).2 ∧ zRb (zbin g a r 6 0 x1 x2).1 (zbin h e r 6 0 y1 x2).1 := by
  obtain ⟨a1, a2, a3⟩ := zbin_s g a r 6 0 x1 x2
  obtain ⟨b1, b2, b3⟩ := zbin_s h e r 6 0 y1 x2
  have le1 : (zbin h e r 6 0 y1 x2).2 ≤ (zbin g a r 6 0 x1 x2).2 := by
    rcases b3 with ⟨q, -⟩ | ⟨-, p, -, p2, p3, p4, -⟩
    · rw [q]; exact a1
    · rw [p4, ha p (by omega)]
      exact a2 (5 - p) (by omega) (by omega) (by rw [← hg p (by omega)]; exact p3)
  have le2 : (zbin g a r 6 0 x1 x2).2 ≤ (zbin h e r 6 0 y1 x2).2 := by
    rcases a3 with ⟨q, -⟩ | ⟨-, p, -, p2, p3, p4, -⟩
    · rw [q]; exact b1
    · have h1 := ha (5 - p) (by omega)
      have h2 := hg (5 - p) (by omega)
      rw [show 5 - (5 - p) = p by omega] at h1 h2
      rw [p4, ← h1]
      exact b2 (5 - p) (by omega) (by omega) (by rw [h2]; exact p3)
  have eq := Int32.le_antisymm le1 le2
  refine ⟨eq, ?_⟩
  rcases a3 with ⟨q, q1⟩ | ⟨q, p, -, p2, -, -, p5⟩
  · rcases b3 with ⟨s, s1⟩ | ⟨s, -⟩
    · rw [q1, s1]; exact hx
    · rw [eq, q] at s; exact (Int32.lt_irrefl s).elim
  · rcases b3 with ⟨s, -⟩ | ⟨-, p', -, p2', -, -, p5'⟩
    · rw [← eq, s] at q; exact (Int32.lt_irrefl q).elim
    · exact Or.inr ⟨r, p, p', hr, by omega, by omega, p5, p5'⟩
theorem zb22 (vh vp vs : zCV) (VH VS : Nat → zCV) {r : Nat} (hr : r < 16) (A : Nat → Int32) (hA : ∀ p v, p < 6 → zrt c v r p = A p) : ∀ (n i : Nat) (x1 x2 : Int32) (w : zCV), i + n ≤ 6 → (f_X5_bestOut_L22 c vh vp vs VH VS r n i x1 x2 w).1 = (zbin (zpg (c.2 1 r)) A r n i x1 x2).1 ∧ (f_X5_bestOut_L22 c vh vp vs VH VS r n i x1 x2 w).2.1 = (zbin (zpg (c.2 1 r)) A r n i x1 x2).2
  | 0, i, x1, x2, w, _ => ⟨rfl, rfl⟩
  | n + 1, i, x1, x2, w, h => by
    have e1 : r_X5_bestOut_39 c r i = if zbt (c.2 1 r) i = 0 then (0 : Int32) else 1 := zhas1 c hr
    have e2 : ∀ w, (r_X5_bestOut_64 c vh vp vs VH VS r i w).1 = A i := by
      intro w
      rw [← hA i w (by omega)]
      unfold r_X5_bestOut_64 f_X5_rightWithRow r_X5_rightWithRow_29 s_X5_rightWithRow_20 s_X5_rightWithRow_8 zrt
      rw [nI_clamp (by omega)]
      rfl
    have e3 : ((nI r) * (6 : Int32)) + (nI i) = nI (6 * r + i) := by
      rw [show (6 : Int32) = nI 6 from rfl, znI_mul, nI_add, Nat.mul_comm]
    unfold f_X5_bestOut_L22 zbin
    rw [e1, e2, e3]
    by_cases q : zbt (c.2 1 r) i = 0
    · rw [if_pos q, if_pos rfl, if_neg (by unfold zpg; rw [decide_eq_true_iff]; exact fun h => h q)]
      exact zb22 vh vp vs VH VS hr A hA n (i + 1) x1 x2 w (by omega)
    · rw [if_neg q, if_neg (by decide), if_pos (show zpg (c.2 1 r) i = true by unfold zpg; rw [decide_eq_true_iff]; exact q)]
      by_cases q2 : A i ≤ x2
      · rw [if_pos q2, if_pos q2]
        exact zb22 vh vp vs VH VS hr A hA n (i + 1) x1 x2 _ (by omega)
      · rw [if_neg q2, if_neg q2]
        exact zb22 vh vp vs VH VS hr A hA n (i + 1) _ _ _ (by omega)
theorem zb13 (hM : zM c d) (hJ : zJ c b) (hb : b + 64 < 2 ^ 30) (vh vp vs : zCV) (VH VS : Nat → zCV) (uh up us : zCV) (UH US : Nat → zCV) : ∀ (n i : Nat) (x1 y1 x2 : Int32) (w w' : zCV), i + n ≤ 16 → zRb x1 y1 → zRb (f_X5_bestOut_L13 c vh vp vs VH VS n i x1 x2 w).1 (f_X5_bestOut_L13 d uh up us UH US n i y1 x2 w').1
  | 0, i, x1, y1, x2, w, w', _, hx => hx
  | n + 1, i, x1, y1, x2, w, w', h, hx => by
    obtain ⟨a1, a2⟩ := zb22 (c := c) vh vp vs VH VS (r := i) (by omega) (fun p => zrt c c i p) (fun p v hp => zrt_v hM hJ hb (by omega) hp v c) 6 0 x1 x2 w (by omega)
    obtain ⟨b1, b2⟩ := zb22 (c := d) uh up us UH US (r := i) (by omega) (fun p => zrt d d i p) (fun p v hp => zrt_v' hM hJ hb (by omega) hp v d) 6 0 y1 x2 w' (by omega)
    obtain ⟨c1, c2⟩ := zbin_M (g := zpg (c.2 1 i)) (h := zpg (d.2 1 i)) (a := fun p => zrt c c i p) (e := fun p => zrt d d i p) (r := i) (by omega) (fun p hp => zpg_M hM hJ.2.2.2.2.1 (by omega) hp) (fun p hp => by
      have := zrt_M hM hJ hb (r := i) (p := 5 - p) (by omega) (by omega) c d
      rw [show 5 - (5 - p) = p by omega] at this
      exact this) (x2 := x2) hx
    unfold f_X5_bestOut_L13
    rw [zfu_eq, a1, a2, b1, b2, c1]
    exact zb13 hM hJ hb vh vp vs VH VS uh up us UH US n (i + 1) _ _ _ _ _ (by omega) c2
theorem zI_best (hk : k < 61) : zA_best (zI k) := by
  intro V U h
  have h9 := (zI_alike hk V U h).2.2.1 64 1 (by omega) (by omega) (by omega)
  have e0 : (r_X5_bestOut_7 U.1 U.2.1 U.2.2.1 U.2.2.2.1 U.2.2.2.2.1 U.2.2.2.2.2.1 U.2.2.2.2.2.2).1 = (r_X5_bestOut_7 V.1 V.2.1 V.2.2.1 V.2.2.2.1 V.2.2.2.2.1 V.2.2.2.2.2.1 V.2.2.2.2.2.2).1 := h9.symm
  have h2 : zRb (kF_bestOut V) (kF_bestOut U) := by
    unfold kF_bestOut f_X5_bestOut
    rw [zfu_eq, e0]
    exact zb13 h.1 h.2.1 (by omega) _ _ _ _ _ _ _ _ _ _ 16 0 _ _ _ _ _ (by omega) (Or.inl ⟨rfl, rfl⟩)
  rcases h2 with h2 | ⟨r, p, q, hr, hp, hq, e1, e2⟩
  · exact Or.inl h2
  · refine Or.inr ⟨?_, ?_, ?_⟩
    · rw [e1]; exact znI_ne (by omega)
    · rw [e2]; exact znI_ne (by omega)
    · rw [e1, e2, show (6 : Int32) = nI 6 from rfl, pk_div (by omega) (by omega) (by omega), pk_div (by omega) (by omega) (by omega), show (6 * r + p) / 6 = (6 * r + q) / 6 by omega]
end ZBO
