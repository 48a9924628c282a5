/-! Pegs as bits, and what both sides count of them. -/
def zV (c : zCV) (b : Nat) : Prop := vp_in (c.1 4) 16 ∧ (c.1 5 = 0 ∨ c.1 5 = 1) ∧ (c.1 8 = 0 ∨ c.1 8 = 1) ∧ vp_in (c.2 0 0) 9 ∧ (∀ r, r < 16 → vp_in (c.2 1 r) 64) ∧ ∀ r p, r < 16 → p < 6 → ¬ zbit (c.2 1 r) p = (0 : Int32) → ∃ j, j ≤ b ∧ c.2 2 (6 * r + p) = nI j
theorem zV.le {c : zCV} {b b' : Nat} (h : zV c b) (hb : b ≤ b') : zV c b' := ⟨h.1, h.2.1, h.2.2.1, h.2.2.2.1, h.2.2.2.2.1, fun r p hr hp q => by
  obtain ⟨j, h1, h2⟩ := h.2.2.2.2.2 r p hr hp q
  exact ⟨j, by omega, h2⟩⟩
theorem zbit01 (x : Int32) (p : Nat) : zbit x p = 0 ∨ zbit x p = 1 := by
  unfold zbit
  generalize x >>> ((nI p) &&& 31) = y
  have h : (y &&& (1 : Int32)).toBitVec = BitVec.setWidth 32 (BitVec.ofBool (y.toBitVec.getLsbD 0)) := by
    rw [Int32.toBitVec_and]
    exact BitVec.and_one_eq_setWidth_ofBool_getLsbD
  cases hb : y.toBitVec.getLsbD 0 with
  | false =>
    rw [hb] at h
    exact Or.inl (Int32.toBitVec_inj.mp (h.trans (by decide)))
  | true =>
    rw [hb] at h
    exact Or.inr (Int32.toBitVec_inj.mp (h.trans (by decide)))
theorem zof64 {x : Int32} (h : vp_in x 64) : ∃ j : Nat, j < 64 ∧ x = nI j := vp_in_of h (by omega)
def zcntL (x : Int32) : Nat → Nat → Int32 → Int32
  | 0, _, a => a
  | n + 1, i, a => if zbit x i = (0 : Int32) then zcntL x n (i + 1) (a + (0 : Int32)) else zcntL x n (i + 1) (a + (1 : Int32))
def zorL (x : Int32) : Nat → Nat → Int32 → Int32
  | 0, _, a => a
  | n + 1, i, a => if zbit x i = (0 : Int32) then zorL x n (i + 1) (a ||| (0 : Int32)) else zorL x n (i + 1) (a ||| ((1 : Int32) <<< ((nI i) &&& 31)))
def zdrop (x : Int32) (p : Nat) : Int32 := x &&& (((1 : Int32) <<< ((nI p) &&& 31)) ^^^ (-1 : Int32))
def zflip (x : Int32) (p : Nat) : Int32 := x ^^^ ((1 : Int32) <<< ((nI p) &&& 31))
set_option maxRecDepth 100000 in
theorem zb_cnt : ∀ x, x < 64 → f_J6_bitCount_0f7a4 (nI x) = zcntL (nI x) 6 0 0 := by decide +kernel
set_option maxRecDepth 100000 in
theorem zb_set : ∀ x, x < 64 → zorL (nI x) 6 0 0 = nI x := by decide +kernel
set_option maxRecDepth 100000 in
theorem zb_drop : ∀ x, x < 64 → ∀ p, p < 6 → ∀ q, q < 6 → zbit (zdrop (nI x) p) q = if q = p then 0 else zbit (nI x) q := by decide +kernel
set_option maxRecDepth 100000 in
theorem zb_drop64 : ∀ x, x < 64 → ∀ p, p < 6 → ¬ (zdrop (nI x) p < 0 ∨ 64 ≤ (zdrop (nI x) p).toNatClampNeg) ∧ f_J6_bitCount_0f7a4 (zdrop (nI x) p) ≤ f_J6_bitCount_0f7a4 (nI x) := by decide +kernel
set_option maxRecDepth 100000 in
theorem zb_flip : ∀ x, x < 64 → ∀ p, p < 6 → ∀ q, q < 6 → zbit (zflip (nI x) p) q = if q = p then (if zbit (nI x) p = 0 then 1 else 0) else zbit (nI x) q := by decide +kernel
set_option maxRecDepth 100000 in
theorem zb_flip64 : ∀ x, x < 64 → ∀ p, p < 6 → ¬ (zflip (nI x) p < 0 ∨ 64 ≤ (zflip (nI x) p).toNatClampNeg) := by decide +kernel
theorem znI_mul (a b : Nat) : nI a * nI b = nI (a * b) := (Int32.ofNat_mul a b).symm
theorem zat_nI (r p : Nat) : f_X6_at (nI r) (nI p) = nI (40 + 6 * r + p) := by
  show ((nI 40 + (nI 6 * nI r)) + nI p) = _
  rw [znI_mul, nI_add, nI_add]
theorem zat_ix {r p : Nat} (hr : r < 16) (hp : p < 6) : (f_X6_at (nI r) (nI p)).toNatClampNeg = 40 + 6 * r + p := by rw [zat_nI, nI_clamp (by omega)]
theorem zix {b s : Nat} (C : Int32) (hC : C = nI b) (h : b + s < 2 ^ 31) : (C + nI s).toNatClampNeg = b + s := by rw [hC, nI_add, nI_clamp h]
theorem znI_ne {j : Nat} (h : j < 2 ^ 31) : ¬ nI j = (-6 : Int32) := by
  intro q
  have h1 := nI_toInt h
  rw [q, show (-6 : Int32).toInt = -6 by decide] at h1
  omega
section ZSB
variable {c m : zCV} {b : Nat}
theorem zhas1 (c : zCV) {r p : Nat} (hr : r < 16) : f_X1_hasPeg c (nI r) (nI p) = if zbit (c.2 1 r) p = (0 : Int32) then (0 : Int32) else (1 : Int32) := by
  unfold f_X1_hasPeg zbit
  rw [nI_clamp (by omega)]
theorem zhas6 (hE : zE c (m.2 0)) (hV : zV c b) (hb : b < 2 ^ 31) {r p : Nat} (hr : r < 16) (hp : p < 6) : f_X6_hasPeg m (nI r) (nI p) = if zbit (c.2 1 r) p = (0 : Int32) then (0 : Int32) else (1 : Int32) := by
  unfold f_X6_hasPeg
  rw [zat_ix hr hp, (zE_iff.mp hE).2.2.2.2.2.2 r p hr hp]
  by_cases q : zbit (c.2 1 r) p = (0 : Int32)
  · rw [if_pos q, if_pos q, if_pos rfl]
  · obtain ⟨j, hj, e⟩ := hV.2.2.2.2.2 r p hr hp q
    rw [if_neg q, if_neg q, e, if_neg (znI_ne (by omega))]
theorem zpegsIn (hE : zE c (m.2 0)) (hV : zV c b) (hb : b < 2 ^ 31) {r : Nat} (hr : r < 16) : f_X6_pegsIn m (nI r) = f_X1_pegsInRow c (nI r) := by
  have hL : ∀ n i a, i + n ≤ 6 → f_X6_pegsIn_L4 m (nI r) n i a = zcntL (c.2 1 r) n i a := by
    intro n
    induction n with
    | zero => intro i a _; rfl
    | succ n ih =>
      intro i a h
      unfold f_X6_pegsIn_L4 zcntL
      rw [show r_X6_pegsIn_14 m (nI r) i = _ from zhas6 hE hV hb hr (show i < 6 by omega), ih _ _ (by omega), ih _ _ (by omega)]
      by_cases q : zbit (c.2 1 r) i = (0 : Int32)
      · simp only [if_pos q, if_pos]
      · simp only [if_neg q]; rw [if_neg (by decide)]
  obtain ⟨x, hx, e⟩ := zof64 (hV.2.2.2.2.1 r hr)
  unfold f_X6_pegsIn f_X1_pegsInRow
  rw [zfu_eq, hL 6 0 0 (by omega), nI_clamp (by omega), e, zb_cnt x hx]
theorem zsetIn (hE : zE c (m.2 0)) (hV : zV c b) (hb : b < 2 ^ 31) {r : Nat} (hr : r < 16) : f_X6_setIn m (nI r) = c.2 1 r := by
  have hL : ∀ n i a, i + n ≤ 6 → f_X6_setIn_L4 m (nI r) n i a = zorL (c.2 1 r) n i a := by
    intro n
    induction n with
    | zero => intro i a _; rfl
    | succ n ih =>
      intro i a h
      unfold f_X6_setIn_L4 zorL
      rw [show r_X6_setIn_14 m (nI r) i = _ from zhas6 hE hV hb hr (show i < 6 by omega), ih _ _ (by omega), ih _ _ (by omega)]
      by_cases q : zbit (c.2 1 r) i = (0 : Int32)
      · simp only [if_pos q, if_pos]
      · simp only [if_neg q]; rw [if_neg (by decide)]
  obtain ⟨x, hx, e⟩ := zof64 (hV.2.2.2.2.1 r hr)
  unfold f_X6_setIn
  rw [zfu_eq, hL 6 0 0 (by omega), e, zb_set x hx]
theorem zpegs (hE : zE c (m.2 0)) (hV : zV c b) (hb : b < 2 ^ 31) : f_X6_pegs m = f_X1_allPegs c := by
  have hL : ∀ n i a, i + n ≤ 16 → f_X6_pegs_L4 m n i a = f_X1_allPegs_L4 c n i a := by
    intro n
    induction n with
    | zero => intro i a _; rfl
    | succ n ih =>
      intro i a h
      unfold f_X6_pegs_L4 f_X1_allPegs_L4
      rw [show r_X6_pegs_13 m i = f_X1_pegsInRow c (nI i) from zpegsIn hE hV hb (by omega), ih _ _ (by omega)]
      rfl
  unfold f_X6_pegs f_X1_allPegs
  rw [zfu_eq]; exact hL 16 0 0 (by omega)
theorem zpegsOf (hE : zE c (m.2 0)) (hV : zV c b) (hb : b < 2 ^ 31) {p : Nat} (hp : p < 6) : f_X6_pegsOf m (nI p) = f_X1_pegsAtPlace c (nI p) := by
  have hL : ∀ n i a, i + n ≤ 16 → f_X6_pegsOf_L4 m (nI p) n i a = f_X1_pegsAtPlace_L4 c (nI p) n i a := by
    intro n
    induction n with
    | zero => intro i a _; rfl
    | succ n ih =>
      intro i a h
      unfold f_X6_pegsOf_L4 f_X1_pegsAtPlace_L4
      rw [show r_X6_pegsOf_14 m (nI p) i = _ from zhas6 hE hV hb (show i < 16 by omega) hp, show r_X1_pegsAtPlace_13 c (nI p) i = _ from zhas1 c (show i < 16 by omega), ih _ _ (by omega), ih _ _ (by omega), Int32.add_zero]
  unfold f_X6_pegsOf f_X1_pegsAtPlace
  rw [zfu_eq]; exact hL 16 0 0 (by omega)
theorem zmarks (hE : zE c (m.2 0)) : f_X6_marks m = f_X4_allMarks c := by
  have hL : ∀ n i a, i + n ≤ 6 → f_X6_marks_L4 m n i a = f_X4_allMarks_L4 c n i a := by
    intro n
    induction n with
    | zero => intro i a _; rfl
    | succ n ih =>
      intro i a h
      unfold f_X6_marks_L4 f_X4_allMarks_L4
      rw [zix (b := 22) (s := i) (22 : Int32) rfl (by omega), (zE_iff.mp hE).2.2.2.1 i (by omega), nI_clamp (by omega), ih _ _ (by omega)]
  unfold f_X6_marks f_X4_allMarks
  rw [zfu_eq]; exact hL 6 0 0 (by omega)
theorem zwould (hE : zE c (m.2 0)) (hV : zV c b) (hb : b < 2 ^ 31) {r : Nat} (hr : r < 16) : f_X6_wouldJam m (nI r) = f_X0_wouldJamAt c (nI r) := by
  unfold f_X6_wouldJam f_X0_wouldJamAt
  rw [show r_X6_wouldJam_2 m (nI r) = f_X1_pegsInRow c (nI r) from zpegsIn hE hV hb hr, (zE_iff.mp hE).1 3 (by omega)]
  rfl
end ZSB
