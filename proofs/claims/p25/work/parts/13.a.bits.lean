/-! Sets as bits, and a set that is told from the other side. -/
theorem zA_eq (v : zCV) (j : Nat) (f : Nat → Int32) : (zA v j f).2 j = f := if_pos rfl
theorem zA_ne (v : zCV) {j i : Nat} (f : Nat → Int32) (h : i ≠ j) : (zA v j f).2 i = v.2 i := if_neg h
theorem zupd_eq (f : Nat → Int32) (k : Nat) (x : Int32) : upd f k x k = x := if_pos rfl
theorem zupd_ne (f : Nat → Int32) {k j : Nat} (x : Int32) (h : j ≠ k) : upd f k x j = f j := if_neg h
theorem zS_2 (c : zCV) (j : Nat) (x : Int32) : (zS c j x).2 = c.2 := rfl
theorem zS_eq (c : zCV) (j : Nat) (x : Int32) : (zS c j x).1 j = x := if_pos rfl
theorem zS_ne (c : zCV) {j k : Nat} (x : Int32) (h : k ≠ j) : (zS c j x).1 k = c.1 k := if_neg h
theorem zA_1 (c : zCV) (j : Nat) (f : Nat → Int32) : (zA c j f).1 = c.1 := rfl
theorem zof64 {x : Int32} (h : vp_in x 64) : ∃ j : Nat, j < 64 ∧ x = nI j := vp_in_of h (by omega)
theorem znI_mul (a b : Nat) : nI a * nI b = nI (a * b) := (Int32.ofNat_mul a b).symm
theorem znI_ne {j : Nat} (h : j < 2 ^ 31) : ¬ nI j = (-6 : Int32) := by
  intro q
  have h1 := nI_toInt h
  rw [q, show (-6 : Int32).toInt = -6 by decide] at h1
  omega
theorem zix2 {r p : Nat} (hr : r < 16) (hp : p < 6) : ((nI r * (6 : Int32)) + nI p).toNatClampNeg = 6 * r + p := by
  rw [show (6 : Int32) = nI 6 from rfl, znI_mul, nI_add, nI_clamp (by omega), Nat.mul_comm]
theorem zrb : ∀ r, r < 16 → f_X1_rowBehind (nI r) = nI ((r + 1) % 16) ∧ zrem (nI r + (1 : Int32)) 16 = nI ((r + 1) % 16) := by decide +kernel
theorem zbt01 (x : Int32) (p : Nat) : zbt x p = 0 ∨ zbt x p = 1 := by
  unfold zbt
  generalize x >>> ((nI p) &&& 31) = y
  have h : (y &&& (1 : Int32)).toBitVec = BitVec.setWidth 32 (BitVec.ofBool (y.toBitVec.getLsbD 0)) := by
    rw [Int32.toBitVec_and]
    exact BitVec.and_one_eq_setWidth_ofBool_getLsbD
  cases hb : y.toBitVec.getLsbD 0 with
  | false =>
    rw [hb] at h
    exact Or.inl (Int32.toBitVec_inj.mp (h.trans (by decide)))
  | true =>
    rw [hb] at h
    exact Or.inr (Int32.toBitVec_inj.mp (h.trans (by decide)))
theorem zbt1 {x : Int32} {p : Nat} (h : ¬ zbt x p = 0) : zbt x p = 1 := (zbt01 x p).resolve_left h
def zorL (x : Int32) : Nat → Nat → Int32 → Int32
  | 0, _, a => a
  | n + 1, i, a => if zbt x i = (0 : Int32) then zorL x n (i + 1) a else zorL x n (i + 1) (a ||| ((1 : Int32) <<< ((nI i) &&& 31)))
def zbi (p : Nat) : Int32 := (1 : Int32) <<< ((nI p) &&& 31)
def zdrop (x : Int32) (p : Nat) : Int32 := x &&& ((zbi p) ^^^ (-1 : Int32))
def zflip (x : Int32) (p : Nat) : Int32 := x ^^^ (zbi p)
/-- a number below 64, as what it says of itself -/
def z64 (x : Int32) : Bool := decide (¬ x < 0) && decide (x.toNatClampNeg < 64)
theorem z64_iff {x : Int32} : z64 x = true ↔ vp_in x 64 := by
  unfold z64 vp_in
  rw [Bool.and_eq_true, decide_eq_true_iff, decide_eq_true_iff]
  constructor
  · rintro ⟨h1, h2⟩ h
    rcases h with h | h
    · exact h1 h
    · omega
  · intro h
    exact ⟨fun h1 => h (Or.inl h1), Nat.lt_of_not_le (fun h2 => h (Or.inr h2))⟩
theorem zT_eq (x : Int32) : f_L_turned x = f_L_turned_L4 x 6 0 0 := by
  unfold f_L_turned
  rw [zfu_eq]
set_option maxRecDepth 100000 in
theorem zk_set : ∀ x, x < 64 → zorL (nI x) 6 0 0 = nI x := by decide +kernel
set_option maxRecDepth 100000 in
theorem zk_drop : ∀ x, x < 64 → ∀ p, p < 6 → z64 (zdrop (nI x) p) = true ∧ ∀ q, q < 6 → zbt (zdrop (nI x) p) q = if q = p then 0 else zbt (nI x) q := by decide +kernel
set_option maxRecDepth 100000 in
theorem zk_flip : ∀ x, x < 64 → ∀ p, p < 6 → z64 (zflip (nI x) p) = true ∧ ∀ q, q < 6 → zbt (zflip (nI x) p) q = if q = p then (if zbt (nI x) p = 0 then 1 else 0) else zbt (nI x) q := by decide +kernel
set_option maxRecDepth 100000 in
theorem zk_or : ∀ x, x < 64 → ∀ p, p < 6 → z64 (nI x ||| zbi p) = true ∧ ∀ q, q < 6 → zbt (nI x ||| zbi p) q = if q = p then 1 else zbt (nI x) q := by decide +kernel
set_option maxRecDepth 100000 in
theorem zk_T : ∀ x, x < 64 → z64 (f_L_turned_L4 (nI x) 6 0 0) = true ∧ f_J6_bitCount_0f7a4 (f_L_turned_L4 (nI x) 6 0 0) = f_J6_bitCount_0f7a4 (nI x) ∧ ∀ q, q < 6 → zbt (f_L_turned_L4 (nI x) 6 0 0) q = zbt (nI x) (5 - q) := by decide +kernel
set_option maxRecDepth 100000 in
theorem zk_cnt : ∀ x, x < 64 → (nI x = 0 ∨ ∃ q, q < 6 ∧ ¬ zbt (nI x) q = 0) := by
  intro x hx
  have h : ∀ x, x < 64 → (nI x = 0 ∨ ¬ zbt (nI x) 0 = 0 ∨ ¬ zbt (nI x) 1 = 0 ∨ ¬ zbt (nI x) 2 = 0 ∨ ¬ zbt (nI x) 3 = 0 ∨ ¬ zbt (nI x) 4 = 0 ∨ ¬ zbt (nI x) 5 = 0) := by decide +kernel
  rcases h x hx with h | h | h | h | h | h | h
  · exact Or.inl h
  · exact Or.inr ⟨0, by omega, h⟩
  · exact Or.inr ⟨1, by omega, h⟩
  · exact Or.inr ⟨2, by omega, h⟩
  · exact Or.inr ⟨3, by omega, h⟩
  · exact Or.inr ⟨4, by omega, h⟩
  · exact Or.inr ⟨5, by omega, h⟩
theorem zb_drop {x : Int32} (h : vp_in x 64) {p : Nat} (hp : p < 6) : vp_in (zdrop x p) 64 ∧ ∀ q, q < 6 → zbt (zdrop x p) q = if q = p then 0 else zbt x q := by
  obtain ⟨j, hj, rfl⟩ := zof64 h
  exact ⟨z64_iff.mp (zk_drop j hj p hp).1, (zk_drop j hj p hp).2⟩
theorem zb_flip {x : Int32} (h : vp_in x 64) {p : Nat} (hp : p < 6) : vp_in (zflip x p) 64 ∧ ∀ q, q < 6 → zbt (zflip x p) q = if q = p then (if zbt x p = 0 then 1 else 0) else zbt x q := by
  obtain ⟨j, hj, rfl⟩ := zof64 h
  exact ⟨z64_iff.mp (zk_flip j hj p hp).1, (zk_flip j hj p hp).2⟩
theorem zb_or {x : Int32} (h : vp_in x 64) {p : Nat} (hp : p < 6) : vp_in (x ||| zbi p) 64 ∧ ∀ q, q < 6 → zbt (x ||| zbi p) q = if q = p then 1 else zbt x q := by
  obtain ⟨j, hj, rfl⟩ := zof64 h
  exact ⟨z64_iff.mp (zk_or j hj p hp).1, (zk_or j hj p hp).2⟩
theorem zT_in {x : Int32} (h : vp_in x 64) : vp_in (f_L_turned x) 64 := by
  obtain ⟨j, hj, rfl⟩ := zof64 h
  rw [zT_eq]
  exact z64_iff.mp (zk_T j hj).1
theorem zT_cnt {x : Int32} (h : vp_in x 64) : f_J6_bitCount_0f7a4 (f_L_turned x) = f_J6_bitCount_0f7a4 x := by
  obtain ⟨j, hj, rfl⟩ := zof64 h
  rw [zT_eq]
  exact (zk_T j hj).2.1
theorem zT_bt {x : Int32} (h : vp_in x 64) {q : Nat} (hq : q < 6) : zbt (f_L_turned x) q = zbt x (5 - q) := by
  obtain ⟨j, hj, rfl⟩ := zof64 h
  rw [zT_eq]
  exact (zk_T j hj).2.2 q hq
theorem zorL_congr {x y : Int32} : ∀ (n i : Nat) (a : Int32), (∀ q, i ≤ q → q < i + n → zbt x q = zbt y q) → zorL x n i a = zorL y n i a
  | 0, i, a, h => rfl
  | n + 1, i, a, h => by
    unfold zorL
    rw [h i (Nat.le_refl _) (by omega), zorL_congr n (i + 1) a (fun q h1 h2 => h q (by omega) (by omega)), zorL_congr n (i + 1) (a ||| ((1 : Int32) <<< ((nI i) &&& 31))) (fun q h1 h2 => h q (by omega) (by omega))]
/-- sets with the same stamps are the same -/
theorem zext {x y : Int32} (hx : vp_in x 64) (hy : vp_in y 64) (h : ∀ q, q < 6 → zbt x q = zbt y q) : x = y := by
  have h1 := zorL_congr 6 0 0 (fun q _ h2 => h q (by omega) : ∀ q, 0 ≤ q → q < 0 + 6 → zbt x q = zbt y q)
  obtain ⟨j, hj, rfl⟩ := zof64 hx
  obtain ⟨k, hk, rfl⟩ := zof64 hy
  rw [zk_set j hj, zk_set k hk] at h1
  exact h1
theorem zT_T {x : Int32} (h : vp_in x 64) : f_L_turned (f_L_turned x) = x :=
  zext (zT_in (zT_in h)) h (fun q hq => by rw [zT_bt (zT_in h) hq, zT_bt h (by omega), show 5 - (5 - q) = q by omega])
theorem zT_inj {x y : Int32} (hx : vp_in x 64) (hy : vp_in y 64) : f_L_turned x = f_L_turned y ↔ x = y :=
  ⟨fun h => by rw [← zT_T hx, h, zT_T hy], fun h => by rw [h]⟩
theorem z0_in : vp_in (0 : Int32) 64 := zlit _ 64 (by decide +kernel)
theorem zbt_0 {q : Nat} (hq : q < 6) : zbt (0 : Int32) q = 0 := by
  have h : ∀ q, q < 6 → zbt (0 : Int32) q = 0 := by decide +kernel
  exact h q hq
theorem zT_0 : f_L_turned (0 : Int32) = 0 := by
  rw [zT_eq]
  decide +kernel
theorem zT_flip {x : Int32} (h : vp_in x 64) {p : Nat} (hp : p < 6) : f_L_turned (zflip x p) = zflip (f_L_turned x) (5 - p) := by
  obtain ⟨h1, h2⟩ := zb_flip h hp
  obtain ⟨h3, h4⟩ := zb_flip (zT_in h) (p := 5 - p) (by omega)
  refine zext (zT_in h1) h3 (fun q hq => ?_)
  rw [zT_bt h1 hq, h2 (5 - q) (by omega), h4 q hq, zT_bt h hq, zT_bt h (q := 5 - p) (by omega), show 5 - (5 - p) = p by omega]
  by_cases e : 5 - q = p
  · rw [if_pos e, if_pos (show q = 5 - p by omega)]
  · rw [if_neg e, if_neg (show ¬ q = 5 - p by omega)]
-- sums over the six places, from both sides
theorem zsum_congr {f g : Nat → Int32} : ∀ n, (∀ k, k < n → f k = g k) → zsum f n = zsum g n
  | 0, _ => rfl
  | n + 1, h => by
    show zsum f n + f n = zsum g n + g n
    rw [zsum_congr n (fun k hk => h k (by omega)), h n (by omega)]
theorem zsum_rev (f : Nat → Int32) : zsum (fun k => f (5 - k)) 6 = zsum f 6 := by
  show ((((((0 : Int32) + f 5) + f 4) + f 3) + f 2) + f 1) + f 0 = ((((((0 : Int32) + f 0) + f 1) + f 2) + f 3) + f 4) + f 5
  simp only [Int32.zero_add]
  ac_rfl
def zany (b : Nat → Bool) : Nat → Bool
  | 0 => false
  | n + 1 => zany b n || b n
theorem zany_congr {f g : Nat → Bool} : ∀ n, (∀ k, k < n → f k = g k) → zany f n = zany g n
  | 0, _ => rfl
  | n + 1, h => by
    show (zany f n || f n) = (zany g n || g n)
    rw [zany_congr n (fun k hk => h k (by omega)), h n (by omega)]
theorem zany_rev (f : Nat → Bool) : zany (fun k => f (5 - k)) 6 = zany f 6 := by
  show ((((((false || f 5) || f 4) || f 3) || f 2) || f 1) || f 0) = ((((((false || f 0) || f 1) || f 2) || f 3) || f 4) || f 5)
  simp only [Bool.false_or]
  ac_rfl
theorem zany_iff {b : Nat → Bool} : ∀ n, zany b n = true ↔ ∃ k, k < n ∧ b k = true
  | 0 => ⟨fun h => absurd h (by simp [zany]), fun ⟨k, h, _⟩ => absurd h (by omega)⟩
  | n + 1 => by
    unfold zany
    rw [Bool.or_eq_true, zany_iff n]
    constructor
    · rintro (⟨k, h1, h2⟩ | h)
      · exact ⟨k, by omega, h2⟩
      · exact ⟨n, by omega, h⟩
    · rintro ⟨k, h1, h2⟩
      by_cases e : k = n
      · subst e; exact Or.inr h2
      · exact Or.inl ⟨k, by omega, h2⟩
