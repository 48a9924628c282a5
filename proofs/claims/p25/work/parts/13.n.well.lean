/-! What an object tells of itself. -/
section ZWL
variable {k : Nat} {c : zCV} {b : Nat}
set_option maxRecDepth 100000 in
theorem zk_bc : ∀ x, x < 64 → zsum (fun k => if zbt (nI x) k = 0 then (0 : Int32) else 1) 6 = f_J6_bitCount_0f7a4 (nI x) := by decide +kernel
theorem zbc {x : Int32} (h : vp_in x 64) : zsum (fun k => if zbt x k = 0 then (0 : Int32) else 1) 6 = f_J6_bitCount_0f7a4 x := by
  obtain ⟨j, hj, rfl⟩ := zof64 h
  exact zk_bc j hj
set_option maxRecDepth 100000 in
theorem zk_fm : ∀ r, r < 16 → ∀ a, a < 16 → f_J9_floorMod_7cf53 (nI r - nI a) 16 = zrem ((nI r - nI a) + (16 : Int32)) 16 := by decide +kernel
theorem zsum_add (f g : Nat → Int32) : ∀ n, zsum (fun k => f k + g k) n = zsum f n + zsum g n
  | 0 => rfl
  | n + 1 => by
    show zsum (fun k => f k + g k) n + (f n + g n) = (zsum f n + f n) + (zsum g n + g n)
    rw [zsum_add f g n]
    ac_rfl
theorem zsum_0 : ∀ n, zsum (fun _ => (0 : Int32)) n = 0
  | 0 => rfl
  | n + 1 => by
    show zsum (fun _ => (0 : Int32)) n + 0 = 0
    rw [zsum_0 n]
    rfl
theorem zsum_swap (f : Nat → Nat → Int32) (m : Nat) : ∀ n, zsum (fun i => zsum (f i) m) n = zsum (fun j => zsum (fun i => f i j) n) m
  | 0 => (zsum_0 m).symm
  | n + 1 => by
    show zsum (fun i => zsum (f i) m) n + zsum (f n) m = zsum (fun j => zsum (fun i => f i j) n + f n j) m
    rw [zsum_add (fun j => zsum (fun i => f i j) n) (fun j => f n j) m, zsum_swap f m n]
theorem zneg6 : (-6 : Int32) < 0 := by decide
theorem zpe_eq (V : zPV) {s : Nat} (hs : s < 2 ^ 31) (hp : zJp V.1 s) {r p : Nat} (hr : r < 16) (hp6 : p < 6) : (kF_stamped V (nI r) (nI p) < (0 : Int32) ↔ zbt (V.1.2 1 r) p = 0) := by
  rw [zk_stamped V hr hp6]
  by_cases q : zbt (V.1.2 1 r) p = 0
  · rw [if_pos q]; exact ⟨fun _ => q, fun _ => by decide⟩
  · rw [if_neg q]
    obtain ⟨t, ht, et⟩ := hp r p hr hp6 q
    rw [et]
    exact ⟨fun h => absurd h (nI_pos (by omega)), fun h => absurd h q⟩
theorem zpe_fn (V : zPV) {s : Nat} (hs : s < 2 ^ 31) (hp : zJp V.1 s) {r : Nat} (hr : r < 16) {p : Nat} (hp6 : p < 6) : zpe V r p = if zbt (V.1.2 1 r) p = 0 then (0 : Int32) else 1 := by
  unfold zpe
  by_cases q : zbt (V.1.2 1 r) p = 0
  · rw [if_pos q, if_pos ((zpe_eq V hs hp hr hp6).mpr q)]
  · rw [if_neg q, if_neg (fun h => q ((zpe_eq V hs hp hr hp6).mp h))]
theorem zpe_sum (V : zPV) {s : Nat} (hs : s < 2 ^ 31) (hp : zJp V.1 s) (hJ : zJr V.1) {r : Nat} (hr : r < 16) : zsum (zpe V r) 6 = f_J6_bitCount_0f7a4 (V.1.2 1 r) := by
  rw [← zbc (hJ r hr)]
  exact zsum_congr 6 (fun p hp6 => zpe_fn V hs hp hr hp6)
theorem zall_sum (c : zCV) : f_X1_allPegs c = zsum (fun r => f_J6_bitCount_0f7a4 (c.2 1 r)) 16 := by
  unfold f_X1_allPegs
  rw [zfu_eq]
  have hL : ∀ n i, i + n ≤ 16 → f_X1_allPegs_L4 c n i (zsum (fun r => f_J6_bitCount_0f7a4 (c.2 1 r)) i) = zsum (fun r => f_J6_bitCount_0f7a4 (c.2 1 r)) (i + n) := by
    intro n
    induction n with
    | zero => intro i _; rfl
    | succ n ih =>
      intro i h
      unfold f_X1_allPegs_L4
      have e : r_X1_allPegs_13 c i = f_J6_bitCount_0f7a4 (c.2 1 i) := by
        unfold r_X1_allPegs_13 f_X1_pegsInRow
        rw [nI_clamp (by omega)]
      rw [e, show i + (n + 1) = (i + 1) + n by omega, ← ih (i + 1) (by omega)]
      rfl
  exact hL 16 0 (by omega)
theorem zplace_sum (c : zCV) {p : Nat} : f_X1_pegsAtPlace c (nI p) = zsum (fun r => if zbt (c.2 1 r) p = 0 then (0 : Int32) else 1) 16 := by
  unfold f_X1_pegsAtPlace
  rw [zfu_eq]
  have hL : ∀ n i, i + n ≤ 16 → f_X1_pegsAtPlace_L4 c (nI p) n i (zsum (fun r => if zbt (c.2 1 r) p = 0 then (0 : Int32) else 1) i) = zsum (fun r => if zbt (c.2 1 r) p = 0 then (0 : Int32) else 1) (i + n) := by
    intro n
    induction n with
    | zero => intro i _; rfl
    | succ n ih =>
      intro i h
      unfold f_X1_pegsAtPlace_L4
      rw [show r_X1_pegsAtPlace_13 c (nI p) i = _ from zhas1 c (show i < 16 by omega), show i + (n + 1) = (i + 1) + n by omega, ← ih (i + 1) (by omega)]
      by_cases q : zbt (c.2 1 i) p = 0
      · rw [if_pos q, if_pos rfl]
        show _ = f_X1_pegsAtPlace_L4 c (nI p) n (i + 1) (zsum _ i + (if zbt (c.2 1 i) p = 0 then (0 : Int32) else 1))
        rw [if_pos q, Int32.add_zero]
      · rw [if_neg q, if_neg (by decide)]
        show _ = f_X1_pegsAtPlace_L4 c (nI p) n (i + 1) (zsum _ i + (if zbt (c.2 1 i) p = 0 then (0 : Int32) else 1))
        rw [if_neg q]
  exact hL 16 0 (by omega)
theorem zI_well (hk : k < 61) : zA_well (zI k) := by
  intro V U h
  obtain ⟨hM, hJ, -, -, -⟩ := h
  obtain ⟨h1, h2, h3, h4, h5, ⟨h6a, h6b, ⟨f, hf, h9⟩, h6d⟩, ⟨s, x, y, z, n1, n2, n3, n4, n5, n6, n7⟩, h8, h10⟩ := hJ
  obtain ⟨r, hr, h4r⟩ := vp_in_of h1 (by omega)
  have hs : s < 2 ^ 31 := by omega
  refine ⟨?_, ?_, (zk_ns V h5 h4 hr h4r).1, fun a p ha hp => ⟨?_, ?_⟩, fun a ha => ⟨?_, ?_, ?_⟩⟩
  · rw [zk_c9, h9]; exact nI_ge (b := 8) (by omega) (by omega)
  · rw [zk_c8 V h3, zk_c7]
    rcases h3 with e | e
    · exact Or.inl e
    · right
      obtain ⟨q, hq, hz⟩ := h6d (by rw [e]; decide)
      intro e0
      rw [e0] at hz
      exact hz (zbt_0 hq)
  · rw [zpe_eq V hs n7 ha hp, zk_row0 V ha]
    constructor
    · exact fun q => zbt1 q
    · intro q q0
      rw [q0] at q
      exact absurd q (by decide)
  · rw [zk_stamped V ha hp, zk_c10, n2]
    by_cases q : zbt (V.1.2 1 a) p = 0
    · rw [if_pos q]
      rw [Int32.lt_iff_toInt_lt, nI_toInt hs, show (-6 : Int32).toInt = -6 by decide]
      omega
    · rw [if_neg q]
      obtain ⟨t, ht, et⟩ := n7 a p ha hp q
      rw [et]
      exact nI_nlt (by omega) (by omega)
  · rw [zpe_sum V hs n7 h5 ha, zk_row1 V ha]
  · rw [zpe_sum V hs n7 h5 ha, zk_row2 V ha, show kF_count V 3 = V.1.2 0 3 from zk_cs V (show 3 < 4 by omega)]
    unfold f_X0_wouldJamAt r_X0_wouldJamAt_5 f_X1_pegsInRow
    rw [nI_clamp (by omega)]
  · rw [zk_row3 V ha, zk_c4, h4r]
    exact zk_fm a ha r hr
theorem zI_wellS (hk : k < 61) : zA_wellS (zI k) := by
  intro V U h
  obtain ⟨hM, hJ, -, -, -⟩ := h
  obtain ⟨h1, h2, h3, h4, h5, h6, ⟨s, x, y, z, n1, n2, n3, n4, n5, n6, n7⟩, h8, h10⟩ := hJ
  have hs : s < 2 ^ 31 := by omega
  have hA : zsum (fun r => f_J6_bitCount_0f7a4 (V.1.2 1 r)) 16 = f_X1_allPegs V.1 := (zall_sum V.1).symm
  refine ⟨?_, ?_, ?_, fun p hp => ⟨?_, ?_, ?_⟩⟩
  · rw [zk_c15, ← hA]
    exact zsum_congr 16 (fun r hr => zpe_sum V hs n7 h5 hr)
  · rw [zk_c15, ← hA]
    have e1 : zsum (fun p => kF_stamp V (nI p) 3) 6 = zsum (fun p => zsum (fun r => if zbt (V.1.2 1 r) p = 0 then (0 : Int32) else 1) 16) 6 := zsum_congr 6 (fun p hp => by rw [(zk_st V hp).2.2.2.1]; exact zplace_sum V.1)
    rw [e1, zsum_swap (fun p r => if zbt (V.1.2 1 r) p = 0 then (0 : Int32) else 1) 16 6]
    exact zsum_congr 16 (fun r hr => zbc (h5 r hr))
  · rw [zk_c17, zmarks_eq]
    exact zsum_congr 6 (fun p hp => (zk_st V hp).2.1)
  · rw [(zk_st V hp).1]
    obtain ⟨i, hi, e⟩ := vp_in_of (h8 p hp).1 (by omega)
    rw [e]; exact nI_pos (by omega)
  · rw [(zk_st V hp).1]
    obtain ⟨i, hi, e⟩ := vp_in_of (h8 p hp).1 (by omega)
    rw [e]; exact nI_nlt (a := 99) (by omega) (by omega)
  · rw [(zk_st V hp).2.1, zk_c7]
    obtain ⟨-, m, m1, m2, m3⟩ := h8 p hp
    by_cases q : zbt (V.1.1 7) p = 0
    · exact Or.inl q
    · right
      rw [m2]; exact nI_nle (m3 q) (by omega)
theorem zsteps_n : ∀ (n i : Nat) (c : zCV), ∃ dd, dd ≤ n ∧ (f_X0_makeSteps_L2 n i c).1 = nI (i + dd)
  | 0, i, c => ⟨0, Nat.le_refl _, rfl⟩
  | n + 1, i, c => by
    unfold f_X0_makeSteps_L2
    split
    · exact ⟨0, by omega, rfl⟩
    · obtain ⟨dd, h1, h2⟩ := zsteps_n n (i + 1) (r_X0_makeSteps_8 c).2
      exact ⟨dd + 1, by omega, h2.trans (by rw [show i + 1 + dd = i + (dd + 1) by omega])⟩
theorem zI_wellJ (hk : k < 61) : zA_wellJ (zI k) := by
  intro V U h
  obtain ⟨hM, hJ, -, -, -⟩ := h
  have hJ0 := hJ
  obtain ⟨h1, h2, h3, h4, h5, h6, ⟨s, x, y, z, n1, n2, n3, n4, n5, n6, n7⟩, h8, ⟨jj, j1, j2, j3⟩⟩ := hJ
  obtain ⟨r, hr, h4r⟩ := vp_in_of h1 (by omega)
  refine ⟨?_, ?_, ?_⟩
  · rw [zk_uj, zk_c5 V h2, zk_c4, h4r, zk_row2 V hr, zmake_eq _ (by omega)]
    have hM2 : zM (f_X0_copyFrom V.2.2.2.2.1 V.1) (f_X0_copyFrom V.2.2.2.2.1 U.1) := zM_copy hM
    have hJ2 : zJ (f_X0_copyFrom V.2.2.2.2.1 V.1) (200 * k) := zJ_copy hJ0
    obtain ⟨q1, q2, q3, q4, q5⟩ := zcp V.2.2.2.2.1 V.1
    have e5 := q1 5 (by omega) (by omega)
    have e4 := q1 4 (by omega) (by omega)
    have ew : f_X0_wouldJamAt (f_X0_copyFrom V.2.2.2.2.1 V.1) (nI r) = f_X0_wouldJamAt V.1 (nI r) := by
      unfold f_X0_wouldJamAt r_X0_wouldJamAt_5 f_X1_pegsInRow
      rw [nI_clamp (by omega), q3 r hr, q2 3 (by omega)]
    generalize f_X0_copyFrom V.2.2.2.2.1 V.1 = t at *
    obtain ⟨-, -, a3, a4⟩ := zone hM2 hJ2 (by omega)
    rw [e4, h4r, ew, e5] at a4
    have eL : f_X0_makeSteps_L2 500 0 t = if (f_X0_makeOneStep t).1 = (0 : Int32) then (nI 0, (f_X0_makeOneStep t).2) else f_X0_makeSteps_L2 499 1 (f_X0_makeOneStep t).2 := rfl
    have w01 : f_X0_wouldJamAt V.1 (nI r) = 0 ∨ f_X0_wouldJamAt V.1 (nI r) = 1 := by
      unfold f_X0_wouldJamAt
      split
      · exact Or.inl rfl
      · exact Or.inr rfl
    rw [eL]
    rcases a4 with ⟨z1, z2, z3, z4, z5⟩ | ⟨z1, z2, z3, z4, -⟩
    · rw [z1, if_pos rfl]
      show ((if (f_X0_makeOneStep t).2.1 5 = (0 : Int32) then (-6 : Int32) else nI 0) = 0 ↔ _)
      rw [if_neg z4]
      refine ⟨fun _ => ?_, fun _ => rfl⟩
      rcases z5 with z5 | z5
      · exact Or.inl (h2.resolve_left z5)
      · exact Or.inr (w01.resolve_left z5)
    · rw [z1, if_neg (show ¬ (1 : Int32) = 0 by decide)]
      obtain ⟨dd, d1, d2⟩ := zsteps_n 499 1 (f_X0_makeOneStep t).2
      constructor
      · intro q
        exfalso
        by_cases w : (f_X0_makeSteps_L2 499 1 (f_X0_makeOneStep t).2).2.1 5 = (0 : Int32)
        · rw [if_pos w] at q; exact absurd q (by decide)
        · rw [if_neg w, d2] at q
          exact nI_ne0 (by omega) (by omega) q
      · rintro (q | q)
        · rw [z2] at q; exact absurd q (by decide)
        · rw [z3] at q; exact absurd q (by decide)
  · rw [zk_c10, zk_c11, zk_c12, zk_c13, n2, n4, n5, n6, nI_add, nI_add]
    exact nI_nlt (by omega) (by omega)
  · rw [zk_c5 V h2, zk_c14, j2]
    rcases h2 with e | e
    · exact Or.inl e
    · right
      exact nI_nle (j3 (by rw [e]; decide)) (by omega)
end ZWL
