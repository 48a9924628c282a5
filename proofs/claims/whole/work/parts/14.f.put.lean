/-! Texts are put. -/
theorem zcmp0 {x : Int64} : lg_cmp x (0 : Int64) = (0 : Int32) ↔ x = 0 := by
  constructor
  · intro h
    have a : ¬ x < 0 := fun z => by
      have := zcmp_lt.mpr z
      rw [h] at this; exact absurd this (by decide)
    have b : ¬ 0 < x := fun z => by
      have := zcmp_gt.mpr z
      rw [h] at this; exact absurd this (by decide)
    rw [Int64.lt_iff_toInt_lt] at a b
    apply Int64.toInt_inj.mp
    omega
  · rintro rfl; decide
theorem zb255 (x : Int64) : 0 ≤ (x &&& (255 : Int64)).toInt ∧ (x &&& (255 : Int64)).toInt ≤ 255 := by
  have h : (x &&& (255 : Int64)).toBitVec.toNat ≤ 255 := by
    rw [Int64.toBitVec_and, BitVec.toNat_and]
    exact Nat.and_le_right
  have e : (x &&& (255 : Int64)).toInt = ((x &&& (255 : Int64)).toBitVec.toNat : Int) := BitVec.toInt_eq_toNat_of_lt (by omega)
  rw [e]; omega
theorem zb32 (x : Int64) : ((x &&& (255 : Int64)).toInt32).toInt = (x &&& (255 : Int64)).toInt := by
  have := zb255 x
  rw [Int64.toInt_toInt32]
  exact Int.bmod_eq_of_le (by omega) (by omega)
theorem zchL : ∀ (n i : Nat) (x : Int64), f_X3_charactersIn_L5 n i x = if (lg_cmp (f_X6_charactersOf_L5 n i x).2 (0 : Int64)) = (0 : Int32) then (f_X6_charactersOf_L5 n i x).1 else (0 : Int32) := by
  intro n
  induction n with
  | zero => intro i x; rfl
  | succ n ih =>
    intro i x
    have hb := zb255 x
    unfold f_X3_charactersIn_L5 f_X6_charactersOf_L5
    by_cases z : (lg_cmp (x &&& (255 : Int64)) (0 : Int64)) = (0 : Int32)
    · have z2 := zcmp0.mp z
      have hin : f_X6_in (x &&& (255 : Int64)) (33 : Int64) (126 : Int64) = (0 : Int32) := by
        rw [z2]; decide
      rw [if_pos z, if_pos hin]
    · have z2 : ¬ (x &&& (255 : Int64)) = 0 := fun y => z (zcmp0.mpr y)
      have z3 : ¬ lg_cmp x (0 : Int64) = (0 : Int32) := fun y => z2 (by rw [zcmp0.mp y]; decide)
      have h33 : (x &&& (255 : Int64)).toInt32 < (33 : Int32) ↔ (x &&& (255 : Int64)).toInt < 33 := by rw [zlt_lit (a := 33) (by decide), zb32]
      have h126 : (x &&& (255 : Int64)).toInt32 ≤ (126 : Int32) ↔ (x &&& (255 : Int64)).toInt ≤ 126 := by rw [zle_lit (a := 126) (by decide), zb32]
      rw [if_neg z]
      by_cases y : f_X6_in (x &&& (255 : Int64)) (33 : Int64) (126 : Int64) = (0 : Int32)
      · have hn := (not_congr (zin_iff (x &&& (255 : Int64)) 33 126)).mp (fun w => w y)
        rw [show (33 : Int64).toInt = 33 by decide, show (126 : Int64).toInt = 126 by decide] at hn
        rw [if_pos y, if_neg z3]
        by_cases u : (x &&& (255 : Int64)).toInt < 33
        · rw [if_pos (h33.mpr u)]
        · rw [if_neg (fun w => u (h33.mp w)), if_neg (fun w => hn ⟨by omega, h126.mp w⟩)]
      · have hn := (zin_iff (x &&& (255 : Int64)) 33 126).mp y
        rw [show (33 : Int64).toInt = 33 by decide, show (126 : Int64).toInt = 126 by decide] at hn
        rw [if_neg y, if_neg (fun w => absurd (h33.mp w) (by omega)), if_pos (h126.mpr hn.2)]
        exact ih _ _
theorem zch (p : Int64) : f_X3_charactersIn p = f_X6_charactersOf p := by
  unfold f_X3_charactersIn f_X6_charactersOf
  rw [zfu_eq]; exact zchL 8 0 p
/-- a text's sign, from behind -/
def zby (p : Int64) (i : Nat) : Int32 := (((p.toUInt64 >>> (((8 : Int32) * (nI i)).toInt64.toUInt64 &&& Int64.toUInt64 63)).toInt64) &&& (255 : Int64)).toInt32
theorem zby_nI (p : Int64) (i : Nat) : ∃ x, x ≤ 255 ∧ zby p i = nI x := by
  unfold zby
  generalize (p.toUInt64 >>> (((8 : Int32) * (nI i)).toInt64.toUInt64 &&& Int64.toUInt64 63)).toInt64 = y
  have h := zb255 y
  obtain ⟨j, hj, e⟩ := vp_in_of (x := (y &&& (255 : Int64)).toInt32) (n := 256) (vp_in_iff.mpr (by rw [zb32]; omega)) (by omega)
  exact ⟨j, by omega, e⟩
set_option maxRecDepth 20000 in
theorem znar : ∀ x, x < 256 → vp_nar .char ((nI x).toUInt32 % 65536).toInt32 = nI x := by decide +kernel
theorem zappL {p : Int64} {t k : Nat} (hk : t + k ≤ 60) : ∀ (n i : Nat) (w : zCV), i + n = k → w.1 0 = nI t → (f_X3_append_L3 p (nI k) n i w).1 = w.1 ∧ ∀ j, (f_X3_append_L3 p (nI k) n i w).2 0 j = if t ≤ j ∧ j < t + n then zby p (t + k - 1 - j) else w.2 0 j := by
  intro n
  induction n with
  | zero => intro i w _ _; exact ⟨rfl, fun j => by rw [if_neg (by omega)]; rfl⟩
  | succ n ih =>
    intro i w hi h0
    unfold f_X3_append_L3
    obtain ⟨a1, a2⟩ := ih (i + 1) (s_X3_append_37 p (nI k) i w) (by omega) h0
    have ix : ((((w.1 0) + (nI k)) - (1 : Int32)) - (nI i)).toNatClampNeg = t + k - 1 - i := by
      have e1 : (nI t + nI k) - (1 : Int32) = nI (t + k - 1) := by
        rw [nI_add]
        obtain ⟨q, hq⟩ : ∃ q, t + k = q + 1 := ⟨t + k - 1, by omega⟩
        rw [hq, nI_pred]; rfl
      rw [h0, e1]
      have e2 : nI (t + k - 1) - nI i = nI (t + k - 1 - i) := by
        have : nI (t + k - 1) = nI (t + k - 1 - i) + nI i := by rw [nI_add, show t + k - 1 - i + i = t + k - 1 by omega]
        rw [this, Int32.add_sub_cancel]
      rw [e2, nI_clamp (by omega)]
    obtain ⟨x, hx, ex⟩ := zby_nI p i
    have e : ∀ j, (s_X3_append_37 p (nI k) i w).2 0 j = if j = t + k - 1 - i then zby p i else w.2 0 j := by
      intro j
      unfold s_X3_append_37
      rw [zA_eq, ix, show vp_nar .char ((((((p.toUInt64 >>> (((8 : Int32) * (nI i)).toInt64.toUInt64 &&& Int64.toUInt64 63)).toInt64) &&& (255 : Int64)).toInt32).toUInt32 % 65536).toInt32) = zby p i from by
        show vp_nar .char (((zby p i).toUInt32 % 65536).toInt32) = zby p i
        rw [ex, znar x (by omega)]]
      rfl
    refine ⟨a1, fun j => ?_⟩
    rw [a2 j, e j]
    by_cases q : j = t + k - 1 - i
    · rw [if_neg (show ¬ (t ≤ j ∧ j < t + n) by omega), if_pos q, if_pos (show t ≤ j ∧ j < t + (n + 1) by omega), show t + k - 1 - j = i by omega]
    · by_cases q2 : t ≤ j ∧ j < t + n
      · rw [if_pos q2, if_pos (show t ≤ j ∧ j < t + (n + 1) by omega)]
      · rw [if_neg q2, if_neg q, if_neg (show ¬ (t ≤ j ∧ j < t + (n + 1)) by omega)]
theorem zputL {p : Int64} {t k : Nat} (hk : t + k ≤ 60) (hc : f_X6_charactersOf p = nI k) : ∀ (n i : Nat) (w : zCV), i + n = k → w.1 1 = nI t → zFr 5 w (f_X6_put_L29 p n i w) ∧ ∀ j, (f_X6_put_L29 p n i w).2 5 j = if t + i ≤ j ∧ j < t + i + n then zby p (t + k - 1 - j) else w.2 5 j := by
  intro n
  induction n with
  | zero => intro i w _ _; exact ⟨zFr.rf, fun j => by rw [if_neg (by omega)]; rfl⟩
  | succ n ih =>
    intro i w hi h0
    unfold f_X6_put_L29
    obtain ⟨a1, a2⟩ := ih (i + 1) (s_X6_put_62 p i w) (by omega) h0
    have e2 : ((nI k) - (1 : Int32)) - (nI i) = nI (k - 1 - i) := by
      obtain ⟨q, rfl⟩ : ∃ q, k = q + 1 := ⟨k - 1, by omega⟩
      rw [nI_pred]
      have : nI q = nI (q - i) + nI i := by rw [nI_add, show q - i + i = q by omega]
      rw [this, Int32.add_sub_cancel]; rfl
    have e : ∀ j, (s_X6_put_62 p i w).2 5 j = if j = t + i then zby p (k - 1 - i) else w.2 5 j := by
      intro j
      unfold s_X6_put_62
      rw [zA_eq, hc, e2, h0, nI_add, nI_clamp (by omega)]
      rfl
    refine ⟨zFr.wr.tr a1, fun j => ?_⟩
    rw [a2 j, e j]
    by_cases q : j = t + i
    · rw [if_neg (show ¬ (t + (i + 1) ≤ j ∧ j < t + (i + 1) + n) by omega), if_pos q, if_pos (show t + i ≤ j ∧ j < t + i + (n + 1) by omega), show t + k - 1 - j = k - 1 - i by omega]
    · by_cases q2 : t + (i + 1) ≤ j ∧ j < t + (i + 1) + n
      · rw [if_pos q2, if_pos (show t + i ≤ j ∧ j < t + i + (n + 1) by omega)]
      · rw [if_neg q2, if_neg q, if_neg (show ¬ (t + i ≤ j ∧ j < t + i + (n + 1)) by omega)]
theorem zR_put : zSim_put zR := by
  intro vc vh vp vs vt VH VS m p0 hR
  obtain ⟨h1, h2, ⟨t, ht, e1, e2, e3⟩, h4, h5, h6⟩ := id hR
  unfold f_X5_put f_X6_put
  rw [zch, e1, e2]
  obtain ⟨k, hk, ek⟩ := vp_in_of (zchars_le p0) (by omega)
  by_cases q : f_X6_charactersOf p0 = (0 : Int32)
  · rw [if_pos q, if_pos q]; exact ⟨rfl, hR⟩
  rw [if_neg q, if_neg q]
  by_cases u : (nI t + f_X6_charactersOf p0) ≤ (60 : Int32)
  · rw [if_pos u, if_pos u]
    have hk2 : t + k ≤ 60 := by
      rw [ek, nI_add, show (60 : Int32) = nI 60 from rfl, nI_leI (by omega) (by omega)] at u
      exact u
    obtain ⟨a1, a2⟩ := zappL (p := p0) hk2 k 0 vp (by omega) e1
    obtain ⟨b1, b2⟩ := zputL hk2 ek k 0 m (by omega) e2
    have i0 : (nI k).toNatClampNeg = k := nI_clamp (by omega)
    have s5 : s_X5_put_35 vp p0 = zS (f_X3_append_L3 p0 (nI k) k 0 vp) 0 (nI (t + k)) := by
      unfold s_X5_put_35 f_X3_append s_X3_append_51
      rw [zch, ek, i0, zfu_eq, a1, e1, nI_add]
    have s6 : s_X6_put_76 m p0 = zS (f_X6_put_L29 p0 k 0 m) 1 (nI (t + k)) := by
      unfold s_X6_put_76
      rw [ek, i0, zfu_eq, b1.1, e2, nI_add]
    rw [s5, s6]
    dsimp only
    refine ⟨(zS_eq _ _ _).trans (zS_eq _ _ _).symm, zCk_congr h1 (fun j _ => by rw [zS_2, b1.2 0 (by decide)]), zH_congr h2 (by rw [zS_ne _ _ (by decide), b1.1]) (b1.2 2 (by decide)), ⟨t + k, hk2, zS_eq _ _ _, zS_eq _ _ _, fun i hi => ?_⟩, zSl_congr h4 (b1.2 3 (by decide)) (b1.2 4 (by decide)), h5, h6⟩
    rw [zS_2, zS_2, a2, b2]
    by_cases y : t ≤ i ∧ i < t + k
    · rw [if_pos y, if_pos (show t + 0 ≤ i ∧ i < t + 0 + k by omega)]
      obtain ⟨x, hx, ex⟩ := zby_nI p0 (t + k - 1 - i)
      exact ⟨x, hx, ex, ex⟩
    · rw [if_neg y, if_neg (show ¬ (t + 0 ≤ i ∧ i < t + 0 + k) by omega)]
      exact e3 i (by omega)
  · rw [if_neg u, if_neg u]; exact ⟨rfl, hR⟩
