/-! One stamp's fall and one peg's wear, on both sides. -/
theorem zix2 {r p : Nat} (hr : r < 16) (hp : p < 6) : ((nI r * (6 : Int32)) + nI p).toNatClampNeg = 6 * r + p := by
  rw [show (6 : Int32) = nI 6 from rfl, znI_mul, nI_add, nI_clamp (by omega), Nat.mul_comm]
section ZSC
variable {c m : zCV} {b : Nat}
theorem zE.set (h : zE c (m.2 0)) {k : Nat} (hk : k < 4) : m.2 0 k = c.2 0 k := (zE_iff.mp h).1 k hk
theorem zE.sc (h : zE c (m.2 0)) {k : Nat} (h1 : 4 ≤ k) (h2 : k < 16) : m.2 0 k = c.1 k := (zE_iff.mp h).2.1 k h1 h2
theorem zE.ink (h : zE c (m.2 0)) {s : Nat} (hs : s < 6) : m.2 0 (16 + s) = c.2 3 s := (zE_iff.mp h).2.2.1 s hs
theorem zE.mark (h : zE c (m.2 0)) {s : Nat} (hs : s < 6) : m.2 0 (22 + s) = c.2 4 s := (zE_iff.mp h).2.2.2.1 s hs
theorem zE.dry (h : zE c (m.2 0)) {s : Nat} (hs : s < 6) : m.2 0 (28 + s) = c.2 5 s := (zE_iff.mp h).2.2.2.2.1 s hs
theorem zE.spoil (h : zE c (m.2 0)) {s : Nat} (hs : s < 6) : m.2 0 (34 + s) = c.2 6 s := (zE_iff.mp h).2.2.2.2.2.1 s hs
theorem zE.peg (h : zE c (m.2 0)) {r p : Nat} (hr : r < 16) (hp : p < 6) : m.2 0 (40 + 6 * r + p) = if zbit (c.2 1 r) p = (0 : Int32) then (-6 : Int32) else c.2 2 (6 * r + p) := (zE_iff.mp h).2.2.2.2.2.2 r p hr hp
theorem zR_S (h : zE c (m.2 0)) (j : Nat) (h4 : 4 ≤ j) (h16 : j < 16) {x y : Int32} (hxy : y = x) : zE (zS c j x) ((zA m 0 (upd (m.2 0) j y)).2 0) := by
  subst hxy
  rw [zA_eq]; exact zE_S h h4 h16 y
theorem zR_A (h : zE c (m.2 0)) (j b n : Nat) (hj : (j = 0 ∧ b = 0 ∧ n = 4) ∨ (j = 3 ∧ b = 16 ∧ n = 6) ∨ (j = 4 ∧ b = 22 ∧ n = 6) ∨ (j = 5 ∧ b = 28 ∧ n = 6) ∨ (j = 6 ∧ b = 34 ∧ n = 6)) {s cs ix : Nat} (hs : s < n) (hcs : cs = s) (hix : ix = b + s) {x y : Int32} (hxy : y = x) : zE (zA c j (upd (c.2 j) cs x)) ((zA m 0 (upd (m.2 0) ix y)).2 0) := by
  subst hxy; subst hcs; subst hix
  rw [zA_eq]; exact zE_A h hj hs y
/-- the mark that a fall leaves -/
def zgo5 (c : zCV) (p : Int32) : zCV := if (f_X4_leavesMark c p ((c.2 0) 1)).1 = (0 : Int32) then (f_X4_leavesMark c p ((c.2 0) 1)).2 else zS (f_X4_leavesMark c p ((c.2 0) 1)).2 7 (((f_X4_leavesMark c p ((c.2 0) 1)).2.1 7) ||| ((1 : Int32) <<< (p &&& 31)))
def zgo6 (m : zCV) (p : Int32) : zCV := if ((m.2 0) 1) ≤ ((m.2 0) ((16 : Int32) + p).toNatClampNeg) then s_X6_falls_111 m p else s_X6_falls_66 m p
theorem zgo5_eq (c : zCV) (p : Int32) : f_X0_letStampFall c p = if (((c.1 7) >>> (p &&& 31)) &&& (1 : Int32)) = (0 : Int32) then zgo5 c p else zgo5 (s_X0_letStampFall_28 c p) p := rfl
theorem zgo6_eq (m : zCV) (p : Int32) : f_X6_falls m p = if (((m.2 0 7) >>> (p &&& 31)) &&& (1 : Int32)) = (1 : Int32) then zgo6 (s_X6_falls_35 m p) p else zgo6 m p := rfl
theorem zgo (hE : zE c (m.2 0)) {p : Nat} (hp : p < 6) : zE (zgo5 c (nI p)) ((zgo6 m (nI p)).2 0) := by
  have i0 : (nI p).toNatClampNeg = p := nI_clamp (by omega)
  have i16 : ((16 : Int32) + nI p).toNatClampNeg = 16 + p := zix (16 : Int32) rfl (by omega)
  have i22 : ((22 : Int32) + nI p).toNatClampNeg = 22 + p := zix (22 : Int32) rfl (by omega)
  have i28 : ((28 : Int32) + nI p).toNatClampNeg = 28 + p := zix (28 : Int32) rfl (by omega)
  unfold zgo5 zgo6
  rw [hE.set (show 1 < 4 by omega), i16, hE.ink hp]
  unfold f_X4_leavesMark
  by_cases q : (c.2 0 1) ≤ (c.2 3 p)
  · rw [i0, if_pos q, if_pos q]
    rw [if_neg (show ¬ (1 : Int32) = 0 by decide)]
    have E1 : zE (s_X4_leavesMark_31 c (nI p) (c.2 0 1)) ((s_X6_falls_85 m (nI p)).2 0) := zR_A hE 3 16 6 (by omega) hp i0 i16 (by rw [i16, i0, hE.ink hp, hE.set (show 1 < 4 by omega)])
    have E2 : zE (s_X4_leavesMark_41 c (nI p) (c.2 0 1)) ((s_X6_falls_98 m (nI p)).2 0) := zR_A E1 4 22 6 (by omega) hp i0 i22 (by rw [i22, i0, E1.mark hp])
    exact zR_S E2 7 (by omega) (by omega) (by rw [E2.sc (by omega) (by omega)])
  · rw [i0, if_neg q, if_neg q]
    rw [if_pos rfl]
    exact zR_A hE 5 28 6 (by omega) hp i0 i28 (by rw [i28, i0, hE.dry hp])
theorem zfall (hE : zE c (m.2 0)) {p : Nat} (hp : p < 6) : zE (f_X0_letStampFall c (nI p)) ((f_X6_falls m (nI p)).2 0) := by
  rw [zgo5_eq, zgo6_eq, hE.sc (show 4 ≤ 7 by omega) (by omega)]
  have i0 : (nI p).toNatClampNeg = p := nI_clamp (by omega)
  have i34 : ((34 : Int32) + nI p).toNatClampNeg = 34 + p := zix (34 : Int32) rfl (by omega)
  rw [show (c.1 7 >>> (nI p &&& 31)) &&& (1 : Int32) = zbit (c.1 7) p from rfl]
  rcases zbit01 (c.1 7) p with q | q
  · rw [q, if_pos rfl, if_neg (by decide)]
    exact zgo hE hp
  · rw [q, if_neg (by decide), if_pos rfl]
    have E1 : zE (s_X0_letStampFall_13 c) ((s_X6_falls_22 m).2 0) := zR_S hE 8 (by omega) (by omega) rfl
    have E2 : zE (s_X0_letStampFall_28 c (nI p)) ((s_X6_falls_35 m (nI p)).2 0) := zR_A E1 6 34 6 (by omega) hp i0 i34 (by rw [i34, i0, E1.spoil hp])
    exact zgo E2 hp
/-- what a fall leaves as it was -/
theorem zfall_fr (c : zCV) (p : Int32) : (∀ k, k ≠ 7 → k ≠ 8 → (f_X0_letStampFall c p).1 k = c.1 k) ∧ ((f_X0_letStampFall c p).1 8 = c.1 8 ∨ (f_X0_letStampFall c p).1 8 = 1) ∧ ∀ j, j < 3 → (f_X0_letStampFall c p).2 j = c.2 j := by
  have hg : ∀ c : zCV, (∀ k, k ≠ 7 → (zgo5 c p).1 k = c.1 k) ∧ ∀ j, j < 3 → (zgo5 c p).2 j = c.2 j := by
    intro c
    unfold zgo5 f_X4_leavesMark
    split
    all_goals split
    all_goals refine ⟨fun k hk => ?_, fun j hj => ?_⟩
    all_goals first | rfl | exact if_neg hk | (simp only [s_X4_leavesMark_41, s_X4_leavesMark_31, s_X4_leavesMark_19, zS_2]; simp only [zA, if_neg (show ¬ j = 3 by omega), if_neg (show ¬ j = 4 by omega), if_neg (show ¬ j = 5 by omega)])
  rw [zgo5_eq]
  split
  · exact ⟨fun k h1 _ => (hg c).1 k h1, Or.inl ((hg c).1 8 (by omega)), (hg c).2⟩
  · refine ⟨fun k h1 h2 => ((hg _).1 k h1).trans (if_neg h2), Or.inr ((hg _).1 8 (by omega)), fun j hj => ((hg _).2 j hj).trans ?_⟩
    simp only [s_X0_letStampFall_28, s_X0_letStampFall_13, zA, if_neg (show ¬ j = 6 by omega)]
    rfl
/-- a peg's wear -/
theorem zwear_fr (c : zCV) (r p : Nat) (l : Int32) (hr : r < 16) : (∀ k, k ≠ 15 → (f_X1_wearPeg c (nI r) (nI p) l).1 k = c.1 k) ∧ (∀ j, j ≠ 1 → j ≠ 2 → (f_X1_wearPeg c (nI r) (nI p) l).2 j = c.2 j) ∧ (∀ a, a ≠ r → (f_X1_wearPeg c (nI r) (nI p) l).2 1 a = c.2 1 a) ∧ ((f_X1_wearPeg c (nI r) (nI p) l).2 1 r = c.2 1 r ∨ (f_X1_wearPeg c (nI r) (nI p) l).2 1 r = zdrop (c.2 1 r) p) := by
  have i0 : (nI r).toNatClampNeg = r := nI_clamp (by omega)
  have h18 : (s_X1_wearPeg_18 c (nI r) (nI p)).1 = c.1 ∧ (∀ j, j ≠ 2 → (s_X1_wearPeg_18 c (nI r) (nI p)).2 j = c.2 j) := ⟨rfl, fun j hj => zA_ne _ _ hj⟩
  have a : (∀ k, k ≠ 15 → (s_X1_wearPeg_18 c (nI r) (nI p)).1 k = c.1 k) ∧ (∀ j, j ≠ 1 → j ≠ 2 → (s_X1_wearPeg_18 c (nI r) (nI p)).2 j = c.2 j) ∧ (∀ a, a ≠ r → (s_X1_wearPeg_18 c (nI r) (nI p)).2 1 a = c.2 1 a) ∧ ((s_X1_wearPeg_18 c (nI r) (nI p)).2 1 r = c.2 1 r ∨ (s_X1_wearPeg_18 c (nI r) (nI p)).2 1 r = zdrop (c.2 1 r) p) :=
    ⟨fun k _ => rfl, fun j _ h2 => h18.2 j h2, fun a _ => by rw [h18.2 1 (by decide)], Or.inl (by rw [h18.2 1 (by decide)])⟩
  unfold f_X1_wearPeg
  split
  · exact a
  split
  · exact a
  have e1 : (s_X1_wearPeg_55 c (nI r) (nI p)).2 1 = upd (c.2 1) r (zdrop (c.2 1 r) p) := by
    show (s_X1_wearPeg_47 c (nI r) (nI p)).2 1 = _
    rw [s_X1_wearPeg_47, zA_eq, h18.2 1 (by decide), i0]
    rfl
  refine ⟨fun k hk => if_neg hk, fun j h1 h2 => ?_, fun a ha => ?_, Or.inr ?_⟩
  · show (s_X1_wearPeg_47 c (nI r) (nI p)).2 j = _
    rw [s_X1_wearPeg_47, zA_ne _ _ h1, h18.2 j h2]
  · rw [e1, zupd_ne _ _ ha]
  · rw [e1, zupd_eq]
end ZSC
