/-! The relation of both objects, and the calls that change a clerk simply. -/
def zH (V : zPV) : Prop := vp_in (V.2.1.1 0) 6 ∧ vp_in (V.2.2.1.1 0) 61
def zSl (k : Nat) (V U : zPV) : Prop := ∀ j, j < 2 → zM (V.2.2.2.2.2.2 j) (U.2.2.2.2.2.2 j) ∧ zJ (V.2.2.2.2.2.2 j) (200 * k) ∧ U.2.2.2.1.2 0 j = V.2.2.2.1.2 0 j
def zI (k : Nat) (V U : zPV) : Prop := zM V.1 U.1 ∧ zJ V.1 (200 * k) ∧ zH V ∧ zH U ∧ zSl k V U
section ZIN
variable {k k' : Nat} {V U : zPV}
theorem zSl.le (h : zSl k V U) (hk : k ≤ k') : zSl k' V U := fun j hj => ⟨(h j hj).1, (h j hj).2.1.le (Nat.mul_le_mul_left 200 hk), (h j hj).2.2⟩
theorem zI_mono : zA_mono (zI k) (zI (k + 1)) := fun V U h => ⟨h.1, h.2.1.le (by omega), h.2.2.1, h.2.2.2.1, h.2.2.2.2.le (by omega)⟩
theorem zfo {c : zCV} (h : zJs c) : vp_in (c.2 0 0) 9 := by
  obtain ⟨F, h1, h2, h3⟩ := h.1
  rw [h3]
  exact vp_in_nI (by omega) (by omega)
theorem zI_ok : zA_ok (zI k) := by
  intro V U h
  obtain ⟨hM, hJ, hV, hU, hS⟩ := h
  refine ⟨⟨hJ.2.1, hJ.2.2.1, hV.1, hJ.1, hV.2, zfo hJ.2.2.2.1, fun j hj => (hS j hj).2.1.2.1, fun j hj => (hS j hj).2.1.2.2.1⟩, ⟨?_, ?_, hU.1, ?_, hU.2, ?_, fun j hj => ?_, fun j hj => ?_⟩⟩
  · rw [hM.sc (by omega) (by omega) (by omega) (by omega)]; exact hJ.2.1
  · rw [hM.sc (by omega) (by omega) (by omega) (by omega)]; exact hJ.2.2.1
  · rw [hM.sc (by omega) (by omega) (by omega) (by omega)]; exact hJ.1
  · rw [hM.set (by omega)]; exact zfo hJ.2.2.2.1
  · rw [(hS j hj).1.sc (by omega) (by omega) (by omega) (by omega)]; exact (hS j hj).2.1.2.1
  · rw [(hS j hj).1.sc (by omega) (by omega) (by omega) (by omega)]; exact (hS j hj).2.1.2.2.1
theorem zI_tr : zA_tr (zI k) := fun V U t h => ⟨h, h⟩
theorem zkp {v w u : zCV} (h : vp_in (v.1 0) 6) : vp_in ((f_X2_keep v w u).1.1 0) 6 := by
  unfold f_X2_keep
  obtain ⟨j, hj, e⟩ := vp_in_of h (by omega)
  split
  · rename_i c
    show vp_in (v.1 0 + (1 : Int32)) 6
    rw [e] at c ⊢
    have := (nI_ltI (a := j) (b := 5) (by omega) (by omega)).mp c
    rw [nI_1]
    exact vp_in_nI (by omega) (by omega)
  · show vp_in (0 : Int32) 6
    exact zlit _ 6 (by decide +kernel)
theorem zI_chg (h : zI k V U) (hk : k ≤ k') {c' d' h1 h2 : zCV} {W1 W2 : Nat → zCV} (hM : zM c' d') (hJ : zJ c' (200 * k')) (e1 : vp_in (h1.1 0) 6) (e2 : vp_in (h2.1 0) 6) : zI k' (c', h1, V.2.2.1, V.2.2.2.1, V.2.2.2.2.1, W1, V.2.2.2.2.2.2) (d', h2, U.2.2.1, U.2.2.2.1, U.2.2.2.2.1, W2, U.2.2.2.2.2.2) :=
  ⟨hM, hJ, ⟨e1, h.2.2.1.2⟩, ⟨e2, h.2.2.2.1.2⟩, h.2.2.2.2.le hk⟩
-- what count says
theorem zk_c4 (V : zPV) : kF_count V 4 = V.1.1 4 := rfl
theorem zk_c5 (V : zPV) (h : V.1.1 5 = 0 ∨ V.1.1 5 = 1) : kF_count V 5 = V.1.1 5 := by
  have e : kF_count V 5 = f_X5_asNumber (V.1.1 5) := rfl
  rw [e]
  rcases h with h | h <;> rw [h] <;> rfl
theorem zk_c6 (V : zPV) : kF_count V 6 = V.1.1 6 := rfl
theorem zk_c7 (V : zPV) : kF_count V 7 = V.1.1 7 := rfl
theorem zk_c8 (V : zPV) (h : V.1.1 8 = 0 ∨ V.1.1 8 = 1) : kF_count V 8 = V.1.1 8 := by
  have e : kF_count V 8 = f_X5_asNumber (V.1.1 8) := rfl
  rw [e]
  rcases h with h | h <;> rw [h] <;> rfl
theorem zk_c9 (V : zPV) : kF_count V 9 = V.1.1 9 := rfl
theorem zk_c10 (V : zPV) : kF_count V 10 = V.1.1 10 := rfl
theorem zk_c11 (V : zPV) : kF_count V 11 = V.1.1 11 := rfl
theorem zk_c12 (V : zPV) : kF_count V 12 = V.1.1 12 := rfl
theorem zk_c13 (V : zPV) : kF_count V 13 = V.1.1 13 := rfl
theorem zk_c14 (V : zPV) : kF_count V 14 = V.1.1 14 := rfl
theorem zk_c15 (V : zPV) : kF_count V 15 = f_X1_allPegs V.1 := rfl
theorem zk_c16 (V : zPV) : kF_count V 16 = V.1.1 15 := rfl
theorem zk_c17 (V : zPV) : kF_count V 17 = f_X4_allMarks V.1 := rfl
theorem zk_c18 (V : zPV) : kF_count V 18 = V.2.2.1.1 0 := rfl
theorem zk_cs (V : zPV) {j : Nat} (hj : j < 4) : kF_count V (nI j) = V.1.2 0 j := by
  rcases (show j = 0 ∨ j = 1 ∨ j = 2 ∨ j = 3 by omega) with rfl | rfl | rfl | rfl <;> rfl
end ZIN
