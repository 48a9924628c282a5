/-! The rows that a text tells are changed. -/
section ZRD
variable {k : Nat} {V U : zPV} {c d : zCV} {b : Nat}
def zfls (row pegs : Int32) (w : zCV) : zCV := if f_X5_isRow row = (0 : Int32) then w else f_X1_giveRow w row pegs
def zch (row pegs inP : Int32) (w : zCV) : List Nat → zCV
  | [] => zfls row pegs w
  | c :: B => if nI c = (59 : Int32) then zch 0 0 0 (zfls row pegs w) B else if nI c = (58 : Int32) then zch row pegs 1 w B else if inP = (0 : Int32) then zch (((row * (10 : Int32)) + nI c) - (48 : Int32)) pegs inP w B else zch row (pegs ||| ((1 : Int32) <<< ((nI c - (48 : Int32)) &&& 31))) inP w B
def zss (row pegs inP : Int32) : List Nat → Int32 × Int32 × Int32
  | [] => (row, pegs, inP)
  | c :: B => if nI c = (58 : Int32) then zss row pegs 1 B else if inP = (0 : Int32) then zss (((row * (10 : Int32)) + nI c) - (48 : Int32)) pegs inP B else zss row (pegs ||| ((1 : Int32) <<< ((nI c - (48 : Int32)) &&& 31))) inP B
theorem zchL {v : zCV} {A : List Nat} (hl : v.1 0 = nI A.length) (hA : ∀ i c, A[i]? = some c → v.2 0 i = nI c) (h60 : A.length < 100) : ∀ (B : List Nat) (i : Nat) (row pegs inP : Int32) (w : zCV), A.drop i = B → i + B.length = A.length → (f_X3_changeRows_L10 v (B.length + 1) i row pegs inP w).2.2.2 = zch row pegs inP w B
  | [], i, row, pegs, inP, w, _, hi => by
    have e : nI i = v.1 0 := by rw [hl, ← hi]; rfl
    show (if (nI i) = (v.1 0) then (if (f_X5_isRow row) = (0 : Int32) then ((0 : Int32), (0 : Int32), (0 : Int32), w) else ((0 : Int32), (0 : Int32), (0 : Int32), s_X3_changeRows_50 row pegs w)) else _).2.2.2 = zfls row pegs w
    rw [if_pos e]
    unfold zfls s_X3_changeRows_50
    split <;> rfl
  | x :: B, i, row, pegs, inP, w, hd, hi => by
    have hc : A[i]? = some x := by
      have := congrArg (fun l => l[0]?) hd
      simpa using this
    rw [List.length_cons] at hi
    have e : v.2 0 (nI i).toNatClampNeg = nI x := by rw [nI_clamp (by omega)]; exact hA i x hc
    have ne : ¬ nI i = v.1 0 := by rw [hl, nI_eq (by omega) (by omega)]; omega
    have hd2 : A.drop (i + 1) = B := by
      rw [← List.drop_drop, hd]
      rfl
    have ih := fun row pegs inP w => zchL hl hA h60 B (i + 1) row pegs inP w hd2 (by omega)
    have e2 : f_X3_changeRows_L10 v ((x :: B).length + 1) i row pegs inP w = if (nI i) = (v.1 0) then (if (f_X5_isRow row) = (0 : Int32) then ((f_X3_changeRows_L10 v (B.length + 1) (i + 1) (0 : Int32) (0 : Int32) (0 : Int32) w)) else ((f_X3_changeRows_L10 v (B.length + 1) (i + 1) (0 : Int32) (0 : Int32) (0 : Int32) (s_X3_changeRows_50 row pegs w)))) else (if ((v.2 0) (nI i).toNatClampNeg) = (59 : Int32) then (if (f_X5_isRow row) = (0 : Int32) then ((f_X3_changeRows_L10 v (B.length + 1) (i + 1) (0 : Int32) (0 : Int32) (0 : Int32) w)) else ((f_X3_changeRows_L10 v (B.length + 1) (i + 1) (0 : Int32) (0 : Int32) (0 : Int32) (s_X3_changeRows_50 row pegs w)))) else (if ((v.2 0) (nI i).toNatClampNeg) = (58 : Int32) then ((f_X3_changeRows_L10 v (B.length + 1) (i + 1) row pegs (1 : Int32) w)) else (if inP = (0 : Int32) then ((f_X3_changeRows_L10 v (B.length + 1) (i + 1) (((row * (10 : Int32)) + ((v.2 0) (nI i).toNatClampNeg)) - (48 : Int32)) pegs inP w)) else ((f_X3_changeRows_L10 v (B.length + 1) (i + 1) row (pegs ||| ((1 : Int32) <<< ((((v.2 0) (nI i).toNatClampNeg) - (48 : Int32)) &&& 31))) inP w))))) := rfl
    rw [e2, if_neg ne, e]
    unfold zch
    by_cases q1 : nI x = (59 : Int32)
    · rw [if_pos q1, if_pos q1, ← ih]
      unfold zfls s_X3_changeRows_50
      split <;> rfl
    · rw [if_neg q1, if_neg q1]
      by_cases q2 : nI x = (58 : Int32)
      · rw [if_pos q2, if_pos q2]; exact ih _ _ _ _
      · rw [if_neg q2, if_neg q2]
        by_cases q3 : inP = (0 : Int32)
        · rw [if_pos q3, if_pos q3]; exact ih _ _ _ _
        · rw [if_neg q3, if_neg q3]; exact ih _ _ _ _
theorem zch_app : ∀ (B C : List Nat) (row pegs inP : Int32) (w : zCV), (∀ x ∈ B, ¬ nI x = (59 : Int32)) → zch row pegs inP w (B ++ C) = zch (zss row pegs inP B).1 (zss row pegs inP B).2.1 (zss row pegs inP B).2.2 w C
  | [], C, row, pegs, inP, w, _ => rfl
  | x :: B, C, row, pegs, inP, w, h => by
    have hx := h x List.mem_cons_self
    have ih := fun row pegs inP => zch_app B C row pegs inP w (fun y hy => h y (List.mem_cons_of_mem _ hy))
    show (if nI x = (59 : Int32) then zch 0 0 0 (zfls row pegs w) (B ++ C) else if nI x = (58 : Int32) then zch row pegs 1 w (B ++ C) else if inP = (0 : Int32) then zch (((row * (10 : Int32)) + nI x) - (48 : Int32)) pegs inP w (B ++ C) else zch row (pegs ||| ((1 : Int32) <<< ((nI x - (48 : Int32)) &&& 31))) inP w (B ++ C)) = _
    rw [if_neg hx]
    unfold zss
    by_cases q2 : nI x = (58 : Int32)
    · rw [if_pos q2, if_pos q2]; exact ih _ _ _
    · rw [if_neg q2, if_neg q2]
      by_cases q3 : inP = (0 : Int32)
      · rw [if_pos q3, if_pos q3]; exact ih _ _ _
      · rw [if_neg q3, if_neg q3]; exact ih _ _ _
set_option maxRecDepth 100000 in
theorem zk_ss : ∀ r, r < 16 → ∀ j, j < 64 → (decide (zss 0 0 0 (zrowT r (nI j)) = (nI r, nI j, 1)) && (zrowT r (nI j)).all (fun x => decide (¬ nI x = (59 : Int32)))) = true := by decide +kernel
theorem zss_row {r : Nat} (hr : r < 16) {s : Int32} (hs : vp_in s 64) : zss 0 0 0 (zrowT r s) = (nI r, s, 1) ∧ ∀ x ∈ zrowT r s, ¬ nI x = (59 : Int32) := by
  obtain ⟨j, hj, rfl⟩ := zof64 hs
  have h := zk_ss r hr j hj
  rw [Bool.and_eq_true, decide_eq_true_iff, List.all_eq_true] at h
  exact ⟨h.1, fun x hx => of_decide_eq_true (h.2 x hx)⟩
def zgiv (w : zCV) (x : Nat × Int32) : zCV := f_X1_giveRow w (nI x.1) x.2
theorem zch_tl : ∀ (L : List (Nat × Int32)) (x : Nat × Int32) (w : zCV), zRows (x :: L) → zch 0 0 0 w (zrowT x.1 x.2 ++ ztl L) = (x :: L).foldl zgiv w
  | [], x, w, h => by
    have hx := h x List.mem_cons_self
    obtain ⟨e1, e2⟩ := zss_row hx.1 hx.2
    rw [zch_app _ _ _ _ _ _ e2, e1]
    show zfls (nI x.1) x.2 w = zgiv w x
    unfold zfls
    rw [if_neg (zrow5 hx.1)]
    rfl
  | y :: L, x, w, h => by
    have hx := h x List.mem_cons_self
    obtain ⟨e1, e2⟩ := zss_row hx.1 hx.2
    rw [zch_app _ _ _ _ _ _ e2, e1]
    show zch (nI x.1) x.2 1 w (59 :: (zrowT y.1 y.2 ++ ztl L)) = (y :: L).foldl zgiv (zgiv w x)
    rw [← zch_tl L y (zgiv w x) (fun z hz => h z (List.mem_cons_of_mem _ hz))]
    have e3 : zch (nI x.1) x.2 1 w (59 :: (zrowT y.1 y.2 ++ ztl L)) = zch 0 0 0 (zfls (nI x.1) x.2 w) (zrowT y.1 y.2 ++ ztl L) := if_pos (show nI 59 = (59 : Int32) from rfl)
    rw [e3]
    unfold zfls
    rw [if_neg (zrow5 hx.1)]
    rfl
theorem zch_txt {L : List (Nat × Int32)} (h : L ≠ []) (hL : zRows L) (w : zCV) : zch 0 0 0 w (ztxt L) = L.foldl zgiv w := by
  match L, h with
  | x :: L, _ => rw [ztxt_cons]; exact zch_tl L x w hL
theorem zfold_M : ∀ (L : List (Nat × Int32)) (c d : zCV) (b : Nat), zM c d → zJ c b → zRows L → zM (L.foldl zgiv c) ((L.map zmir).foldl zgiv d) ∧ zJ (L.foldl zgiv c) b
  | [], c, d, b, hM, hJ, _ => ⟨hM, hJ⟩
  | x :: L, c, d, b, hM, hJ, h => by
    have hx := h x List.mem_cons_self
    exact zfold_M L (zgiv c x) (zgiv d (zmir x)) b (zM_give hM hJ.2.2.2.2.1 hx.1 hx.2) (zJ_give hJ hx.1 hx.2) (fun y hy => h y (List.mem_cons_of_mem _ hy))
theorem zread_ok {W : zPV} {L : List (Nat × Int32)} (h : L ≠ []) (hL : zRows L) (h5 : L.length ≤ 5) (hP : zPd W (ztxt L)) : f_X5_read W.1 W.2.1 W.2.2.1 W.2.2.2.1 W.2.2.2.2.1 W.2.2.2.2.2.1 W.2.2.2.2.2.2 = (f_X1_allPegs (L.foldl zgiv W.1), L.foldl zgiv W.1, (f_X2_keep W.2.1 (W.2.2.2.2.2.1 (W.2.1.1 0).toNatClampNeg) W.1).1, f_X3_empty W.2.2.1, va_up W.2.2.2.2.2.1 (W.2.1.1 0).toNatClampNeg (f_X2_keep W.2.1 (W.2.2.2.2.2.1 (W.2.1.1 0).toNatClampNeg) W.1).2) := by
  have hl := zlen_txt L
  have e : s_X5_read_37 W.1 W.2.2.1 = L.foldl zgiv W.1 := by
    unfold s_X5_read_37 f_X3_changeRows
    rw [zfu_eq, hP.1, nI_clamp (by omega)]
    exact (zchL hP.1 hP.2 (by omega) (ztxt L) 0 0 0 0 W.1 (by simp) (by omega)).trans (zch_txt h hL W.1)
  unfold f_X5_read r_X5_read_4 r_X5_read_54
  rw [zff_txt h hL h5 hP, if_pos rfl, e]
  rfl
theorem zI_read : zA_read (zI k) := by
  intro V U L h hA hB hne h5 hL
  have hM := h.1
  have hJ := h.2.1
  obtain ⟨M2, J2⟩ := zfold_M L V.1 U.1 (200 * k) hM hJ hL
  have hL' : zRows (L.map zmir) := by
    intro x hx
    obtain ⟨y, hy, rfl⟩ := List.mem_map.mp hx
    exact ⟨(hL y hy).1, zT_in (hL y hy).2⟩
  unfold kF_read kG_read
  rw [zread_ok hne hL h5 hA, zread_ok (L := L.map zmir) (by simpa using hne) hL' (by rw [List.length_map]; exact h5) hB]
  refine ⟨(zallpegs M2 J2.2.2.2.2.1).symm, rfl, rfl, M2, J2, ⟨zkp h.2.2.1.1, ?_⟩, ⟨zkp h.2.2.2.1.1, ?_⟩, h.2.2.2.2⟩
  · show vp_in (0 : Int32) 61; exact zlit _ 61 (by decide +kernel)
  · show vp_in (0 : Int32) 61; exact zlit _ 61 (by decide +kernel)
end ZRD
