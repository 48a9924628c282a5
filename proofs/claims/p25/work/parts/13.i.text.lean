/-! Texts: signs that are appended, a text's fault, the rows that it tells. -/
section ZTX
variable {k : Nat} {V U : zPV} {c d : zCV} {b : Nat}
theorem zI_pad (h : zI k V U) {p : zCV} (hp : vp_in (p.1 0) 61) : zI k (V.1, V.2.1, p, V.2.2.2.1, V.2.2.2.2.1, V.2.2.2.2.2.1, V.2.2.2.2.2.2) U := ⟨h.1, h.2.1, ⟨h.2.2.1.1, hp⟩, h.2.2.2.1, h.2.2.2.2⟩
theorem zI_pad' (h : zI k V U) {p : zCV} (hp : vp_in (p.1 0) 61) : zI k V (U.1, U.2.1, p, U.2.2.2.1, U.2.2.2.2.1, U.2.2.2.2.2.1, U.2.2.2.2.2.2) := ⟨h.1, h.2.1, h.2.2.1, ⟨h.2.2.2.1.1, hp⟩, h.2.2.2.2⟩
theorem zwipe1 {W : zPV} (h : zH W) : ¬ kF_wipe W < (0 : Int32) ∧ zPd (kG_wipe W) [] := by
  refine ⟨?_, rfl, fun i c h => by simp at h⟩
  show ¬ W.2.2.1.1 0 < (0 : Int32)
  obtain ⟨j, hj, e⟩ := vp_in_of h.2 (by omega)
  rw [e]
  exact nI_pos (by omega)
theorem zI_wipe : zA_wipe (zI k) := by
  intro V U h
  refine ⟨⟨(zwipe1 h.2.2.1).1, zI_pad h (p := f_X3_empty V.2.2.1) ?_, (zwipe1 h.2.2.1).2⟩, ⟨(zwipe1 h.2.2.2.1).1, zI_pad' h (p := f_X3_empty U.2.2.1) ?_, (zwipe1 h.2.2.2.1).2⟩⟩
  · show vp_in (0 : Int32) 61; exact zlit _ 61 (by decide +kernel)
  · show vp_in (0 : Int32) 61; exact zlit _ 61 (by decide +kernel)
set_option maxRecDepth 100000 in
theorem zk_ch : ∀ n, n < 127 → 33 ≤ n → f_X3_charactersIn_L5 8 0 (lN n) = 1 ∧ vp_nar .char ((((((lN n).toUInt64 >>> (((8 : Int32) * (nI 0)).toInt64.toUInt64 &&& Int64.toUInt64 63)).toInt64) &&& (255 : Int64)).toInt32).toUInt32 % 65536).toInt32 = nI n := by decide +kernel
theorem zapp {v : zCV} {l n : Nat} (hl : v.1 0 = nI l) (h60 : l < 60) (h1 : 33 ≤ n) (h2 : n ≤ 126) : f_X3_charactersIn (lN n) = 1 ∧ f_X3_append v (lN n) 1 = zS (zA v 0 (upd (v.2 0) l (nI n))) 0 (nI (l + 1)) := by
  obtain ⟨a1, a2⟩ := zk_ch n (by omega) h1
  refine ⟨by unfold f_X3_charactersIn; rw [zfu_eq]; exact a1, ?_⟩
  unfold f_X3_append s_X3_append_51
  rw [zfu_eq, show (1 : Int32).toNatClampNeg = 1 from rfl]
  have e : f_X3_append_L3 (lN n) 1 1 0 v = zA v 0 (upd (v.2 0) l (nI n)) := by
    show s_X3_append_37 (lN n) 1 0 v = _
    unfold s_X3_append_37
    rw [a2, hl, show (1 : Int32) = nI 1 from rfl, nI_add, pk_sub (by omega), pk_sub (by omega), nI_clamp (by omega), show l + 1 - 1 - 0 = l by omega]
  rw [e]
  show zS (zA v 0 (upd (v.2 0) l (nI n))) 0 (v.1 0 + (1 : Int32)) = _
  rw [hl, nI_1]
theorem zput1 {W : zPV} {L : List Nat} {x : Int64} {n : Nat} (hP : zPd W L) (hL : L.length < 60) (h1 : 33 ≤ n) (h2 : n ≤ 126) (hx : x.toInt = (n : Int)) : kF_put W x = nI (L.length + 1) ∧ kG_put W x = (W.1, W.2.1, zS (zA W.2.2.1 0 (upd (W.2.2.1.2 0) L.length (nI n))) 0 (nI (L.length + 1)), W.2.2.2.1, W.2.2.2.2.1, W.2.2.2.2.2.1, W.2.2.2.2.2.2) := by
  have ex : x = lN n := Int64.toInt_inj.mp (by rw [hx, lN_toInt (by omega)])
  subst ex
  obtain ⟨e1, e2⟩ := zapp (v := W.2.2.1) hP.1 hL h1 h2
  have e3 : (W.2.2.1.1 0 + (1 : Int32)) ≤ (60 : Int32) := by
    rw [hP.1, nI_1, show (60 : Int32) = nI 60 from rfl, nI_leI (by omega) (by omega)]
    omega
  unfold kF_put kG_put f_X5_put s_X5_put_35
  rw [e1, if_neg (show ¬ (1 : Int32) = 0 by decide), if_pos e3, e2]
  exact ⟨rfl, rfl⟩
theorem zput2 {W : zPV} {L : List Nat} {x : Int64} {n : Nat} (hP : zPd W L) (hL : L.length < 60) (h1 : 33 ≤ n) (h2 : n ≤ 126) (hx : x.toInt = (n : Int)) : zPd (kG_put W x) (L ++ [n]) := by
  rw [(zput1 hP hL h1 h2 hx).2]
  refine ⟨?_, fun i c hi => ?_⟩
  · show nI (L.length + 1) = nI (L ++ [n]).length
    rw [List.length_append, List.length_singleton]
  · show upd (W.2.2.1.2 0) L.length (nI n) i = nI c
    by_cases e : i = L.length
    · subst e
      rw [zupd_eq]
      rw [List.getElem?_append_right (Nat.le_refl _), Nat.sub_self] at hi
      have : n = c := by simpa using hi
      rw [this]
    · rw [zupd_ne _ _ e]
      have hlt : i < (L ++ [n]).length := (List.getElem?_eq_some_iff.mp hi).1
      rw [List.length_append, List.length_singleton] at hlt
      rw [List.getElem?_append_left (by omega)] at hi
      exact hP.2 i c hi
theorem zI_put : zA_put (zI k) := by
  intro V U L x n h hL h1 h2 hx
  have hin : vp_in (nI (L.length + 1)) 61 := vp_in_nI (by omega) (by omega)
  refine ⟨fun hP => ?_, fun hP => ?_⟩
  · obtain ⟨e1, e2⟩ := zput1 hP hL h1 h2 hx
    refine ⟨by rw [e1]; exact nI_nle (by omega) (by omega), ?_, zput2 hP hL h1 h2 hx⟩
    rw [e2]
    exact zI_pad h hin
  · obtain ⟨e1, e2⟩ := zput1 hP hL h1 h2 hx
    refine ⟨by rw [e1]; exact nI_nle (by omega) (by omega), ?_, zput2 hP hL h1 h2 hx⟩
    rw [e2]
    exact zI_pad' h hin
-- a text read from left to right
def zrd (due : Int32) : List Nat → Int32
  | [] => due
  | c :: L => if f_X3_dueBehind due (nI c) = (-1 : Int32) then (-1 : Int32) else zrd (f_X3_dueBehind due (nI c)) L
theorem zrd_app : ∀ (A B : List Nat) (due : Int32), ¬ zrd due A = (-1 : Int32) → zrd due (A ++ B) = zrd (zrd due A) B
  | [], B, due, _ => rfl
  | c :: A, B, due, h => by
    unfold zrd at h
    show (if f_X3_dueBehind due (nI c) = (-1 : Int32) then (-1 : Int32) else zrd (f_X3_dueBehind due (nI c)) (A ++ B)) = zrd (if f_X3_dueBehind due (nI c) = (-1 : Int32) then (-1 : Int32) else zrd (f_X3_dueBehind due (nI c)) A) B
    by_cases q : f_X3_dueBehind due (nI c) = (-1 : Int32)
    · rw [if_pos q] at h; exact absurd rfl h
    · rw [if_neg q] at h
      rw [if_neg q, if_neg q]; exact zrd_app A B _ h
theorem zff {v : zCV} {A : List Nat} (hA : ∀ i c, A[i]? = some c → v.2 0 i = nI c) (h60 : A.length < 100) : ∀ (B : List Nat) (i : Nat) (due : Int32), A.drop i = B → i + B.length = A.length → ¬ zrd due B < (3 : Int32) → f_X3_firstFault_L4 v B.length i due = (-6 : Int32)
  | [], i, due, _, _, h => by
    show (if due < (3 : Int32) then _ else _) = _
    rw [if_neg (show ¬ due < (3 : Int32) from h)]
  | c :: B, i, due, hd, hi, h => by
    have hc : A[i]? = some c := by
      have := congrArg (fun l => l[0]?) hd
      simpa using this
    rw [List.length_cons] at hi
    have e : v.2 0 (nI i).toNatClampNeg = nI c := by rw [nI_clamp (by omega)]; exact hA i c hc
    show (if f_X3_dueBehind due (v.2 0 (nI i).toNatClampNeg) = (-1 : Int32) then nI i else f_X3_firstFault_L4 v B.length (i + 1) (f_X3_dueBehind due (v.2 0 (nI i).toNatClampNeg))) = _
    unfold zrd at h
    rw [e]
    by_cases q : f_X3_dueBehind due (nI c) = (-1 : Int32)
    · rw [if_pos q] at h; exact absurd (by decide) h
    · rw [if_neg q] at h
      rw [if_neg q]
      refine zff hA h60 B (i + 1) _ ?_ (by omega) h
      rw [← List.drop_drop, hd]
      rfl
/-- what has been read is a row -/
def zdu (x : Int32) : Prop := ∃ j, 3 ≤ j ∧ j ≤ 9 ∧ x = nI j
set_option maxRecDepth 100000 in
theorem zk_row : ∀ r, r < 16 → ∀ j, j < 64 → (decide (¬ zrd 0 (zrowT r (nI j)) < 3) && decide (zrd 0 (zrowT r (nI j)) < 10)) = true := by decide +kernel
theorem zk_semi : ∀ j, j < 10 → 3 ≤ j → zrd (nI j) [59] = 0 := by decide +kernel
theorem zdu_row {r : Nat} (hr : r < 16) {s : Int32} (hs : vp_in s 64) : zdu (zrd 0 (zrowT r s)) := by
  obtain ⟨j, hj, rfl⟩ := zof64 hs
  have h := zk_row r hr j hj
  rw [Bool.and_eq_true, decide_eq_true_iff, decide_eq_true_iff] at h
  generalize zrd 0 (zrowT r (nI j)) = x at h ⊢
  obtain ⟨h1, h2⟩ := h
  rw [zlt_lit (a := 3) (by decide)] at h1
  rw [zlt_lit (a := 10) (by decide)] at h2
  obtain ⟨i, hi, rfl⟩ := vp_in_of (x := x) (n := 10) (vp_in_iff.mpr (by omega)) (by omega)
  rw [nI_toInt (by omega)] at h1
  exact ⟨i, by omega, by omega, rfl⟩
theorem zdu_ne {x : Int32} (h : zdu x) : ¬ x = (-1 : Int32) ∧ ¬ x < (3 : Int32) := by
  obtain ⟨j, h1, h2, rfl⟩ := h
  refine ⟨fun e => ?_, nI_nlt (b := 3) (by omega) (by omega)⟩
  have := congrArg Int32.toInt e
  rw [nI_toInt (by omega), show (-1 : Int32).toInt = -1 by decide] at this
  omega
-- the text from its first row
def ztl : List (Nat × Int32) → List Nat
  | [] => []
  | x :: L => 59 :: (zrowT x.1 x.2 ++ ztl L)
theorem zfl : ∀ (L : List (Nat × Int32)) (acc : List Nat), acc ≠ [] → L.foldl (fun acc x => zsepp acc ++ zrowT x.1 x.2) acc = acc ++ ztl L
  | [], acc, _ => by rw [List.foldl_nil, ztl, List.append_nil]
  | x :: L, acc, h => by
    have e : zsepp acc = acc ++ [59] := by unfold zsepp; rw [if_neg h]
    rw [List.foldl_cons, zfl L _ (zrowT_ne _ _ _), e]
    simp [ztl, List.append_assoc]
theorem ztxt_cons (x : Nat × Int32) (L : List (Nat × Int32)) : ztxt (x :: L) = zrowT x.1 x.2 ++ ztl L := by
  unfold ztxt
  rw [List.foldl_cons, zfl L _ (zrowT_ne _ _ _)]
  rfl
theorem zdu_tl : ∀ (L : List (Nat × Int32)) (due : Int32), zRows L → zdu due → zdu (zrd due (ztl L))
  | [], due, _, h => h
  | x :: L, due, hL, h => by
    obtain ⟨j, h1, h2, rfl⟩ := h
    have hx := hL x List.mem_cons_self
    have e : ztl (x :: L) = [59] ++ (zrowT x.1 x.2 ++ ztl L) := rfl
    have e1 : zrd (nI j) [59] = 0 := zk_semi j (by omega) h1
    rw [e, zrd_app _ _ _ (by rw [e1]; decide), e1]
    have h3 := zdu_row hx.1 hx.2
    rw [zrd_app _ _ _ (zdu_ne h3).1]
    exact zdu_tl L _ (fun y hy => hL y (List.mem_cons_of_mem _ hy)) h3
theorem zdu_txt {L : List (Nat × Int32)} (h : L ≠ []) (hL : zRows L) : zdu (zrd 0 (ztxt L)) := by
  match L, h with
  | x :: L, _ =>
    have hx := hL x List.mem_cons_self
    have h3 := zdu_row hx.1 hx.2
    rw [ztxt_cons, zrd_app _ _ _ (zdu_ne h3).1]
    exact zdu_tl L _ (fun y hy => hL y (List.mem_cons_of_mem _ hy)) h3
theorem zff_txt {W : zPV} {L : List (Nat × Int32)} (h : L ≠ []) (hL : zRows L) (h5 : L.length ≤ 5) (hP : zPd W (ztxt L)) : f_X3_firstFault W.2.2.1 = (-6 : Int32) := by
  have hl := zlen_txt L
  unfold f_X3_firstFault
  rw [zfu_eq, hP.1, nI_clamp (by omega)]
  exact zff (A := ztxt L) hP.2 (by omega) (ztxt L) 0 0 (by simp) (by omega) (zdu_ne (zdu_txt h hL)).2
end ZTX
