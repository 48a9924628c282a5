abbrev rm_L_isRead : Room := { frames := 5, cells := 0, slots := 0, locals := 105 }
/-! Texts that are told sign by sign. -/
theorem zdg_len (s : Int32) : ∀ k, (zdg s k).length ≤ k
  | 0 => Nat.le_refl _
  | k + 1 => by
    have := zdg_len s k
    unfold zdg
    rw [List.length_append]
    split
    · simp; omega
    · simp; omega
theorem znum_len (r : Nat) : (znum r).length ≤ 2 := by
  unfold znum
  rw [List.length_append]
  split <;> simp
theorem zsepp_len (L : List Nat) : (zsepp L).length ≤ L.length + 1 := by
  unfold zsepp
  split
  · simp
  · simp
theorem ztxt_snoc (L : List (Nat × Int32)) (x : Nat × Int32) : ztxt (L ++ [x]) = zsepp (ztxt L) ++ zrowT x.1 x.2 := by
  unfold ztxt
  rw [List.foldl_append]
  rfl
theorem zrowT_len (r : Nat) (s : Int32) : (zrowT r s).length ≤ 9 := by
  unfold zrowT
  have h1 := znum_len r
  have h2 := zdg_len s 6
  simp only [List.length_append, List.length_singleton]
  omega
theorem zlen_foldl : ∀ (L : List (Nat × Int32)) (acc : List Nat), (L.foldl (fun acc x => zsepp acc ++ zrowT x.1 x.2) acc).length ≤ acc.length + 10 * L.length
  | [], acc => by simp
  | x :: L, acc => by
    have h := zlen_foldl L (zsepp acc ++ zrowT x.1 x.2)
    have h1 := zsepp_len acc
    have h2 := zrowT_len x.1 x.2
    rw [List.foldl_cons]
    rw [List.length_append] at h
    rw [List.length_cons]
    omega
theorem zlen_txt (L : List (Nat × Int32)) : (ztxt L).length ≤ 10 * L.length := by
  have := zlen_foldl L []
  rw [List.length_nil, Nat.zero_add] at this
  exact this
theorem zln_t (L : List (Nat × Int32)) (j : Nat) {i : Nat} (h : L.length = i) (hi : i < 5) : (ztxt L).length < 60 := by
  have := zlen_txt L
  omega
theorem zln_s0 (L : List (Nat × Int32)) {i : Nat} (h : L.length = i) (hi : i < 5) : (zsepp (ztxt L)).length ≤ 41 := by
  have := zlen_txt L
  have := zsepp_len (ztxt L)
  omega
theorem zln_s (L : List (Nat × Int32)) (j : Nat) {i : Nat} (h : L.length = i) (hi : i < 5) : (zsepp (ztxt L)).length < 60 := by
  have := zln_s0 L h hi
  omega
theorem zln_i0 (L : List (Nat × Int32)) (j : Nat) {i : Nat} (h : L.length = i) (hi : i < 5) : (zsepp (ztxt L) ++ (if j < 10 then ([] : List Nat) else [49])).length ≤ 42 := by
  have := zln_s0 L h hi
  rw [List.length_append]
  split <;> simp <;> omega
theorem zln_i (L : List (Nat × Int32)) (j : Nat) {i : Nat} (h : L.length = i) (hi : i < 5) : (zsepp (ztxt L) ++ (if j < 10 then ([] : List Nat) else [49])).length < 60 := by
  have := zln_i0 L j h hi
  omega
theorem zln_d (L : List (Nat × Int32)) (j : Nat) {i : Nat} (h : L.length = i) (hi : i < 5) : ((zsepp (ztxt L) ++ (if j < 10 then ([] : List Nat) else [49])) ++ [48 + j % 10]).length < 60 := by
  have := zln_i0 L j h hi
  rw [List.length_append, List.length_singleton]
  omega
theorem zln_p (L : List (Nat × Int32)) (j : Nat) {i : Nat} (h : L.length = i) (hi : i < 5) (s : Int32) {k : Nat} (hk : k < 6) : ((((zsepp (ztxt L) ++ (if j < 10 then ([] : List Nat) else [49])) ++ [48 + j % 10]) ++ [58]) ++ zdg s k).length < 60 := by
  have h1 := zln_i0 L j h hi
  have h2 := zdg_len s k
  rw [List.length_append, List.length_append, List.length_append, List.length_singleton, List.length_singleton]
  omega
set_option maxRecDepth 20000 in
theorem zdig_all : ∀ j, j < 16 → (((48 : Int32) + ((nI j) - (((nI j) / (10 : Int32)) * (10 : Int32)))).toInt64).toInt = ((48 + j % 10 : Nat) : Int) := by decide +kernel
theorem zdig_nI {j : Nat} (h : j < 16) : (((48 : Int32) + ((nI j) - (((nI j) / (10 : Int32)) * (10 : Int32)))).toInt64).toInt = ((48 + j % 10 : Nat) : Int) := zdig_all j h
theorem zpl_nI {i : Nat} (h : i < 6) : (((48 : Int32) + (nI i)).toInt64).toInt = ((48 + i : Nat) : Int) := by
  rw [show (48 : Int32) = nI 48 from rfl, nI_add, Int32.toInt_toInt64, nI_toInt (by omega)]
theorem ztxt_nil {L : List (Nat × Int32)} (h : L.length = 0) : zsepp (ztxt L) = ztxt L := by
  rw [List.eq_nil_of_length_eq_zero h]
  rfl
theorem zrowT_ne (r : Nat) (s : Int32) (A : List Nat) : A ++ zrowT r s ≠ [] := by
  unfold zrowT
  intro h
  have := congrArg List.length h
  simp at this
theorem ztxt_ne {L : List (Nat × Int32)} (h : ¬ L.length = 0) : zsepp (ztxt L) = ztxt L ++ [59] := by
  have hne : ztxt L ≠ [] := by
    rcases List.eq_nil_or_concat L with e | ⟨K, x, e⟩
    · exact absurd (by rw [e]; rfl) h
    · rw [e, List.concat_eq_append, ztxt_snoc]
      exact zrowT_ne _ _ _
  unfold zsepp
  rw [if_neg hne]
theorem zsep0 {L : List (Nat × Int32)} {V : zPV} (h : L.length = 0) (hA : zPd V (ztxt L)) : zPd V (zsepp (ztxt L)) := by rw [ztxt_nil h]; exact hA
theorem zsep1 {L : List (Nat × Int32)} {V : zPV} (h : ¬ L.length = 0) (hA : zPd V (ztxt L ++ [59])) : zPd V (zsepp (ztxt L)) := by rw [ztxt_ne h]; exact hA
theorem zdg_0 {V : zPV} {A : List Nat} {s : Int32} (h : zPd V A) : zPd V (A ++ zdg s 0) := by
  show zPd V (A ++ [])
  rw [List.append_nil]
  exact h
theorem zdg_z {V : zPV} {A : List Nat} {s : Int32} {k : Nat} (c : (s >>> ((nI k) &&& 31)) &&& (1 : Int32) = (0 : Int32)) (h : zPd V (A ++ zdg s k)) : zPd V (A ++ zdg s (k + 1)) := by
  have e : zdg s (k + 1) = zdg s k := by
    rw [zdg, if_pos (show zbt s k = (0 : Int32) from c), List.append_nil]
  rw [e]
  exact h
theorem zdg_n {V : zPV} {A : List Nat} {s : Int32} {k : Nat} (c : ¬ (s >>> ((nI k) &&& 31)) &&& (1 : Int32) = (0 : Int32)) (h : zPd V ((A ++ zdg s k) ++ [48 + k])) : zPd V (A ++ zdg s (k + 1)) := by
  have e : zdg s (k + 1) = zdg s k ++ [48 + k] := by
    rw [zdg, if_neg (show ¬ zbt s k = (0 : Int32) from c)]
  rw [e, ← List.append_assoc]
  exact h
theorem zRows_app {L : List (Nat × Int32)} {j : Nat} {s : Int32} (h : zRows L) (hj : j < 16) (hs : vp_in s 64) : zRows (L ++ [(j, s)]) := by
  intro x hx
  rcases List.mem_append.mp hx with q | q
  · exact h x q
  · rw [List.mem_singleton.mp q]
    exact ⟨hj, hs⟩
theorem ztxt_eq (L : List (Nat × Int32)) (j : Nat) (s : Int32) : (((zsepp (ztxt L) ++ (if j < 10 then ([] : List Nat) else [49])) ++ [48 + j % 10]) ++ [58]) ++ zdg s 6 = ztxt (L ++ [(j, s)]) := by
  rw [ztxt_snoc]
  unfold zrowT znum
  simp only [List.append_assoc]
theorem ztxt_app {V : zPV} {L : List (Nat × Int32)} {j : Nat} {s : Int32} (h : zPd V ((((zsepp (ztxt L) ++ (if j < 10 then ([] : List Nat) else [49])) ++ [48 + j % 10]) ++ [58]) ++ zdg s 6)) : zPd V (ztxt (L ++ [(j, s)])) := by rw [← ztxt_eq]; exact h
theorem ztxt_map {V : zPV} {L : List (Nat × Int32)} {j : Nat} {s : Int32} (h : zPd V ((((zsepp (ztxt (L.map zmir)) ++ (if j < 10 then ([] : List Nat) else [49])) ++ [48 + j % 10]) ++ [58]) ++ zdg (f_L_turned s) 6)) : zPd V (ztxt ((L ++ [(j, s)]).map zmir)) := by
  rw [List.map_append]
  show zPd V (ztxt (L.map zmir ++ [(j, f_L_turned s)]))
  rw [← ztxt_eq]
  exact h
set_option maxRecDepth 100000 in
set_option maxHeartbeats 8000000 in
theorem m_L_isRead (l : Launch) (g : zG) {I I2 : zRel2} {J : zRel3} (hR : zS2 I I2 J) (a b : Nat) (q r : zAd) (V U : zPV) (hI : I V U) (p0 p1 : Int32) : ZE l yL_isRead wsL_isRead rm_L_isRead g (zW g a q V ++ zW g b r U) [.ref a, .ref b, .int p0, .int p1] (fun rv (u : zPV × zPV) => rv = 1 ∧ I u.1 u.2) (fun u => zW g a q u.1 ++ zW g b r u.2) := by
  refine zopenE (cc := cL_isRead) (maxL := 11) (ret := .boolean) (by decide +kernel) rfl (Nat.le_of_ble_eq_true rfl) ?_
  intro p e s m below meth c A Q ls hx hb hml hown hts hP hK hD hA hN hGS hl hret
  have hS : va_S A s.heap s.heap [] := va_S.rf
  have hl : lv_has ls 11 [(0, .ref a), (1, .ref b), (2, .int p0), (3, .int p1)] := hl
  have hown : s.vm.findClass RL = some m.cls := hown
  have okO := (hR.ok _ _ hI).1
  have okP := (hR.ok _ _ hI).2
  refine lv_aload_n hx hb dL_isRead_0 rfl (lv_at hl 0 rfl) ?_
  refine zcO (n := 0) (As := []) (rest := []) (Y := zW g b r U) hx hb hml hown hts hN (kM_wipe l g a q V) gL_isRead_X5_wipe rfl (by decide +kernel) ⟨rfl, rfl⟩ ⟨Nat.le_of_ble_eq_true rfl, Nat.le_of_ble_eq_true rfl⟩ hK hP hD hS hA rfl hl.1 rfl (Nat.le_of_ble_eq_true rfl) dL_isRead_1 ⟨Nat.le_of_ble_eq_true rfl, Nat.le_of_ble_eq_true rfl⟩ (fun H locs hP hD hS => ?_)
  obtain ⟨f1, hI, pA1⟩ := (hR.wipe V U hI).1
  have okO := (hR.ok _ _ hI).1
  have okP := (hR.ok _ _ hI).2
  refine lv_if_lt (tgt := 18) hx hb dL_isRead_4 (by decide) (fun c_4 => absurd c_4 f1) (fun _ => ?_)
  refine lv_aload_n hx hb dL_isRead_7 rfl (lv_at hl 1 rfl) ?_
  refine zcT (n := 0) (As := []) (rest := []) (Y := zW g a q (kG_wipe V)) hx hb hml hown hts hN (kM_wipe l g b r U) gL_isRead_X5_wipe rfl (by decide +kernel) ⟨rfl, rfl⟩ ⟨Nat.le_of_ble_eq_true rfl, Nat.le_of_ble_eq_true rfl⟩ hK hP hD hS hA rfl hl.1 rfl (Nat.le_of_ble_eq_true rfl) dL_isRead_8 ⟨Nat.le_of_ble_eq_true rfl, Nat.le_of_ble_eq_true rfl⟩ (fun H locs hP hD hS => ?_)
  obtain ⟨f2, hI, pB1⟩ := (hR.wipe _ U hI).2
  have okO := (hR.ok _ _ hI).1
  have okP := (hR.ok _ _ hI).2
  refine lv_if_lt (tgt := 18) hx hb dL_isRead_11 (by decide) (fun c_11 => absurd c_11 f2) (fun _ => ?_)
  refine lv_iconst (v := (1 : Int32)) hx hb dL_isRead_14 (by decide) ?_
  refine lv_goto (tgt := 19) hx hb dL_isRead_15 (by decide) ?_
  refine lv_istore (lv' := [(4, .int (1 : Int32)), (0, .ref a), (1, .ref b), (2, .int p0), (3, .int p1)]) hx hb dL_isRead_19 hl (by decide) rfl (fun ls hl => ?_)
  refine lv_iconst (v := (1 : Int32)) hx hb dL_isRead_21 (by decide) ?_
  refine lv_iload_n hx hb dL_isRead_22 rfl (lv_at hl 3 rfl) ?_
  refine lv_iconst (v := (5 : Int32)) hx hb dL_isRead_23 (by decide) ?_
  refine zcSi (n := 2) (As := [.int p0, .int (5 : Int32)]) (rest := [.int (1 : Int32)]) hx hb hml hown hts hN (m_L_up l g p0 (5 : Int32) (by decide)) gL_isRead_L_up rfl (by decide +kernel) ⟨rfl, rfl⟩ ⟨Nat.le_of_ble_eq_true rfl, Nat.le_of_ble_eq_true rfl⟩ hK hP hD hS hA rfl hl.1 rfl (Nat.le_of_ble_eq_true rfl) dL_isRead_24 ⟨Nat.zero_le _, Nat.zero_le _⟩ (fun H locs hP hD hS => ?_)
  refine lv_iadd hx hb dL_isRead_27 ?_
  refine lv_istore (lv' := [(5, .int ((1 : Int32) + (f_L_up p0 (5 : Int32)))), (4, .int (1 : Int32)), (0, .ref a), (1, .ref b), (2, .int p0), (3, .int p1)]) hx hb dL_isRead_28 hl (by decide) rfl (fun ls hl => ?_)
  obtain ⟨N, hN1, hN5, eN⟩ := zup1 p0 (5 : Int32) (n := 5) rfl (by omega) (by omega)
  rw [eN] at hl
  refine lv_iconst (v := (0 : Int32)) hx hb dL_isRead_30 (by decide) ?_
  refine lv_istore (lv' := [(6, .int (0 : Int32)), (5, .int (nI N)), (4, .int (1 : Int32)), (0, .ref a), (1, .ref b), (2, .int p0), (3, .int p1)]) hx hb dL_isRead_31 hl (by decide) rfl (fun ls hl => ?_)
  have L33 : ∀ (n33 i33 : Nat), i33 + n33 = N → ∀ (Lr : List (Nat × Int32)) (V U : zPV) (H : Heap) (locs : List Loc) (ls : Array Slot), I V U → Lr.length = i33 → zRows Lr → zPd V (ztxt Lr) → zPd U (ztxt (Lr.map zmir)) → va_P g.1 vwCl (zW g a q V ++ zW g b r U) H → va_D A (zW g a q V ++ zW g b r U) → va_S A s.heap H locs → lv_has ls 11 [(6, .int (nI i33)), (5, .int (nI N)), (4, .int (1 : Int32)), (0, .ref a), (1, .ref b), (2, .int p0), (3, .int p1)] → (∀ (Lr : List (Nat × Int32)) (V U : zPV) (H : Heap) (locs : List Loc) (ls : Array Slot), I V U → Lr.length = N → zRows Lr → zPd V (ztxt Lr) → zPd U (ztxt (Lr.map zmir)) → va_P g.1 vwCl (zW g a q V ++ zW g b r U) H → va_D A (zW g a q V ++ zW g b r U) → va_S A s.heap H locs → lv_has ls 11 [(6, .int (nI N)), (5, .int (nI N)), (4, .int (1 : Int32)), (0, .ref a), (1, .ref b), (2, .int p0), (3, .int p1)] → W p l e rm_L_isRead s m ([.ref a, .ref b, .int p0, .int p1] : List Value).toArray below meth c H locs 0 0 Q (F0 m 288 ls [])) → W p l e rm_L_isRead s m ([.ref a, .ref b, .int p0, .int p1] : List Value).toArray below meth c H locs 0 0 Q (F0 m 33 ls []) := by
    intro n33
    induction n33 with
    | zero =>
      intro i33 hi33 Lr V U H locs ls hI hLn hLr pA pB hP hD hS hl kx33
      refine lv_iload hx hb dL_isRead_33 (lv_at hl 0 rfl) ?_
      refine lv_iload hx hb dL_isRead_35 (lv_at hl 1 rfl) ?_
      refine lv_icmp_ge (tgt := 288) hx hb dL_isRead_37 (by decide) (fun _ => ?_) (fun c_37 => absurd ((nI_leI (a := N) (b := i33) (by omega) (by omega)).mpr (by omega)) c_37)
      have e33 : i33 = N := by omega
      subst e33
      exact kx33 Lr V U _ _ _ hI hLn hLr pA pB hP hD hS (lv_sub hl [0, 1, 2, 3, 4, 5, 6] rfl)
    | succ n33 ih33 =>
      intro i33 hi33 Lr V U H locs ls hI hLn hLr pA pB hP hD hS hl kx33
      have okO := (hR.ok _ _ hI).1
      have okP := (hR.ok _ _ hI).2
      have hLm : (Lr.map zmir).length = i33 := by rw [List.length_map]; exact hLn
      refine lv_iload hx hb dL_isRead_33 (lv_at hl 0 rfl) ?_
      refine lv_iload hx hb dL_isRead_35 (lv_at hl 1 rfl) ?_
      refine lv_icmp_ge (tgt := 288) hx hb dL_isRead_37 (by decide) (fun c_37 => absurd c_37 (fun h => absurd ((nI_leI (a := N) (b := i33) (by omega) (by omega)).mp h) (by omega))) (fun _ => ?_)
      refine lv_iload_n hx hb dL_isRead_40 rfl (lv_at hl 5 rfl) ?_
      refine lv_iconst (v := (2 : Int32)) hx hb dL_isRead_41 (by decide) ?_
      refine lv_iload hx hb dL_isRead_42 (lv_at hl 0 rfl) ?_
      refine lv_imul hx hb dL_isRead_44 ?_
      refine lv_ishr hx hb dL_isRead_45 ?_
      refine lv_iload_n hx hb dL_isRead_46 rfl (lv_at hl 6 rfl) ?_
      refine lv_iload hx hb dL_isRead_47 (lv_at hl 0 rfl) ?_
      refine lv_ishr hx hb dL_isRead_49 ?_
      refine lv_ixor hx hb dL_isRead_50 ?_
      refine lv_istore (lv' := [(7, .int ((p0 >>> (((2 : Int32) * (nI i33)) &&& 31)) ^^^ (p1 >>> ((nI i33) &&& 31)))), (6, .int (nI i33)), (5, .int (nI N)), (4, .int (1 : Int32)), (0, .ref a), (1, .ref b), (2, .int p0), (3, .int p1)]) hx hb dL_isRead_51 hl (by decide) rfl (fun ls hl => ?_)
      obtain ⟨z7, e7⟩ : ∃ y, ((p0 >>> (((2 : Int32) * (nI i33)) &&& 31)) ^^^ (p1 >>> ((nI i33) &&& 31))) = y := ⟨_, rfl⟩
      rw [e7] at hl
      refine lv_iload hx hb dL_isRead_53 (lv_at hl 0 rfl) ?_
      refine lv_bipush (v := (16 : Int32)) hx hb dL_isRead_55 (by decide) ?_
      refine zcSi (n := 2) (As := [.int z7, .int (16 : Int32)]) (rest := []) hx hb hml hown hts hN (m_L_up l g z7 (16 : Int32) (by decide)) gL_isRead_L_up rfl (by decide +kernel) ⟨rfl, rfl⟩ ⟨Nat.le_of_ble_eq_true rfl, Nat.le_of_ble_eq_true rfl⟩ hK hP hD hS hA rfl hl.1 rfl (Nat.le_of_ble_eq_true rfl) dL_isRead_57 ⟨Nat.zero_le _, Nat.zero_le _⟩ (fun H locs hP hD hS => ?_)
      refine lv_istore (lv' := [(8, .int (f_L_up z7 (16 : Int32))), (7, .int z7), (6, .int (nI i33)), (5, .int (nI N)), (4, .int (1 : Int32)), (0, .ref a), (1, .ref b), (2, .int p0), (3, .int p1)]) hx hb dL_isRead_60 hl (by decide) rfl (fun ls hl => ?_)
      obtain ⟨jr, hjr, ejr⟩ := zup_nI z7 (16 : Int32) (n := 16) rfl (by omega) (by omega)
      rw [ejr] at hl
      have K89 : ∀ (x9 : Int32) (H : Heap) (locs : List Loc) (ls : Array Slot), vp_in x9 64 → va_P g.1 vwCl (zW g a q V ++ zW g b r U) H → va_D A (zW g a q V ++ zW g b r U) → va_S A s.heap H locs → lv_has ls 11 [(9, .int x9), (8, .int (nI jr)), (7, .int z7), (6, .int (nI i33)), (5, .int (nI N)), (4, .int (1 : Int32)), (0, .ref a), (1, .ref b), (2, .int p0), (3, .int p1)] → W p l e rm_L_isRead s m ([.ref a, .ref b, .int p0, .int p1] : List Value).toArray below meth c H locs 0 0 Q (F0 m 89 ls []) := by
        intro x9 H locs ls hx9 hP hD hS hl
        refine lv_iload hx hb dL_isRead_89 (lv_at hl 5 rfl) ?_
        refine lv_if_eq (tgt := 202) hx hb dL_isRead_91 (by decide) (fun c_91 => absurd c_91 (by decide)) (fun _ => ?_)
        have K119 : ∀ (V U : zPV) (H : Heap) (locs : List Loc) (ls : Array Slot), I V U → zPd V (zsepp (ztxt Lr)) → zPd U (zsepp (ztxt (Lr.map zmir))) → va_P g.1 vwCl (zW g a q V ++ zW g b r U) H → va_D A (zW g a q V ++ zW g b r U) → va_S A s.heap H locs → lv_has ls 11 [(9, .int x9), (8, .int (nI jr)), (7, .int z7), (6, .int (nI i33)), (5, .int (nI N)), (4, .int (1 : Int32)), (0, .ref a), (1, .ref b), (2, .int p0), (3, .int p1)] → W p l e rm_L_isRead s m ([.ref a, .ref b, .int p0, .int p1] : List Value).toArray below meth c H locs 0 0 Q (F0 m 119 ls []) := by
          intro V U H locs ls hI pA pB hP hD hS hl
          have okO := (hR.ok _ _ hI).1
          have okP := (hR.ok _ _ hI).2
          have K146 : ∀ (V U : zPV) (H : Heap) (locs : List Loc) (ls : Array Slot), I V U → zPd V ((zsepp (ztxt Lr)) ++ (if jr < 10 then ([] : List Nat) else [49])) → zPd U ((zsepp (ztxt (Lr.map zmir))) ++ (if jr < 10 then ([] : List Nat) else [49])) → va_P g.1 vwCl (zW g a q V ++ zW g b r U) H → va_D A (zW g a q V ++ zW g b r U) → va_S A s.heap H locs → lv_has ls 11 [(9, .int x9), (8, .int (nI jr)), (7, .int z7), (6, .int (nI i33)), (5, .int (nI N)), (4, .int (1 : Int32)), (0, .ref a), (1, .ref b), (2, .int p0), (3, .int p1)] → W p l e rm_L_isRead s m ([.ref a, .ref b, .int p0, .int p1] : List Value).toArray below meth c H locs 0 0 Q (F0 m 146 ls []) := by
            intro V U H locs ls hI pA pB hP hD hS hl
            have okO := (hR.ok _ _ hI).1
            have okP := (hR.ok _ _ hI).2
            refine lv_aload_n hx hb dL_isRead_146 rfl (lv_at hl 6 rfl) ?_
            refine lv_bipush (v := (48 : Int32)) hx hb dL_isRead_147 (by decide) ?_
            refine lv_iload hx hb dL_isRead_149 (lv_at hl 1 rfl) ?_
            refine lv_bipush (v := (10 : Int32)) hx hb dL_isRead_151 (by decide) ?_
            refine lv_irem hx hb dL_isRead_153 (by decide) ?_
            refine lv_iadd hx hb dL_isRead_154 ?_
            refine lv_i2l hx hb dL_isRead_155 rfl ?_
            refine zcO (n := 1) (As := [.long (((48 : Int32) + ((nI jr) - (((nI jr) / (10 : Int32)) * (10 : Int32)))).toInt64)]) (rest := []) (Y := zW g b r U) hx hb hml hown hts hN (kM_put l g a q V (((48 : Int32) + ((nI jr) - (((nI jr) / (10 : Int32)) * (10 : Int32)))).toInt64) okO) gL_isRead_X5_put rfl (by decide +kernel) ⟨rfl, rfl⟩ ⟨Nat.le_of_ble_eq_true rfl, Nat.le_of_ble_eq_true rfl⟩ hK hP hD hS hA rfl hl.1 rfl (Nat.le_of_ble_eq_true rfl) dL_isRead_156 ⟨Nat.le_of_ble_eq_true rfl, Nat.le_of_ble_eq_true rfl⟩ (fun H locs hP hD hS => ?_)
            obtain ⟨f0, hI, pA⟩ := (hR.put _ _ _ (((48 : Int32) + ((nI jr) - (((nI jr) / (10 : Int32)) * (10 : Int32)))).toInt64) (48 + jr % 10) hI (zln_i Lr jr hLn (by omega)) (by omega) (by omega) (zdig_nI hjr)).1 pA
            have okO := (hR.ok _ _ hI).1
            have okP := (hR.ok _ _ hI).2
            refine lv_if_le (tgt := 202) hx hb dL_isRead_159 (by decide) (fun c_159 => absurd c_159 f0) (fun _ => ?_)
            refine lv_aload_n hx hb dL_isRead_162 rfl (lv_at hl 7 rfl) ?_
            refine lv_bipush (v := (48 : Int32)) hx hb dL_isRead_163 (by decide) ?_
            refine lv_iload hx hb dL_isRead_165 (lv_at hl 1 rfl) ?_
            refine lv_bipush (v := (10 : Int32)) hx hb dL_isRead_167 (by decide) ?_
            refine lv_irem hx hb dL_isRead_169 (by decide) ?_
            refine lv_iadd hx hb dL_isRead_170 ?_
            refine lv_i2l hx hb dL_isRead_171 rfl ?_
            refine zcT (n := 1) (As := [.long (((48 : Int32) + ((nI jr) - (((nI jr) / (10 : Int32)) * (10 : Int32)))).toInt64)]) (rest := []) (Y := zW g a q (kG_put V (((48 : Int32) + ((nI jr) - (((nI jr) / (10 : Int32)) * (10 : Int32)))).toInt64))) hx hb hml hown hts hN (kM_put l g b r U (((48 : Int32) + ((nI jr) - (((nI jr) / (10 : Int32)) * (10 : Int32)))).toInt64) okP) gL_isRead_X5_put rfl (by decide +kernel) ⟨rfl, rfl⟩ ⟨Nat.le_of_ble_eq_true rfl, Nat.le_of_ble_eq_true rfl⟩ hK hP hD hS hA rfl hl.1 rfl (Nat.le_of_ble_eq_true rfl) dL_isRead_172 ⟨Nat.le_of_ble_eq_true rfl, Nat.le_of_ble_eq_true rfl⟩ (fun H locs hP hD hS => ?_)
            obtain ⟨f0, hI, pB⟩ := (hR.put _ _ _ (((48 : Int32) + ((nI jr) - (((nI jr) / (10 : Int32)) * (10 : Int32)))).toInt64) (48 + jr % 10) hI (zln_i (Lr.map zmir) jr hLm (by omega)) (by omega) (by omega) (zdig_nI hjr)).2 pB
            have okO := (hR.ok _ _ hI).1
            have okP := (hR.ok _ _ hI).2
            refine lv_if_le (tgt := 202) hx hb dL_isRead_175 (by decide) (fun c_175 => absurd c_175 f0) (fun _ => ?_)
            refine lv_aload_n hx hb dL_isRead_178 rfl (lv_at hl 6 rfl) ?_
            refine lv_ldc2 (v := (58 : Int64)) hx hb hown (hts (.constantLong RL 29 (58)) (by decide +kernel)) dL_isRead_179 ?_
            refine zcO (n := 1) (As := [.long (58 : Int64)]) (rest := []) (Y := zW g b r (kG_put U (((48 : Int32) + ((nI jr) - (((nI jr) / (10 : Int32)) * (10 : Int32)))).toInt64))) hx hb hml hown hts hN (kM_put l g a q (kG_put V (((48 : Int32) + ((nI jr) - (((nI jr) / (10 : Int32)) * (10 : Int32)))).toInt64)) (58 : Int64) okO) gL_isRead_X5_put rfl (by decide +kernel) ⟨rfl, rfl⟩ ⟨Nat.le_of_ble_eq_true rfl, Nat.le_of_ble_eq_true rfl⟩ hK hP hD hS hA rfl hl.1 rfl (Nat.le_of_ble_eq_true rfl) dL_isRead_182 ⟨Nat.le_of_ble_eq_true rfl, Nat.le_of_ble_eq_true rfl⟩ (fun H locs hP hD hS => ?_)
            obtain ⟨f0, hI, pA⟩ := (hR.put _ _ _ (58 : Int64) (58) hI (zln_d Lr jr hLn (by omega)) (by omega) (by omega) (by decide)).1 pA
            have okO := (hR.ok _ _ hI).1
            have okP := (hR.ok _ _ hI).2
            refine lv_if_le (tgt := 202) hx hb dL_isRead_185 (by decide) (fun c_185 => absurd c_185 f0) (fun _ => ?_)
            refine lv_aload_n hx hb dL_isRead_188 rfl (lv_at hl 7 rfl) ?_
            refine lv_ldc2 (v := (58 : Int64)) hx hb hown (hts (.constantLong RL 29 (58)) (by decide +kernel)) dL_isRead_189 ?_
            refine zcT (n := 1) (As := [.long (58 : Int64)]) (rest := []) (Y := zW g a q (kG_put (kG_put V (((48 : Int32) + ((nI jr) - (((nI jr) / (10 : Int32)) * (10 : Int32)))).toInt64)) (58 : Int64))) hx hb hml hown hts hN (kM_put l g b r (kG_put U (((48 : Int32) + ((nI jr) - (((nI jr) / (10 : Int32)) * (10 : Int32)))).toInt64)) (58 : Int64) okP) gL_isRead_X5_put rfl (by decide +kernel) ⟨rfl, rfl⟩ ⟨Nat.le_of_ble_eq_true rfl, Nat.le_of_ble_eq_true rfl⟩ hK hP hD hS hA rfl hl.1 rfl (Nat.le_of_ble_eq_true rfl) dL_isRead_192 ⟨Nat.le_of_ble_eq_true rfl, Nat.le_of_ble_eq_true rfl⟩ (fun H locs hP hD hS => ?_)
            obtain ⟨f0, hI, pB⟩ := (hR.put _ _ _ (58 : Int64) (58) hI (zln_d (Lr.map zmir) jr hLm (by omega)) (by omega) (by omega) (by decide)).2 pB
            have okO := (hR.ok _ _ hI).1
            have okP := (hR.ok _ _ hI).2
            refine lv_if_le (tgt := 202) hx hb dL_isRead_195 (by decide) (fun c_195 => absurd c_195 f0) (fun _ => ?_)
            refine lv_iconst (v := (1 : Int32)) hx hb dL_isRead_198 (by decide) ?_
            refine lv_goto (tgt := 203) hx hb dL_isRead_199 (by decide) ?_
            refine lv_istore (lv' := [(4, .int (1 : Int32)), (9, .int x9), (8, .int (nI jr)), (7, .int z7), (6, .int (nI i33)), (5, .int (nI N)), (0, .ref a), (1, .ref b), (2, .int p0), (3, .int p1)]) hx hb dL_isRead_203 hl (by decide) rfl (fun ls hl => ?_)
            refine lv_iconst (v := (0 : Int32)) hx hb dL_isRead_205 (by decide) ?_
            refine lv_istore (lv' := [(10, .int (0 : Int32)), (4, .int (1 : Int32)), (9, .int x9), (8, .int (nI jr)), (7, .int z7), (6, .int (nI i33)), (5, .int (nI N)), (0, .ref a), (1, .ref b), (2, .int p0), (3, .int p1)]) hx hb dL_isRead_206 hl (by decide) rfl (fun ls hl => ?_)
            have L208 : ∀ (n208 i208 : Nat), i208 + n208 = 6 → ∀ (V U : zPV) (H : Heap) (locs : List Loc) (ls : Array Slot), I V U → zPd V (((((zsepp (ztxt Lr)) ++ (if jr < 10 then ([] : List Nat) else [49])) ++ [48 + jr % 10]) ++ [58]) ++ zdg x9 i208) → zPd U (((((zsepp (ztxt (Lr.map zmir))) ++ (if jr < 10 then ([] : List Nat) else [49])) ++ [48 + jr % 10]) ++ [58]) ++ zdg (f_L_turned x9) i208) → va_P g.1 vwCl (zW g a q V ++ zW g b r U) H → va_D A (zW g a q V ++ zW g b r U) → va_S A s.heap H locs → lv_has ls 11 [(10, .int (nI i208)), (4, .int (1 : Int32)), (9, .int x9), (8, .int (nI jr)), (7, .int z7), (6, .int (nI i33)), (5, .int (nI N)), (0, .ref a), (1, .ref b), (2, .int p0), (3, .int p1)] → (∀ (V U : zPV) (H : Heap) (locs : List Loc) (ls : Array Slot), I V U → zPd V (((((zsepp (ztxt Lr)) ++ (if jr < 10 then ([] : List Nat) else [49])) ++ [48 + jr % 10]) ++ [58]) ++ zdg x9 6) → zPd U (((((zsepp (ztxt (Lr.map zmir))) ++ (if jr < 10 then ([] : List Nat) else [49])) ++ [48 + jr % 10]) ++ [58]) ++ zdg (f_L_turned x9) 6) → va_P g.1 vwCl (zW g a q V ++ zW g b r U) H → va_D A (zW g a q V ++ zW g b r U) → va_S A s.heap H locs → lv_has ls 11 [(10, .int (nI 6)), (4, .int (1 : Int32)), (9, .int x9), (8, .int (nI jr)), (7, .int z7), (6, .int (nI i33)), (5, .int (nI N)), (0, .ref a), (1, .ref b), (2, .int p0), (3, .int p1)] → W p l e rm_L_isRead s m ([.ref a, .ref b, .int p0, .int p1] : List Value).toArray below meth c H locs 0 0 Q (F0 m 282 ls [])) → W p l e rm_L_isRead s m ([.ref a, .ref b, .int p0, .int p1] : List Value).toArray below meth c H locs 0 0 Q (F0 m 208 ls []) := by
              intro n208
              induction n208 with
              | zero =>
                intro i208 hi208 V U H locs ls hI pA pB hP hD hS hl kx208
                refine lv_iload hx hb dL_isRead_208 (lv_at hl 0 rfl) ?_
                refine lv_bipush (v := (6 : Int32)) hx hb dL_isRead_210 (by decide) ?_
                refine lv_icmp_ge (tgt := 282) hx hb dL_isRead_212 (by decide) (fun _ => ?_) (fun c_212 => absurd ((nI_leI (a := 6) (b := i208) (by omega) (by omega)).mpr (by omega)) c_212)
                have e208 : i208 = 6 := by omega
                subst e208
                exact kx208 V U _ _ _ hI pA pB hP hD hS (lv_sub hl [0, 1, 2, 3, 4, 5, 6, 7, 8, 9, 10] rfl)
              | succ n208 ih208 =>
                intro i208 hi208 V U H locs ls hI pA pB hP hD hS hl kx208
                have okO := (hR.ok _ _ hI).1
                have okP := (hR.ok _ _ hI).2
                refine lv_iload hx hb dL_isRead_208 (lv_at hl 0 rfl) ?_
                refine lv_bipush (v := (6 : Int32)) hx hb dL_isRead_210 (by decide) ?_
                refine lv_icmp_ge (tgt := 282) hx hb dL_isRead_212 (by decide) (fun c_212 => absurd c_212 (fun h => absurd ((nI_leI (a := 6) (b := i208) (by omega) (by omega)).mp h) (by omega))) (fun _ => ?_)
                refine lv_iload hx hb dL_isRead_215 (lv_at hl 1 rfl) ?_
                refine lv_if_eq (tgt := 273) hx hb dL_isRead_217 (by decide) (fun c_217 => absurd c_217 (by decide)) (fun _ => ?_)
                have K243 : ∀ (V : zPV) (H : Heap) (locs : List Loc) (ls : Array Slot), I V U → zPd V (((((zsepp (ztxt Lr)) ++ (if jr < 10 then ([] : List Nat) else [49])) ++ [48 + jr % 10]) ++ [58]) ++ zdg x9 (i208 + 1)) → va_P g.1 vwCl (zW g a q V ++ zW g b r U) H → va_D A (zW g a q V ++ zW g b r U) → va_S A s.heap H locs → lv_has ls 11 [(10, .int (nI i208)), (4, .int (1 : Int32)), (9, .int x9), (8, .int (nI jr)), (7, .int z7), (6, .int (nI i33)), (5, .int (nI N)), (0, .ref a), (1, .ref b), (2, .int p0), (3, .int p1)] → W p l e rm_L_isRead s m ([.ref a, .ref b, .int p0, .int p1] : List Value).toArray below meth c H locs 0 0 Q (F0 m 243 ls []) := by
                  intro V H locs ls hI pA hP hD hS hl
                  have okO := (hR.ok _ _ hI).1
                  have okP := (hR.ok _ _ hI).2
                  have K269 : ∀ (U : zPV) (H : Heap) (locs : List Loc) (ls : Array Slot), I V U → zPd U (((((zsepp (ztxt (Lr.map zmir))) ++ (if jr < 10 then ([] : List Nat) else [49])) ++ [48 + jr % 10]) ++ [58]) ++ zdg (f_L_turned x9) (i208 + 1)) → va_P g.1 vwCl (zW g a q V ++ zW g b r U) H → va_D A (zW g a q V ++ zW g b r U) → va_S A s.heap H locs → lv_has ls 11 [(10, .int (nI i208)), (4, .int (1 : Int32)), (9, .int x9), (8, .int (nI jr)), (7, .int z7), (6, .int (nI i33)), (5, .int (nI N)), (0, .ref a), (1, .ref b), (2, .int p0), (3, .int p1)] → W p l e rm_L_isRead s m ([.ref a, .ref b, .int p0, .int p1] : List Value).toArray below meth c H locs 0 0 Q (F0 m 269 ls []) := by
                    intro U H locs ls hI pB hP hD hS hl
                    have okO := (hR.ok _ _ hI).1
                    have okP := (hR.ok _ _ hI).2
                    refine lv_iconst (v := (1 : Int32)) hx hb dL_isRead_269 (by decide) ?_
                    refine lv_goto (tgt := 274) hx hb dL_isRead_270 (by decide) ?_
                    refine lv_istore (lv' := [(4, .int (1 : Int32)), (10, .int (nI i208)), (9, .int x9), (8, .int (nI jr)), (7, .int z7), (6, .int (nI i33)), (5, .int (nI N)), (0, .ref a), (1, .ref b), (2, .int p0), (3, .int p1)]) hx hb dL_isRead_274 hl (by decide) rfl (fun ls hl => ?_)
                    refine lv_iinc (v := (nI (i208 + 1))) (lv' := [(10, .int (nI (i208 + 1))), (4, .int (1 : Int32)), (9, .int x9), (8, .int (nI jr)), (7, .int z7), (6, .int (nI i33)), (5, .int (nI N)), (0, .ref a), (1, .ref b), (2, .int p0), (3, .int p1)]) hx hb dL_isRead_276 hl (k := 1) rfl (nI_1 i208) (by decide) rfl (fun ls hl => ?_)
                    refine lv_goto (tgt := 208) hx hb dL_isRead_279 (by decide) ?_
                    exact ih208 (i208 + 1) (by omega) V U _ _ _ hI pA pB hP hD hS (lv_sub hl [0, 1, 2, 3, 4, 5, 6, 7, 8, 9, 10] rfl) kx208
                  refine lv_iload hx hb dL_isRead_243 (lv_at hl 2 rfl) ?_
                  refine zcSi (n := 1) (As := [.int x9]) (rest := []) hx hb hml hown hts hN (m_L_turned l g x9) gL_isRead_L_turned rfl (by decide +kernel) ⟨rfl, rfl⟩ ⟨Nat.le_of_ble_eq_true rfl, Nat.le_of_ble_eq_true rfl⟩ hK hP hD hS hA rfl hl.1 rfl (Nat.le_of_ble_eq_true rfl) dL_isRead_245 ⟨Nat.zero_le _, Nat.zero_le _⟩ (fun H locs hP hD hS => ?_)
                  refine lv_iload hx hb dL_isRead_248 (lv_at hl 0 rfl) ?_
                  refine lv_ishr hx hb dL_isRead_250 ?_
                  refine lv_iconst (v := (1 : Int32)) hx hb dL_isRead_251 (by decide) ?_
                  refine lv_iand hx hb dL_isRead_252 ?_
                  refine lv_if_eq (tgt := 269) hx hb dL_isRead_253 (by decide) (fun c_253 => ?_) (fun c_253 => ?_)
                  · exact K269 U _ _ _ hI (zdg_z c_253 pB) hP hD hS (lv_sub hl [0, 1, 2, 3, 4, 5, 6, 7, 8, 9, 10] rfl)
                  · refine lv_aload_n hx hb dL_isRead_256 rfl (lv_at hl 8 rfl) ?_
                    refine lv_bipush (v := (48 : Int32)) hx hb dL_isRead_257 (by decide) ?_
                    refine lv_iload hx hb dL_isRead_259 (lv_at hl 0 rfl) ?_
                    refine lv_iadd hx hb dL_isRead_261 ?_
                    refine lv_i2l hx hb dL_isRead_262 rfl ?_
                    refine zcT (n := 1) (As := [.long (((48 : Int32) + (nI i208)).toInt64)]) (rest := []) (Y := zW g a q V) hx hb hml hown hts hN (kM_put l g b r U (((48 : Int32) + (nI i208)).toInt64) okP) gL_isRead_X5_put rfl (by decide +kernel) ⟨rfl, rfl⟩ ⟨Nat.le_of_ble_eq_true rfl, Nat.le_of_ble_eq_true rfl⟩ hK hP hD hS hA rfl hl.1 rfl (Nat.le_of_ble_eq_true rfl) dL_isRead_263 ⟨Nat.le_of_ble_eq_true rfl, Nat.le_of_ble_eq_true rfl⟩ (fun H locs hP hD hS => ?_)
                    obtain ⟨f0, hI, pB⟩ := (hR.put _ _ _ (((48 : Int32) + (nI i208)).toInt64) (48 + i208) hI (zln_p (Lr.map zmir) jr hLm (by omega) (f_L_turned x9) (by omega)) (by omega) (by omega) (zpl_nI (by omega))).2 pB
                    have okO := (hR.ok _ _ hI).1
                    have okP := (hR.ok _ _ hI).2
                    refine lv_if_le (tgt := 273) hx hb dL_isRead_266 (by decide) (fun c_266 => absurd c_266 f0) (fun _ => ?_)
                    exact K269 (kG_put U (((48 : Int32) + (nI i208)).toInt64)) _ _ _ hI (zdg_n c_253 pB) hP hD hS (lv_sub hl [0, 1, 2, 3, 4, 5, 6, 7, 8, 9, 10] rfl)
                refine lv_iload hx hb dL_isRead_220 (lv_at hl 2 rfl) ?_
                refine lv_iload hx hb dL_isRead_222 (lv_at hl 0 rfl) ?_
                refine lv_ishr hx hb dL_isRead_224 ?_
                refine lv_iconst (v := (1 : Int32)) hx hb dL_isRead_225 (by decide) ?_
                refine lv_iand hx hb dL_isRead_226 ?_
                refine lv_if_eq (tgt := 243) hx hb dL_isRead_227 (by decide) (fun c_227 => ?_) (fun c_227 => ?_)
                · exact K243 V _ _ _ hI (zdg_z c_227 pA) hP hD hS (lv_sub hl [0, 1, 2, 3, 4, 5, 6, 7, 8, 9, 10] rfl)
                · refine lv_aload_n hx hb dL_isRead_230 rfl (lv_at hl 7 rfl) ?_
                  refine lv_bipush (v := (48 : Int32)) hx hb dL_isRead_231 (by decide) ?_
                  refine lv_iload hx hb dL_isRead_233 (lv_at hl 0 rfl) ?_
                  refine lv_iadd hx hb dL_isRead_235 ?_
                  refine lv_i2l hx hb dL_isRead_236 rfl ?_
                  refine zcO (n := 1) (As := [.long (((48 : Int32) + (nI i208)).toInt64)]) (rest := []) (Y := zW g b r U) hx hb hml hown hts hN (kM_put l g a q V (((48 : Int32) + (nI i208)).toInt64) okO) gL_isRead_X5_put rfl (by decide +kernel) ⟨rfl, rfl⟩ ⟨Nat.le_of_ble_eq_true rfl, Nat.le_of_ble_eq_true rfl⟩ hK hP hD hS hA rfl hl.1 rfl (Nat.le_of_ble_eq_true rfl) dL_isRead_237 ⟨Nat.le_of_ble_eq_true rfl, Nat.le_of_ble_eq_true rfl⟩ (fun H locs hP hD hS => ?_)
                  obtain ⟨f0, hI, pA⟩ := (hR.put _ _ _ (((48 : Int32) + (nI i208)).toInt64) (48 + i208) hI (zln_p Lr jr hLn (by omega) x9 (by omega)) (by omega) (by omega) (zpl_nI (by omega))).1 pA
                  have okO := (hR.ok _ _ hI).1
                  have okP := (hR.ok _ _ hI).2
                  refine lv_if_le (tgt := 273) hx hb dL_isRead_240 (by decide) (fun c_240 => absurd c_240 f0) (fun _ => ?_)
                  exact K243 (kG_put V (((48 : Int32) + (nI i208)).toInt64)) _ _ _ hI (zdg_n c_227 pA) hP hD hS (lv_sub hl [0, 1, 2, 3, 4, 5, 6, 7, 8, 9, 10] rfl)
            refine L208 6 0 (by omega) (kG_put (kG_put V (((48 : Int32) + ((nI jr) - (((nI jr) / (10 : Int32)) * (10 : Int32)))).toInt64)) (58 : Int64)) (kG_put (kG_put U (((48 : Int32) + ((nI jr) - (((nI jr) / (10 : Int32)) * (10 : Int32)))).toInt64)) (58 : Int64)) _ _ _ hI (zdg_0 pA) (zdg_0 pB) hP hD hS (lv_sub hl [0, 1, 2, 3, 4, 5, 6, 7, 8, 9, 10] rfl) (fun V U H locs ls hI pA pB hP hD hS hl => ?_)
            have hl := lv_sub hl [1, 2, 3, 4, 5, 6, 7, 8, 9, 10, 0] rfl
            have hl : lv_has ls 11 [(4, .int (1 : Int32)), (9, .int x9), (8, .int (nI jr)), (7, .int z7), (6, .int (nI i33)), (5, .int (nI N)), (0, .ref a), (1, .ref b), (2, .int p0), (3, .int p1), (10, .int (nI 6))] := hl
            have okO := (hR.ok _ _ hI).1
            have okP := (hR.ok _ _ hI).2
            refine lv_iinc (v := (nI (i33 + 1))) (lv' := [(6, .int (nI (i33 + 1))), (4, .int (1 : Int32)), (9, .int x9), (8, .int (nI jr)), (7, .int z7), (5, .int (nI N)), (0, .ref a), (1, .ref b), (2, .int p0), (3, .int p1), (10, .int (nI 6))]) hx hb dL_isRead_282 hl (k := 4) rfl (nI_1 i33) (by decide) rfl (fun ls hl => ?_)
            refine lv_goto (tgt := 33) hx hb dL_isRead_285 (by decide) ?_
            exact ih33 (i33 + 1) (by omega) (Lr ++ [(jr, x9)]) V U _ _ _ hI (by rw [List.length_append, hLn]; rfl) (zRows_app hLr hjr hx9) (ztxt_app pA) (ztxt_map pB) hP hD hS (lv_sub hl [0, 5, 1, 6, 7, 8, 9] rfl) kx33
          refine lv_iload hx hb dL_isRead_119 (lv_at hl 1 rfl) ?_
          refine lv_bipush (v := (10 : Int32)) hx hb dL_isRead_121 (by decide) ?_
          refine lv_icmp_lt (tgt := 146) hx hb dL_isRead_123 (by decide) (fun c_123 => ?_) (fun c_123 => ?_)
          · exact K146 V U _ _ _ hI (by rw [if_pos ((nI_ltI (a := jr) (b := 10) (by omega) (by omega)).mp c_123), List.append_nil]; exact pA) (by rw [if_pos ((nI_ltI (a := jr) (b := 10) (by omega) (by omega)).mp c_123), List.append_nil]; exact pB) hP hD hS (lv_sub hl [0, 1, 2, 3, 4, 5, 6, 7, 8, 9] rfl)
          · refine lv_aload_n hx hb dL_isRead_126 rfl (lv_at hl 6 rfl) ?_
            refine lv_ldc2 (v := (49 : Int64)) hx hb hown (hts (.constantLong RL 27 (49)) (by decide +kernel)) dL_isRead_127 ?_
            refine zcO (n := 1) (As := [.long (49 : Int64)]) (rest := []) (Y := zW g b r U) hx hb hml hown hts hN (kM_put l g a q V (49 : Int64) okO) gL_isRead_X5_put rfl (by decide +kernel) ⟨rfl, rfl⟩ ⟨Nat.le_of_ble_eq_true rfl, Nat.le_of_ble_eq_true rfl⟩ hK hP hD hS hA rfl hl.1 rfl (Nat.le_of_ble_eq_true rfl) dL_isRead_130 ⟨Nat.le_of_ble_eq_true rfl, Nat.le_of_ble_eq_true rfl⟩ (fun H locs hP hD hS => ?_)
            obtain ⟨f0, hI, pA⟩ := (hR.put _ _ _ (49 : Int64) (49) hI (zln_s Lr jr hLn (by omega)) (by omega) (by omega) (by decide)).1 pA
            have okO := (hR.ok _ _ hI).1
            have okP := (hR.ok _ _ hI).2
            refine lv_if_le (tgt := 202) hx hb dL_isRead_133 (by decide) (fun c_133 => absurd c_133 f0) (fun _ => ?_)
            refine lv_aload_n hx hb dL_isRead_136 rfl (lv_at hl 7 rfl) ?_
            refine lv_ldc2 (v := (49 : Int64)) hx hb hown (hts (.constantLong RL 27 (49)) (by decide +kernel)) dL_isRead_137 ?_
            refine zcT (n := 1) (As := [.long (49 : Int64)]) (rest := []) (Y := zW g a q (kG_put V (49 : Int64))) hx hb hml hown hts hN (kM_put l g b r U (49 : Int64) okP) gL_isRead_X5_put rfl (by decide +kernel) ⟨rfl, rfl⟩ ⟨Nat.le_of_ble_eq_true rfl, Nat.le_of_ble_eq_true rfl⟩ hK hP hD hS hA rfl hl.1 rfl (Nat.le_of_ble_eq_true rfl) dL_isRead_140 ⟨Nat.le_of_ble_eq_true rfl, Nat.le_of_ble_eq_true rfl⟩ (fun H locs hP hD hS => ?_)
            obtain ⟨f0, hI, pB⟩ := (hR.put _ _ _ (49 : Int64) (49) hI (zln_s (Lr.map zmir) jr hLm (by omega)) (by omega) (by omega) (by decide)).2 pB
            have okO := (hR.ok _ _ hI).1
            have okP := (hR.ok _ _ hI).2
            refine lv_if_le (tgt := 202) hx hb dL_isRead_143 (by decide) (fun c_143 => absurd c_143 f0) (fun _ => ?_)
            exact K146 (kG_put V (49 : Int64)) (kG_put U (49 : Int64)) _ _ _ hI (by rw [if_neg (fun h => c_123 ((nI_ltI (a := jr) (b := 10) (by omega) (by omega)).mpr h))]; exact pA) (by rw [if_neg (fun h => c_123 ((nI_ltI (a := jr) (b := 10) (by omega) (by omega)).mpr h))]; exact pB) hP hD hS (lv_sub hl [0, 1, 2, 3, 4, 5, 6, 7, 8, 9] rfl)
        refine lv_iload hx hb dL_isRead_94 (lv_at hl 3 rfl) ?_
        refine lv_if_eq (tgt := 119) hx hb dL_isRead_96 (by decide) (fun c_96 => ?_) (fun c_96 => ?_)
        · exact K119 V U _ _ _ hI (zsep0 (hLn.trans ((nI_eq (a := i33) (b := 0) (by omega) (by omega)).mp c_96)) pA) (zsep0 (by rw [List.length_map, hLn]; exact ((nI_eq (a := i33) (b := 0) (by omega) (by omega)).mp c_96)) pB) hP hD hS (lv_sub hl [0, 1, 2, 3, 4, 5, 6, 7, 8, 9] rfl)
        · refine lv_aload_n hx hb dL_isRead_99 rfl (lv_at hl 6 rfl) ?_
          refine lv_ldc2 (v := (59 : Int64)) hx hb hown (hts (.constantLong RL 21 (59)) (by decide +kernel)) dL_isRead_100 ?_
          refine zcO (n := 1) (As := [.long (59 : Int64)]) (rest := []) (Y := zW g b r U) hx hb hml hown hts hN (kM_put l g a q V (59 : Int64) okO) gL_isRead_X5_put rfl (by decide +kernel) ⟨rfl, rfl⟩ ⟨Nat.le_of_ble_eq_true rfl, Nat.le_of_ble_eq_true rfl⟩ hK hP hD hS hA rfl hl.1 rfl (Nat.le_of_ble_eq_true rfl) dL_isRead_103 ⟨Nat.le_of_ble_eq_true rfl, Nat.le_of_ble_eq_true rfl⟩ (fun H locs hP hD hS => ?_)
          obtain ⟨f0, hI, pA⟩ := (hR.put _ _ _ (59 : Int64) (59) hI (zln_t Lr jr hLn (by omega)) (by omega) (by omega) (by decide)).1 pA
          have okO := (hR.ok _ _ hI).1
          have okP := (hR.ok _ _ hI).2
          refine lv_if_le (tgt := 202) hx hb dL_isRead_106 (by decide) (fun c_106 => absurd c_106 f0) (fun _ => ?_)
          refine lv_aload_n hx hb dL_isRead_109 rfl (lv_at hl 7 rfl) ?_
          refine lv_ldc2 (v := (59 : Int64)) hx hb hown (hts (.constantLong RL 21 (59)) (by decide +kernel)) dL_isRead_110 ?_
          refine zcT (n := 1) (As := [.long (59 : Int64)]) (rest := []) (Y := zW g a q (kG_put V (59 : Int64))) hx hb hml hown hts hN (kM_put l g b r U (59 : Int64) okP) gL_isRead_X5_put rfl (by decide +kernel) ⟨rfl, rfl⟩ ⟨Nat.le_of_ble_eq_true rfl, Nat.le_of_ble_eq_true rfl⟩ hK hP hD hS hA rfl hl.1 rfl (Nat.le_of_ble_eq_true rfl) dL_isRead_113 ⟨Nat.le_of_ble_eq_true rfl, Nat.le_of_ble_eq_true rfl⟩ (fun H locs hP hD hS => ?_)
          obtain ⟨f0, hI, pB⟩ := (hR.put _ _ _ (59 : Int64) (59) hI (zln_t (Lr.map zmir) jr hLm (by omega)) (by omega) (by omega) (by decide)).2 pB
          have okO := (hR.ok _ _ hI).1
          have okP := (hR.ok _ _ hI).2
          refine lv_if_le (tgt := 202) hx hb dL_isRead_116 (by decide) (fun c_116 => absurd c_116 f0) (fun _ => ?_)
          exact K119 (kG_put V (59 : Int64)) (kG_put U (59 : Int64)) _ _ _ hI (zsep1 (L := Lr) (by rw [hLn]; exact (fun e => c_96 (by rw [e]; rfl))) pA) (zsep1 (L := Lr.map zmir) (by rw [List.length_map, hLn]; exact (fun e => c_96 (by rw [e]; rfl))) pB) hP hD hS (lv_sub hl [0, 1, 2, 3, 4, 5, 6, 7, 8, 9] rfl)
      refine lv_iload hx hb dL_isRead_62 (lv_at hl 1 rfl) ?_
      refine lv_iconst (v := (4 : Int32)) hx hb dL_isRead_64 (by decide) ?_
      refine lv_ishr hx hb dL_isRead_65 ?_
      refine lv_iload hx hb dL_isRead_66 (lv_at hl 1 rfl) ?_
      refine lv_bipush (v := (10 : Int32)) hx hb dL_isRead_68 (by decide) ?_
      refine lv_ishr hx hb dL_isRead_70 ?_
      refine lv_iconst (v := (3 : Int32)) hx hb dL_isRead_71 (by decide) ?_
      refine zcSi (n := 2) (As := [.int (z7 >>> ((10 : Int32) &&& 31)), .int (3 : Int32)]) (rest := [.int (z7 >>> ((4 : Int32) &&& 31))]) hx hb hml hown hts hN (m_L_up l g (z7 >>> ((10 : Int32) &&& 31)) (3 : Int32) (by decide)) gL_isRead_L_up rfl (by decide +kernel) ⟨rfl, rfl⟩ ⟨Nat.le_of_ble_eq_true rfl, Nat.le_of_ble_eq_true rfl⟩ hK hP hD hS hA rfl hl.1 rfl (Nat.le_of_ble_eq_true rfl) dL_isRead_72 ⟨Nat.zero_le _, Nat.zero_le _⟩ (fun H locs hP hD hS => ?_)
      refine lv_if_ne (tgt := 83) hx hb dL_isRead_75 (by decide) (fun c_75 => ?_) (fun c_75 => ?_)
      · refine lv_iconst (v := (5 : Int32)) hx hb dL_isRead_83 (by decide) ?_
        refine zcSi (n := 2) (As := [.int (z7 >>> ((4 : Int32) &&& 31)), .int (5 : Int32)]) (rest := []) hx hb hml hown hts hN (m_L_up l g (z7 >>> ((4 : Int32) &&& 31)) (5 : Int32) (by decide)) gL_isRead_L_up rfl (by decide +kernel) ⟨rfl, rfl⟩ ⟨Nat.le_of_ble_eq_true rfl, Nat.le_of_ble_eq_true rfl⟩ hK hP hD hS hA rfl hl.1 rfl (Nat.le_of_ble_eq_true rfl) dL_isRead_84 ⟨Nat.zero_le _, Nat.zero_le _⟩ (fun H locs hP hD hS => ?_)
        refine lv_istore (lv' := [(9, .int (f_L_up (z7 >>> ((4 : Int32) &&& 31)) (5 : Int32))), (8, .int (nI jr)), (7, .int z7), (6, .int (nI i33)), (5, .int (nI N)), (4, .int (1 : Int32)), (0, .ref a), (1, .ref b), (2, .int p0), (3, .int p1)]) hx hb dL_isRead_87 hl (by decide) rfl (fun ls hl => ?_)
        exact K89 (f_L_up (z7 >>> ((4 : Int32) &&& 31)) (5 : Int32)) _ _ _ (zin_mono (zupin (z7 >>> ((4 : Int32) &&& 31)) (5 : Int32) (n := 5) rfl (by omega) (by omega)) (by omega)) hP hD hS (lv_sub hl [0, 1, 2, 3, 4, 5, 6, 7, 8, 9] rfl)
      · refine lv_bipush (v := (64 : Int32)) hx hb dL_isRead_78 (by decide) ?_
        refine lv_goto (tgt := 84) hx hb dL_isRead_80 (by decide) ?_
        refine zcSi (n := 2) (As := [.int (z7 >>> ((4 : Int32) &&& 31)), .int (64 : Int32)]) (rest := []) hx hb hml hown hts hN (m_L_up l g (z7 >>> ((4 : Int32) &&& 31)) (64 : Int32) (by decide)) gL_isRead_L_up rfl (by decide +kernel) ⟨rfl, rfl⟩ ⟨Nat.le_of_ble_eq_true rfl, Nat.le_of_ble_eq_true rfl⟩ hK hP hD hS hA rfl hl.1 rfl (Nat.le_of_ble_eq_true rfl) dL_isRead_84 ⟨Nat.zero_le _, Nat.zero_le _⟩ (fun H locs hP hD hS => ?_)
        refine lv_istore (lv' := [(9, .int (f_L_up (z7 >>> ((4 : Int32) &&& 31)) (64 : Int32))), (8, .int (nI jr)), (7, .int z7), (6, .int (nI i33)), (5, .int (nI N)), (4, .int (1 : Int32)), (0, .ref a), (1, .ref b), (2, .int p0), (3, .int p1)]) hx hb dL_isRead_87 hl (by decide) rfl (fun ls hl => ?_)
        exact K89 (f_L_up (z7 >>> ((4 : Int32) &&& 31)) (64 : Int32)) _ _ _ (zupin (z7 >>> ((4 : Int32) &&& 31)) (64 : Int32) (n := 64) rfl (by omega) (by omega)) hP hD hS (lv_sub hl [0, 1, 2, 3, 4, 5, 6, 7, 8, 9] rfl)
  refine L33 N 0 (by omega) [] (kG_wipe V) (kG_wipe U) _ _ _ hI rfl (fun x h => absurd h List.not_mem_nil) pA1 pB1 hP hD hS (lv_sub hl [0, 1, 2, 3, 4, 5, 6] rfl) (fun Lr V U H locs ls hI hLn hLr pA pB hP hD hS hl => ?_)
  have hl := lv_sub hl [1, 2, 3, 4, 5, 6, 0] rfl
  have hl : lv_has ls 11 [(5, .int (nI N)), (4, .int (1 : Int32)), (0, .ref a), (1, .ref b), (2, .int p0), (3, .int p1), (6, .int (nI N))] := hl
  have okO := (hR.ok _ _ hI).1
  have okP := (hR.ok _ _ hI).2
  obtain ⟨r1, r2, r3, hJ⟩ := hR.read V U Lr hI pA pB (fun e => by rw [e] at hLn; have : (0 : Nat) = N := hLn; omega) (by omega) hLr
  refine lv_aload_n hx hb dL_isRead_288 rfl (lv_at hl 2 rfl) ?_
  refine zcO (n := 0) (As := []) (rest := []) (Y := zW g b r U) hx hb hml hown hts hN (kM_read l g a q V okO) gL_isRead_X5_read rfl (by decide +kernel) ⟨rfl, rfl⟩ ⟨Nat.le_of_ble_eq_true rfl, Nat.le_of_ble_eq_true rfl⟩ hK hP hD hS hA rfl hl.1 rfl (Nat.le_of_ble_eq_true rfl) dL_isRead_289 ⟨Nat.le_of_ble_eq_true rfl, Nat.le_of_ble_eq_true rfl⟩ (fun H locs hP hD hS => ?_)
  refine lv_istore (lv' := [(6, .int (kF_read V)), (5, .int (nI N)), (4, .int (1 : Int32)), (0, .ref a), (1, .ref b), (2, .int p0), (3, .int p1)]) hx hb dL_isRead_292 hl (by decide) rfl (fun ls hl => ?_)
  refine lv_iload hx hb dL_isRead_294 (lv_at hl 2 rfl) ?_
  refine lv_if_eq (tgt := 332) hx hb dL_isRead_296 (by decide) (fun c_296 => absurd c_296 (by decide)) (fun _ => ?_)
  refine lv_iload hx hb dL_isRead_299 (lv_at hl 0 rfl) ?_
  refine lv_aload_n hx hb dL_isRead_301 rfl (lv_at hl 4 rfl) ?_
  refine zcT (n := 0) (As := []) (rest := [.int (kF_read V)]) (Y := zW g a q (kG_read V)) hx hb hml hown hts hN (kM_read l g b r U okP) gL_isRead_X5_read rfl (by decide +kernel) ⟨rfl, rfl⟩ ⟨Nat.le_of_ble_eq_true rfl, Nat.le_of_ble_eq_true rfl⟩ hK hP hD hS hA rfl hl.1 rfl (Nat.le_of_ble_eq_true rfl) dL_isRead_302 ⟨Nat.le_of_ble_eq_true rfl, Nat.le_of_ble_eq_true rfl⟩ (fun H locs hP hD hS => ?_)
  refine lv_icmp_ne (tgt := 332) hx hb dL_isRead_305 (by decide) (fun c_305 => absurd r1 c_305) (fun _ => ?_)
  refine lv_iload hx hb dL_isRead_308 (lv_at hl 0 rfl) ?_
  refine lv_aload_n hx hb dL_isRead_310 rfl (lv_at hl 3 rfl) ?_
  refine lv_bipush (v := (15 : Int32)) hx hb dL_isRead_311 (by decide) ?_
  refine zcO (n := 1) (As := [.int (15 : Int32)]) (rest := [.int (kF_read V)]) (Y := zW g b r (kG_read U)) hx hb hml hown hts hN (kM_count l g a q (kG_read V) (15 : Int32)) gL_isRead_X5_count rfl (by decide +kernel) ⟨rfl, rfl⟩ ⟨Nat.le_of_ble_eq_true rfl, Nat.le_of_ble_eq_true rfl⟩ hK hP hD hS hA rfl hl.1 rfl (Nat.le_of_ble_eq_true rfl) dL_isRead_313 ⟨Nat.le_of_ble_eq_true rfl, Nat.le_of_ble_eq_true rfl⟩ (fun H locs hP hD hS => ?_)
  refine lv_icmp_ne (tgt := 332) hx hb dL_isRead_316 (by decide) (fun c_316 => absurd r2 c_316) (fun _ => ?_)
  refine lv_aload_n hx hb dL_isRead_319 rfl (lv_at hl 3 rfl) ?_
  refine lv_bipush (v := (18 : Int32)) hx hb dL_isRead_320 (by decide) ?_
  refine zcO (n := 1) (As := [.int (18 : Int32)]) (rest := []) (Y := zW g b r (kG_read U)) hx hb hml hown hts hN (kM_count l g a q (kG_read V) (18 : Int32)) gL_isRead_X5_count rfl (by decide +kernel) ⟨rfl, rfl⟩ ⟨Nat.le_of_ble_eq_true rfl, Nat.le_of_ble_eq_true rfl⟩ hK hP hD hS hA rfl hl.1 rfl (Nat.le_of_ble_eq_true rfl) dL_isRead_322 ⟨Nat.le_of_ble_eq_true rfl, Nat.le_of_ble_eq_true rfl⟩ (fun H locs hP hD hS => ?_)
  refine lv_if_ne (tgt := 332) hx hb dL_isRead_325 (by decide) (fun c_325 => absurd r3 c_325) (fun _ => ?_)
  refine lv_iconst (v := (1 : Int32)) hx hb dL_isRead_328 (by decide) ?_
  refine lv_goto (tgt := 333) hx hb dL_isRead_329 (by decide) ?_
  exact hret (1 : Int32) (kG_read V, kG_read U) _ _ _ _ dL_isRead_333 ⟨rfl, hJ⟩ rfl hP hD hS
