/-! The law's small methods, and what they answer. -/
abbrev rm_L_up : Room := { frames := 0, cells := 0, slots := 0, locals := 0 }
def f_L_up (p0 : Int32) (p1 : Int32) : Int32 := ((p0 &&& (2147483647 : Int32)) - (((p0 &&& (2147483647 : Int32)) / p1) * p1))
set_option maxRecDepth 100000 in
set_option maxHeartbeats 4000000 in
theorem m_L_up (l : Launch) (g : zG) (p0 : Int32) (p1 : Int32) (h1 : ¬ p1 = 0) : ZI l yL_up wsL_up rm_L_up g [] [.int p0, .int p1] (f_L_up p0 p1) [] := by
  refine zopenI (cc := cL_up) (maxL := 2) (ret := .int) (by decide +kernel) rfl (Nat.le_of_ble_eq_true rfl) ?_
  intro p e s m below meth c A Q ls hx hb hml hown hts hP hK hD hA hN hl hret
  have hS : va_S A s.heap s.heap [] := va_S.rf
  have hl : lv_has ls 2 [(0, .int p0), (1, .int p1)] := hl
  have hown : s.vm.findClass RL = some m.cls := hown
  refine lv_iload_n hx hb dL_up_0 rfl (lv_at hl 0 rfl) ?_
  refine lv_ldc (v := (2147483647 : Int32)) hx hb hown (hts (.constant RL 8 (2147483647)) (by decide +kernel)) dL_up_1 ?_
  refine lv_iand hx hb dL_up_3 ?_
  refine lv_iload_n hx hb dL_up_4 rfl (lv_at hl 1 rfl) ?_
  refine lv_irem hx hb dL_up_5 h1 ?_
  have E : (f_L_up p0 p1) = ((p0 &&& (2147483647 : Int32)) - (((p0 &&& (2147483647 : Int32)) / p1) * p1)) := rfl
  exact hret _ _ _ _ _ _ dL_up_6 E.symm (rfl) rfl hP hD hS
abbrev rm_L_turned : Room := { frames := 0, cells := 0, slots := 0, locals := 0 }
def f_L_turned_L4 (p0 : Int32) : Nat → Nat → Int32 → Int32
  | 0, i4, x4_1 => x4_1
  | n4 + 1, i4, x4_1 => (f_L_turned_L4 p0 n4 (i4 + 1) (x4_1 ||| (((p0 >>> ((nI i4) &&& 31)) &&& (1 : Int32)) <<< (((5 : Int32) - (nI i4)) &&& 31))))
def f_L_turned (p0 : Int32) : Int32 := (f_L_turned_L4 p0 (zfu 6) 0 (0 : Int32))
set_option maxRecDepth 100000 in
set_option maxHeartbeats 4000000 in
theorem m_L_turned (l : Launch) (g : zG) (p0 : Int32) : ZI l yL_turned wsL_turned rm_L_turned g [] [.int p0] (f_L_turned p0) [] := by
  refine zopenI (cc := cL_turned) (maxL := 3) (ret := .int) (by decide +kernel) rfl (Nat.le_of_ble_eq_true rfl) ?_
  intro p e s m below meth c A Q ls hx hb hml hown hts hP hK hD hA hN hl hret
  have hS : va_S A s.heap s.heap [] := va_S.rf
  have hl : lv_has ls 3 [(0, .int p0)] := hl
  have hown : s.vm.findClass RL = some m.cls := hown
  refine lv_iconst (v := (0 : Int32)) hx hb dL_turned_0 (by decide) ?_
  refine lv_istore_n (lv' := [(1, .int (0 : Int32)), (0, .int p0)]) hx hb dL_turned_1 rfl hl (by decide) rfl (fun ls hl => ?_)
  refine lv_iconst (v := (0 : Int32)) hx hb dL_turned_2 (by decide) ?_
  refine lv_istore_n (lv' := [(2, .int (0 : Int32)), (1, .int (0 : Int32)), (0, .int p0)]) hx hb dL_turned_3 rfl hl (by decide) rfl (fun ls hl => ?_)
  have L4 : ∀ (n4 : Nat) (i4 : Nat), i4 + n4 = 6 → ∀ (x4_1 : Int32) (H : Heap) (locs : List Loc) (ls : Array Slot), va_P g.1 vwCl ([] : va_W) H → va_D A ([] : va_W) → va_S A s.heap H locs → lv_has ls 3 [(2, .int (nI i4)), (1, .int x4_1), (0, .int p0)] → (∀ (H : Heap) (locs : List Loc) (ls : Array Slot), va_P g.1 vwCl ([] : va_W) H → va_D A ([] : va_W) → va_S A s.heap H locs → lv_has ls 3 [(1, .int (f_L_turned_L4 p0 n4 i4 x4_1)), (0, .int p0)] → W p l e rm_L_turned s m ([.int p0] : List Value).toArray below meth c H locs 0 0 Q (F0 m 28 ls [])) → W p l e rm_L_turned s m ([.int p0] : List Value).toArray below meth c H locs 0 0 Q (F0 m 4 ls []) := by
    intro n4
    induction n4 with
    | zero =>
      intro i4 hin4 x4_1 H locs ls hP hD hS hl kx
      refine lv_iload_n hx hb dL_turned_4 rfl (lv_at hl 0 rfl) ?_
      refine lv_bipush (v := (6 : Int32)) hx hb dL_turned_5 (by decide) ?_
      refine lv_icmp_ge (tgt := 28) hx hb dL_turned_7 (by decide) (fun c_7 => ?_) (fun c_7 => ?_)
      rotate_left
      · exact absurd (by rw [show i4 = 6 by omega]; decide) c_7
      have E : (f_L_turned_L4 p0 0 i4 x4_1) = x4_1 := rfl
      rw [E] at kx
      exact kx _ _ _ hP hD hS (lv_sub hl [1, 2] rfl)
    | succ n4 ih4 =>
      intro i4 hin4 x4_1 H locs ls hP hD hS hl kx
      refine lv_iload_n hx hb dL_turned_4 rfl (lv_at hl 0 rfl) ?_
      refine lv_bipush (v := (6 : Int32)) hx hb dL_turned_5 (by decide) ?_
      refine lv_icmp_ge (tgt := 28) hx hb dL_turned_7 (by decide) (fun c_7 => ?_) (fun c_7 => ?_)
      · exact absurd c_7 (nI_ge (a := i4) (b := 6) (by omega) (by omega))
      refine lv_iload_n hx hb dL_turned_10 rfl (lv_at hl 1 rfl) ?_
      refine lv_iload_n hx hb dL_turned_11 rfl (lv_at hl 2 rfl) ?_
      refine lv_iload_n hx hb dL_turned_12 rfl (lv_at hl 0 rfl) ?_
      refine lv_ishr hx hb dL_turned_13 ?_
      refine lv_iconst (v := (1 : Int32)) hx hb dL_turned_14 (by decide) ?_
      refine lv_iand hx hb dL_turned_15 ?_
      refine lv_iconst (v := (5 : Int32)) hx hb dL_turned_16 (by decide) ?_
      refine lv_iload_n hx hb dL_turned_17 rfl (lv_at hl 0 rfl) ?_
      refine lv_isub hx hb dL_turned_18 ?_
      refine lv_ishl hx hb dL_turned_19 ?_
      refine lv_ior hx hb dL_turned_20 ?_
      refine lv_istore_n (lv' := [(1, .int (x4_1 ||| (((p0 >>> ((nI i4) &&& 31)) &&& (1 : Int32)) <<< (((5 : Int32) - (nI i4)) &&& 31)))), (2, .int (nI i4)), (0, .int p0)]) hx hb dL_turned_21 rfl hl (by decide) rfl (fun ls hl => ?_)
      refine lv_iinc (v := (nI (i4 + 1))) (lv' := [(2, .int (nI (i4 + 1))), (1, .int (x4_1 ||| (((p0 >>> ((nI i4) &&& 31)) &&& (1 : Int32)) <<< (((5 : Int32) - (nI i4)) &&& 31)))), (0, .int p0)]) hx hb dL_turned_22 hl (k := 1) rfl (nI_1 i4) (by decide) rfl (fun ls hl => ?_)
      refine lv_goto (tgt := 4) hx hb dL_turned_25 (by decide) ?_
      have E : (f_L_turned_L4 p0 (n4 + 1) i4 x4_1) = (f_L_turned_L4 p0 n4 (i4 + 1) (x4_1 ||| (((p0 >>> ((nI i4) &&& 31)) &&& (1 : Int32)) <<< (((5 : Int32) - (nI i4)) &&& 31)))) := rfl
      rw [E] at kx
      exact ih4 (i4 + 1) (by omega) (x4_1 ||| (((p0 >>> ((nI i4) &&& 31)) &&& (1 : Int32)) <<< (((5 : Int32) - (nI i4)) &&& 31))) _ _ _  hP hD hS (lv_sub hl [0, 1, 2] rfl) kx
  refine L4 (zfu 6) 0 (by rw [zfu_eq]) (0 : Int32) _ _ _  hP hD hS (lv_sub hl [0, 1, 2] rfl) (fun H locs ls hP hD hS hl => ?_)
  refine lv_iload_n hx hb dL_turned_28 rfl (lv_at hl 0 rfl) ?_
  have E : (f_L_turned p0) = (f_L_turned_L4 p0 (zfu 6) 0 (0 : Int32)) := rfl
  exact hret _ _ _ _ _ _ dL_turned_29 E.symm (rfl) rfl hP hD hS
abbrev rm_L_cell : Room := { frames := 0, cells := 0, slots := 0, locals := 0 }
theorem zofL {L k : Nat} (hL : L ≤ 260) (h : ¬ Int32.ofNat L ≤ nI k) : ¬ L ≤ k ∨ 2147483648 ≤ k := by
  rcases Nat.lt_or_ge k 2147483648 with q | q
  · exact Or.inl (fun h2 => h ((nI_leI (a := L) (b := k) (by omega) (by omega)).mpr h2))
  · exact Or.inr q
set_option maxRecDepth 100000 in
set_option maxHeartbeats 4000000 in
theorem m_L_cell (l : Launch) {b L : Nat} {xs : Nat → Int32} (hL : L ≤ 260) (k : Nat) (hk : k < 1000) : ZX l yL_cell wsL_cell rm_L_cell b L xs [.ref b, .int (nI k)] := by
  refine zopenX (cc := cL_cell) (maxL := 2) (ret := .int) (by decide +kernel) rfl (Nat.le_of_ble_eq_true rfl) ?_
  intro p e s m below meth c A Q ls hx hb hml hown hts hX hbl hbA hl hret
  have hS : va_S A s.heap s.heap [] := va_S.rf
  have hl : lv_has ls 2 [(0, .ref b), (1, .int (nI k))] := hl
  have hown : s.vm.findClass RL = some m.cls := hown
  refine lv_iload_n hx hb dL_cell_0 rfl (lv_at hl 1 rfl) ?_
  refine lv_aload_n hx hb dL_cell_1 rfl (lv_at hl 0 rfl) ?_
  refine va_slen hx hb hX hbl hbA hS dL_cell_2 ?_
  refine lv_icmp_ge (tgt := 12) hx hb dL_cell_3 (by decide) (fun c_3 => ?_) (fun c_3 => ?_)
  · refine lv_ldc (v := (2144462291 : Int32)) hx hb hown (hts (.constant RL 7 (2144462291)) (by decide +kernel)) dL_cell_12 ?_
    refine lv_iload_n hx hb dL_cell_14 rfl (lv_at hl 1 rfl) ?_
    refine lv_sipush (v := (1453 : Int32)) hx hb dL_cell_15 (by decide) ?_
    refine lv_iadd hx hb dL_cell_18 ?_
    refine lv_imul hx hb dL_cell_19 ?_
    exact hret _ _ _ _ _ dL_cell_20 rfl hS
  · refine lv_aload_n hx hb dL_cell_6 rfl (lv_at hl 0 rfl) ?_
    refine lv_iload_n hx hb dL_cell_7 rfl (lv_at hl 1 rfl) ?_
    refine va_sld hx hb hX hbl hbA hS (vp_in_nI (n := k) (by have := zofL hL c_3; omega) (by omega)) dL_cell_8 ?_
    refine lv_goto (tgt := 20) hx hb dL_cell_9 (by decide) ?_
    exact hret _ _ _ _ _ dL_cell_20 rfl hS
theorem zand_nn (x : Int32) : ¬ (x &&& (2147483647 : Int32)) < 0 := by
  rw [Int32.lt_iff_toInt_lt]
  have h0 : (0 : Int32).toInt = 0 := by decide
  have h1 : (x &&& (2147483647 : Int32)).toBitVec.msb = false := by
    rw [Int32.toBitVec_and, BitVec.msb_and, show (2147483647 : Int32).toBitVec.msb = false by decide, Bool.and_false]
  have h2 : 0 ≤ (x &&& (2147483647 : Int32)).toBitVec.toInt := BitVec.toInt_nonneg_of_msb_false h1
  have h3 : (x &&& (2147483647 : Int32)).toInt = (x &&& (2147483647 : Int32)).toBitVec.toInt := rfl
  omega
theorem zup_nI (x N : Int32) {n : Nat} (hN : N = nI n) (h0 : 0 < n) (hn : n < 2 ^ 31) : ∃ j, j < n ∧ f_L_up x N = nI j := by
  obtain ⟨j, hj, e⟩ := nI_of (zand_nn x)
  subst hN
  refine ⟨j % n, Nat.mod_lt _ h0, ?_⟩
  show (x &&& (2147483647 : Int32)) - ((x &&& (2147483647 : Int32)) / nI n) * nI n = _
  rw [e, pk_rem hj h0 hn]
theorem zupin (x N : Int32) {n : Nat} (hN : N = nI n) (h0 : 0 < n) (hn : n < 2 ^ 31) : vp_in (f_L_up x N) n := by
  obtain ⟨j, hj, e⟩ := zup_nI x N hN h0 hn
  rw [e]
  exact vp_in_nI hj hn
theorem zup1 (x N : Int32) {n : Nat} (hN : N = nI n) (h0 : 0 < n) (hn : n < 2 ^ 30) : ∃ j, 1 ≤ j ∧ j ≤ n ∧ (1 : Int32) + f_L_up x N = nI j := by
  obtain ⟨j, hj, e⟩ := zup_nI x N hN h0 (by omega)
  exact ⟨1 + j, by omega, by omega, by rw [e, show (1 : Int32) = nI 1 from rfl, nI_add]⟩
theorem zup2 (x N : Int32) {n : Nat} (hN : N = nI n) (h0 : 0 < n) (hn : n < 2 ^ 30) : 1 ≤ ((1 : Int32) + f_L_up x N).toInt ∧ ((1 : Int32) + f_L_up x N).toInt ≤ (n : Int) := by
  obtain ⟨j, h1, h2, e⟩ := zup1 x N hN h0 hn
  rw [e, nI_toInt (by omega)]
  omega
theorem zw3 {w : Int32} (h : vp_in w 4) (h0 : ¬ w = (0 : Int32)) (h1 : ¬ w = (1 : Int32)) (h2 : ¬ w = (2 : Int32)) : w = (3 : Int32) := by
  obtain ⟨j, hj, rfl⟩ := vp_in_of h (by omega)
  rcases (show j = 0 ∨ j = 1 ∨ j = 2 ∨ j = 3 by omega) with rfl | rfl | rfl | rfl
  · exact absurd rfl h0
  · exact absurd rfl h1
  · exact absurd rfl h2
  · rfl
theorem z18 {w : Int32} (h : vp_in w 18) : ∃ j, j < 18 ∧ w = nI j := vp_in_of h (by omega)
