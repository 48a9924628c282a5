abbrev rm_X6_in : Room := { frames := 0, cells := 0, slots := 0, locals := 0 }
def f_X6_in (p0 : Int64) (p1 : Int64) (p2 : Int64) : Int32 := if (lg_cmp p0 p1) < (0 : Int32) then ((0 : Int32)) else (if (0 : Int32) < (lg_cmp p0 p2) then ((0 : Int32)) else ((1 : Int32)))
set_option maxRecDepth 100000 in
set_option maxHeartbeats 4000000 in
theorem m_X6_in (l : Launch) (g : zG) (p0 : Int64) (p1 : Int64) (p2 : Int64) : ZI l yX6_in wsX6_in rm_X6_in g [] [.long p0, .long p1, .long p2] (f_X6_in p0 p1 p2) [] := by
  refine zopenI (cc := cX6_in) (maxL := 6) (ret := .boolean) (by decide +kernel) rfl (Nat.le_of_ble_eq_true rfl) ?_
  intro p e s m below meth c A Q ls hx hb hml hown hts hP hK hD hA hN hl hret
  have hS : va_S A s.heap s.heap [] := va_S.rf
  have hl : lv_has ls 6 [(0, .long p0), (2, .long p1), (4, .long p2)] := hl
  have hown : s.vm.findClass RX6 = some m.cls := hown
  refine lv_lload_n hx hb dX6_in_0 rfl (lv_at hl 0 rfl) ?_
  refine lv_lload_n hx hb dX6_in_1 rfl (lv_at hl 1 rfl) ?_
  refine W.lcmp hx hb dX6_in_2 ?_
  refine lv_if_lt (tgt := 17) hx hb dX6_in_3 (by decide) (fun c_3 => ?_) (fun c_3 => ?_)
  · refine lv_iconst (v := (0 : Int32)) hx hb dX6_in_17 (by decide) ?_
    have E : (f_X6_in p0 p1 p2) = (0 : Int32) := (if_pos c_3).trans rfl
    exact hret _ _ _ _ _ _ dX6_in_18 E.symm (rfl) rfl hP hD hS
  · refine lv_lload_n hx hb dX6_in_6 rfl (lv_at hl 0 rfl) ?_
    refine lv_lload hx hb dX6_in_7 (lv_at hl 2 rfl) ?_
    refine W.lcmp hx hb dX6_in_9 ?_
    refine lv_if_gt (tgt := 17) hx hb dX6_in_10 (by decide) (fun c_10 => ?_) (fun c_10 => ?_)
    · refine lv_iconst (v := (0 : Int32)) hx hb dX6_in_17 (by decide) ?_
      have E : (f_X6_in p0 p1 p2) = (0 : Int32) := (if_neg c_3).trans ((if_pos c_10).trans rfl)
      exact hret _ _ _ _ _ _ dX6_in_18 E.symm (rfl) rfl hP hD hS
    · refine lv_iconst (v := (1 : Int32)) hx hb dX6_in_13 (by decide) ?_
      refine lv_goto (tgt := 18) hx hb dX6_in_14 (by decide) ?_
      have E : (f_X6_in p0 p1 p2) = (1 : Int32) := (if_neg c_3).trans ((if_neg c_10).trans rfl)
      exact hret _ _ _ _ _ _ dX6_in_18 E.symm (rfl) rfl hP hD hS
theorem znar_in {a b c : Int64} : narrow .boolean (.int (f_X6_in a b c)) = .int (f_X6_in a b c) := by
  unfold f_X6_in
  repeat' split
  all_goals rfl
abbrev rm_X6_isRow : Room := { frames := 1, cells := 0, slots := 0, locals := 25 }
def f_X6_isRow (p0 : Int32) : Int32 := (f_X6_in (p0.toInt64) (0 : Int64) (15 : Int64))
set_option maxRecDepth 100000 in
set_option maxHeartbeats 4000000 in
theorem m_X6_isRow (l : Launch) (g : zG) (p0 : Int32) : ZI l yX6_isRow wsX6_isRow rm_X6_isRow g [] [.int p0] (f_X6_isRow p0) [] := by
  refine zopenI (cc := cX6_isRow) (maxL := 1) (ret := .boolean) (by decide +kernel) rfl (Nat.le_of_ble_eq_true rfl) ?_
  intro p e s m below meth c A Q ls hx hb hml hown hts hP hK hD hA hN hl hret
  have hS : va_S A s.heap s.heap [] := va_S.rf
  have hl : lv_has ls 1 [(0, .int p0)] := hl
  have hown : s.vm.findClass RX6 = some m.cls := hown
  refine lv_iload_n hx hb dX6_isRow_0 rfl (lv_at hl 0 rfl) ?_
  refine lv_i2l hx hb dX6_isRow_1 rfl ?_
  refine lv_lconst (v := (0 : Int64)) hx hb dX6_isRow_2 (by decide) ?_
  refine lv_ldc2 (v := (15 : Int64)) hx hb hown (hts (.constantLong RX6 38 (15)) (by decide +kernel)) dX6_isRow_3 ?_
  refine zcSi (n := 3) (As := [.long (p0.toInt64), .long (0 : Int64), .long (15 : Int64)]) (rest := []) hx hb hml hown hts hN (m_X6_in l g (p0.toInt64) (0 : Int64) (15 : Int64)) gX6_isRow_X6_in rfl (by decide +kernel) ⟨rfl, rfl⟩ ⟨Nat.le_of_ble_eq_true rfl, Nat.le_of_ble_eq_true rfl⟩ hK hP hD hS hA rfl hl.1 rfl (Nat.le_of_ble_eq_true rfl) dX6_isRow_6 ⟨Nat.zero_le _, Nat.zero_le _⟩ (fun H locs hP hD hS => ?_)
  have E : (f_X6_isRow p0) = (f_X6_in (p0.toInt64) (0 : Int64) (15 : Int64)) := rfl
  exact hret _ _ _ _ _ _ dX6_isRow_9 E.symm (znar_in) rfl hP hD hS
abbrev rm_X6_isPlace : Room := { frames := 1, cells := 0, slots := 0, locals := 25 }
def f_X6_isPlace (p0 : Int32) : Int32 := (f_X6_in (p0.toInt64) (0 : Int64) (5 : Int64))
set_option maxRecDepth 100000 in
set_option maxHeartbeats 4000000 in
theorem m_X6_isPlace (l : Launch) (g : zG) (p0 : Int32) : ZI l yX6_isPlace wsX6_isPlace rm_X6_isPlace g [] [.int p0] (f_X6_isPlace p0) [] := by
  refine zopenI (cc := cX6_isPlace) (maxL := 1) (ret := .boolean) (by decide +kernel) rfl (Nat.le_of_ble_eq_true rfl) ?_
  intro p e s m below meth c A Q ls hx hb hml hown hts hP hK hD hA hN hl hret
  have hS : va_S A s.heap s.heap [] := va_S.rf
  have hl : lv_has ls 1 [(0, .int p0)] := hl
  have hown : s.vm.findClass RX6 = some m.cls := hown
  refine lv_iload_n hx hb dX6_isPlace_0 rfl (lv_at hl 0 rfl) ?_
  refine lv_i2l hx hb dX6_isPlace_1 rfl ?_
  refine lv_lconst (v := (0 : Int64)) hx hb dX6_isPlace_2 (by decide) ?_
  refine lv_ldc2 (v := (5 : Int64)) hx hb hown (hts (.constantLong RX6 44 (5)) (by decide +kernel)) dX6_isPlace_3 ?_
  refine zcSi (n := 3) (As := [.long (p0.toInt64), .long (0 : Int64), .long (5 : Int64)]) (rest := []) hx hb hml hown hts hN (m_X6_in l g (p0.toInt64) (0 : Int64) (5 : Int64)) gX6_isPlace_X6_in rfl (by decide +kernel) ⟨rfl, rfl⟩ ⟨Nat.le_of_ble_eq_true rfl, Nat.le_of_ble_eq_true rfl⟩ hK hP hD hS hA rfl hl.1 rfl (Nat.le_of_ble_eq_true rfl) dX6_isPlace_6 ⟨Nat.zero_le _, Nat.zero_le _⟩ (fun H locs hP hD hS => ?_)
  have E : (f_X6_isPlace p0) = (f_X6_in (p0.toInt64) (0 : Int64) (5 : Int64)) := rfl
  exact hret _ _ _ _ _ _ dX6_isPlace_9 E.symm (znar_in) rfl hP hD hS
abbrev rm_X6_at : Room := { frames := 0, cells := 0, slots := 0, locals := 0 }
def f_X6_at (p0 : Int32) (p1 : Int32) : Int32 := (((40 : Int32) + ((6 : Int32) * p0)) + p1)
set_option maxRecDepth 100000 in
set_option maxHeartbeats 4000000 in
theorem m_X6_at (l : Launch) (g : zG) (p0 : Int32) (p1 : Int32) : ZI l yX6_at wsX6_at rm_X6_at g [] [.int p0, .int p1] (f_X6_at p0 p1) [] := by
  refine zopenI (cc := cX6_at) (maxL := 2) (ret := .int) (by decide +kernel) rfl (Nat.le_of_ble_eq_true rfl) ?_
  intro p e s m below meth c A Q ls hx hb hml hown hts hP hK hD hA hN hl hret
  have hS : va_S A s.heap s.heap [] := va_S.rf
  have hl : lv_has ls 2 [(0, .int p0), (1, .int p1)] := hl
  have hown : s.vm.findClass RX6 = some m.cls := hown
  refine lv_bipush (v := (40 : Int32)) hx hb dX6_at_0 (by decide) ?_
  refine lv_bipush (v := (6 : Int32)) hx hb dX6_at_2 (by decide) ?_
  refine lv_iload_n hx hb dX6_at_4 rfl (lv_at hl 0 rfl) ?_
  refine lv_imul hx hb dX6_at_5 ?_
  refine lv_iadd hx hb dX6_at_6 ?_
  refine lv_iload_n hx hb dX6_at_7 rfl (lv_at hl 1 rfl) ?_
  refine lv_iadd hx hb dX6_at_8 ?_
  have E : (f_X6_at p0 p1) = (((40 : Int32) + ((6 : Int32) * p0)) + p1) := rfl
  exact hret _ _ _ _ _ _ dX6_at_9 E.symm (rfl) rfl hP hD hS
theorem zin_at {x y : Int32} (hx : vp_in x 16) (hy : vp_in y 6) : vp_in (f_X6_at x y) 136 := by
  obtain ⟨r, hr, rfl⟩ := vp_in_of hx (by omega)
  obtain ⟨k, hk, rfl⟩ := vp_in_of hy (by omega)
  unfold f_X6_at
  rw [show (6 : Int32) = nI 6 from rfl, show (40 : Int32) = nI 40 from rfl, pk_mul, nI_add, nI_add]
  exact vp_in_nI (by omega) (by omega)
abbrev rm_X6_hasPeg : Room := { frames := 1, cells := 0, slots := 0, locals := 21 }
set_option maxRecDepth 20000 in
theorem zin_X6_hasPeg_X6 : ∀ w ∈ wsX60, w ∈ wsX6_hasPeg := by decide +kernel
def f_X6_hasPeg (v : zCV) (p0 : Int32) (p1 : Int32) : Int32 := if ((v.2 0) (f_X6_at p0 p1).toNatClampNeg) = (-6 : Int32) then ((0 : Int32)) else ((1 : Int32))
set_option maxRecDepth 100000 in
set_option maxHeartbeats 4000000 in
theorem m_X6_hasPeg (l : Launch) (g : zG) (q : Nat → Nat) (v : zCV) (p0 : Int32) (p1 : Int32) (h0 : vp_in p0 16) (h1 : vp_in p1 6) : ZI l yX6_hasPeg wsX6_hasPeg rm_X6_hasPeg g (mo g q v) [.ref (q 0), .int p0, .int p1] (f_X6_hasPeg v p0 p1) (mo g q v) := by
  refine zopenI (cc := cX6_hasPeg) (maxL := 3) (ret := .boolean) (by decide +kernel) rfl (Nat.le_of_ble_eq_true rfl) ?_
  intro p e s m below meth c A Q ls hx hb hml hown hts hP hK hD hA hN hl hret
  have hS : va_S A s.heap s.heap [] := va_S.rf
  have hl : lv_has ls 3 [(0, .ref (q 0)), (1, .int p0), (2, .int p1)] := hl
  have hown : s.vm.findClass RX6 = some m.cls := hown
  refine lv_aload_n hx hb dX6_hasPeg_0 rfl (lv_at hl 0 rfl) ?_
  refine va_get (D := g.1) (ci := 6) (v := .ref (q 1)) (C := RX6) (T := TX6) (N := 12) hx hb hts (zin_X6_hasPeg_X6) hown hK hP 0 rfl rfl 0 (by decide) (hts (.fieldLink RX6 7 "PegClerksModel" "all" "[I") (by decide +kernel)) (fun _ h9 => h9) rfl dX6_hasPeg_1 ?_
  refine lv_iload_n hx hb dX6_hasPeg_4 rfl (lv_at hl 1 rfl) ?_
  refine lv_iload_n hx hb dX6_hasPeg_5 rfl (lv_at hl 2 rfl) ?_
  refine zcSi (n := 2) (As := [.int p0, .int p1]) (rest := [.ref (q 1)]) hx hb hml hown hts hN (m_X6_at l g p0 p1) gX6_hasPeg_X6_at rfl (by decide +kernel) ⟨rfl, rfl⟩ ⟨Nat.le_of_ble_eq_true rfl, Nat.le_of_ble_eq_true rfl⟩ hK hP hD hS hA rfl hl.1 rfl (Nat.le_of_ble_eq_true rfl) dX6_hasPeg_6 ⟨Nat.zero_le _, Nat.zero_le _⟩ (fun H locs hP hD hS => ?_)
  refine z_iald (f := (v.2 0)) (k := (f_X6_at p0 p1).toNatClampNeg) hx hb hK hP 1 0 rfl rfl (zin_at h0 h1) rfl dX6_hasPeg_9 ?_
  refine lv_bipush (v := (-6 : Int32)) hx hb dX6_hasPeg_10 (by decide) ?_
  refine lv_icmp_eq (tgt := 19) hx hb dX6_hasPeg_12 (by decide) (fun c_12 => ?_) (fun c_12 => ?_)
  · refine lv_iconst (v := (0 : Int32)) hx hb dX6_hasPeg_19 (by decide) ?_
    have E : (f_X6_hasPeg v p0 p1) = (0 : Int32) := (if_pos c_12).trans rfl
    exact hret _ _ _ _ _ _ dX6_hasPeg_20 E.symm (rfl) rfl hP hD hS
  · refine lv_iconst (v := (1 : Int32)) hx hb dX6_hasPeg_15 (by decide) ?_
    refine lv_goto (tgt := 20) hx hb dX6_hasPeg_16 (by decide) ?_
    have E : (f_X6_hasPeg v p0 p1) = (1 : Int32) := (if_neg c_12).trans rfl
    exact hret _ _ _ _ _ _ dX6_hasPeg_20 E.symm (rfl) rfl hP hD hS
abbrev rm_X6_pegsIn : Room := { frames := 2, cells := 0, slots := 0, locals := 43 }
def r_X6_pegsIn_14 (v : zCV) (p0 : Int32) (i4 : Nat) : Int32 := (f_X6_hasPeg v p0 (nI i4))
def f_X6_pegsIn_L4 (v : zCV) (p0 : Int32) : Nat → Nat → Int32 → Int32
  | 0, i4, x4_2 => x4_2
  | n4 + 1, i4, x4_2 => if (r_X6_pegsIn_14 v p0 i4) = (0 : Int32) then ((f_X6_pegsIn_L4 v p0 n4 (i4 + 1) (x4_2 + (0 : Int32)))) else ((f_X6_pegsIn_L4 v p0 n4 (i4 + 1) (x4_2 + (1 : Int32))))
def f_X6_pegsIn (v : zCV) (p0 : Int32) : Int32 := (f_X6_pegsIn_L4 v p0 (zfu 6) 0 (0 : Int32))
set_option maxRecDepth 100000 in
set_option maxHeartbeats 4000000 in
theorem m_X6_pegsIn (l : Launch) (g : zG) (q : Nat → Nat) (v : zCV) (p0 : Int32) (h0 : vp_in p0 16) : ZI l yX6_pegsIn wsX6_pegsIn rm_X6_pegsIn g (mo g q v) [.ref (q 0), .int p0] (f_X6_pegsIn v p0) (mo g q v) := by
  refine zopenI (cc := cX6_pegsIn) (maxL := 4) (ret := .int) (by decide +kernel) rfl (Nat.le_of_ble_eq_true rfl) ?_
  intro p e s m below meth c A Q ls hx hb hml hown hts hP hK hD hA hN hl hret
  have hS : va_S A s.heap s.heap [] := va_S.rf
  have hl : lv_has ls 4 [(0, .ref (q 0)), (1, .int p0)] := hl
  have hown : s.vm.findClass RX6 = some m.cls := hown
  refine lv_iconst (v := (0 : Int32)) hx hb dX6_pegsIn_0 (by decide) ?_
  refine lv_istore_n (lv' := [(2, .int (0 : Int32)), (0, .ref (q 0)), (1, .int p0)]) hx hb dX6_pegsIn_1 rfl hl (by decide) rfl (fun ls hl => ?_)
  refine lv_iconst (v := (0 : Int32)) hx hb dX6_pegsIn_2 (by decide) ?_
  refine lv_istore_n (lv' := [(3, .int (0 : Int32)), (2, .int (0 : Int32)), (0, .ref (q 0)), (1, .int p0)]) hx hb dX6_pegsIn_3 rfl hl (by decide) rfl (fun ls hl => ?_)
  have L4 : ∀ (n4 : Nat) (i4 : Nat), i4 + n4 = 6 → ∀ (x4_2 : Int32) (H : Heap) (locs : List Loc) (ls : Array Slot), va_P g.1 vwCl (mo g q v) H → va_D A (mo g q v) → va_S A s.heap H locs → lv_has ls 4 [(3, .int (nI i4)), (2, .int x4_2), (0, .ref (q 0)), (1, .int p0)] → (∀ (H : Heap) (locs : List Loc) (ls : Array Slot), va_P g.1 vwCl (mo g q v) H → va_D A (mo g q v) → va_S A s.heap H locs → lv_has ls 4 [(2, .int (f_X6_pegsIn_L4 v p0 n4 i4 x4_2)), (0, .ref (q 0)), (1, .int p0)] → W p l e rm_X6_pegsIn s m ([.ref (q 0), .int p0] : List Value).toArray below meth c H locs 0 0 Q (F0 m 33 ls [])) → W p l e rm_X6_pegsIn s m ([.ref (q 0), .int p0] : List Value).toArray below meth c H locs 0 0 Q (F0 m 4 ls []) := by
    intro n4
    induction n4 with
    | zero =>
      intro i4 hin4 x4_2 H locs ls hP hD hS hl kx
      refine lv_iload_n hx hb dX6_pegsIn_4 rfl (lv_at hl 0 rfl) ?_
      refine lv_bipush (v := (6 : Int32)) hx hb dX6_pegsIn_5 (by decide) ?_
      refine lv_icmp_ge (tgt := 33) hx hb dX6_pegsIn_7 (by decide) (fun c_7 => ?_) (fun c_7 => ?_)
      rotate_left
      · exact absurd (by rw [show i4 = 6 by omega]; decide) c_7
      have E : (f_X6_pegsIn_L4 v p0 0 i4 x4_2) = x4_2 := rfl
      rw [E] at kx
      exact kx _ _ _ hP hD hS (lv_sub hl [1, 2, 3] rfl)
    | succ n4 ih4 =>
      intro i4 hin4 x4_2 H locs ls hP hD hS hl kx
      refine lv_iload_n hx hb dX6_pegsIn_4 rfl (lv_at hl 0 rfl) ?_
      refine lv_bipush (v := (6 : Int32)) hx hb dX6_pegsIn_5 (by decide) ?_
      refine lv_icmp_ge (tgt := 33) hx hb dX6_pegsIn_7 (by decide) (fun c_7 => ?_) (fun c_7 => ?_)
      · exact absurd c_7 (nI_ge (a := i4) (b := 6) (by omega) (by omega))
      refine lv_iload_n hx hb dX6_pegsIn_10 rfl (lv_at hl 1 rfl) ?_
      refine lv_aload_n hx hb dX6_pegsIn_11 rfl (lv_at hl 2 rfl) ?_
      refine lv_iload_n hx hb dX6_pegsIn_12 rfl (lv_at hl 3 rfl) ?_
      refine lv_iload_n hx hb dX6_pegsIn_13 rfl (lv_at hl 0 rfl) ?_
      refine zcVi (n := 2) (As := [.int p0, .int (nI i4)]) (rest := [.int x4_2]) (Xr := []) (Xn := (mo g q v)) (ci := 6) (C := RX6) (T := TX6) (N := 12) (q0 := 0) hx hb hml hown hts hN (m_X6_hasPeg l g q v p0 (nI i4) h0 (vp_in_nI (by omega) (by omega))) gX6_pegsIn_X6_hasPeg rfl (by decide +kernel) ⟨rfl, rfl⟩ ⟨Nat.le_of_ble_eq_true rfl, Nat.le_of_ble_eq_true rfl⟩ hK hP hD hS hA (zpn _) rfl rfl rfl hl.1 rfl (Nat.le_of_ble_eq_true rfl) dX6_pegsIn_14 ⟨Nat.zero_le _, Nat.zero_le _⟩ (zpn' _) (fun H locs hP hD hS => ?_)
      refine lv_if_eq (tgt := 24) hx hb dX6_pegsIn_17 (by decide) (fun c_17 => ?_) (fun c_17 => ?_)
      · refine lv_iconst (v := (0 : Int32)) hx hb dX6_pegsIn_24 (by decide) ?_
        refine lv_iadd hx hb dX6_pegsIn_25 ?_
        refine lv_istore_n (lv' := [(2, .int (x4_2 + (0 : Int32))), (3, .int (nI i4)), (0, .ref (q 0)), (1, .int p0)]) hx hb dX6_pegsIn_26 rfl hl (by decide) rfl (fun ls hl => ?_)
        refine lv_iinc (v := (nI (i4 + 1))) (lv' := [(3, .int (nI (i4 + 1))), (2, .int (x4_2 + (0 : Int32))), (0, .ref (q 0)), (1, .int p0)]) hx hb dX6_pegsIn_27 hl (k := 1) rfl (nI_1 i4) (by decide) rfl (fun ls hl => ?_)
        refine lv_goto (tgt := 4) hx hb dX6_pegsIn_30 (by decide) ?_
        have E : (f_X6_pegsIn_L4 v p0 (n4 + 1) i4 x4_2) = (f_X6_pegsIn_L4 v p0 n4 (i4 + 1) (x4_2 + (0 : Int32))) := (if_pos c_17).trans rfl
        rw [E] at kx
        exact ih4 (i4 + 1) (by omega) (x4_2 + (0 : Int32)) _ _ _  hP hD hS (lv_sub hl [0, 1, 2, 3] rfl) kx
      · refine lv_iconst (v := (1 : Int32)) hx hb dX6_pegsIn_20 (by decide) ?_
        refine lv_goto (tgt := 25) hx hb dX6_pegsIn_21 (by decide) ?_
        refine lv_iadd hx hb dX6_pegsIn_25 ?_
        refine lv_istore_n (lv' := [(2, .int (x4_2 + (1 : Int32))), (3, .int (nI i4)), (0, .ref (q 0)), (1, .int p0)]) hx hb dX6_pegsIn_26 rfl hl (by decide) rfl (fun ls hl => ?_)
        refine lv_iinc (v := (nI (i4 + 1))) (lv' := [(3, .int (nI (i4 + 1))), (2, .int (x4_2 + (1 : Int32))), (0, .ref (q 0)), (1, .int p0)]) hx hb dX6_pegsIn_27 hl (k := 1) rfl (nI_1 i4) (by decide) rfl (fun ls hl => ?_)
        refine lv_goto (tgt := 4) hx hb dX6_pegsIn_30 (by decide) ?_
        have E : (f_X6_pegsIn_L4 v p0 (n4 + 1) i4 x4_2) = (f_X6_pegsIn_L4 v p0 n4 (i4 + 1) (x4_2 + (1 : Int32))) := (if_neg c_17).trans rfl
        rw [E] at kx
        exact ih4 (i4 + 1) (by omega) (x4_2 + (1 : Int32)) _ _ _  hP hD hS (lv_sub hl [0, 1, 2, 3] rfl) kx
  refine L4 (zfu 6) 0 (by rw [zfu_eq]) (0 : Int32) _ _ _  hP hD hS (lv_sub hl [0, 1, 2, 3] rfl) (fun H locs ls hP hD hS hl => ?_)
  refine lv_iload_n hx hb dX6_pegsIn_33 rfl (lv_at hl 0 rfl) ?_
  have E : (f_X6_pegsIn v p0) = (f_X6_pegsIn_L4 v p0 (zfu 6) 0 (0 : Int32)) := rfl
  exact hret _ _ _ _ _ _ dX6_pegsIn_34 E.symm (rfl) rfl hP hD hS
abbrev rm_X6_setIn : Room := { frames := 2, cells := 0, slots := 0, locals := 43 }
def r_X6_setIn_14 (v : zCV) (p0 : Int32) (i4 : Nat) : Int32 := (f_X6_hasPeg v p0 (nI i4))
def f_X6_setIn_L4 (v : zCV) (p0 : Int32) : Nat → Nat → Int32 → Int32
  | 0, i4, x4_2 => x4_2
  | n4 + 1, i4, x4_2 => if (r_X6_setIn_14 v p0 i4) = (0 : Int32) then ((f_X6_setIn_L4 v p0 n4 (i4 + 1) (x4_2 ||| (0 : Int32)))) else ((f_X6_setIn_L4 v p0 n4 (i4 + 1) (x4_2 ||| ((1 : Int32) <<< ((nI i4) &&& 31)))))
def f_X6_setIn (v : zCV) (p0 : Int32) : Int32 := (f_X6_setIn_L4 v p0 (zfu 6) 0 (0 : Int32))
set_option maxRecDepth 100000 in
set_option maxHeartbeats 4000000 in
theorem m_X6_setIn (l : Launch) (g : zG) (q : Nat → Nat) (v : zCV) (p0 : Int32) (h0 : vp_in p0 16) : ZI l yX6_setIn wsX6_setIn rm_X6_setIn g (mo g q v) [.ref (q 0), .int p0] (f_X6_setIn v p0) (mo g q v) := by
  refine zopenI (cc := cX6_setIn) (maxL := 4) (ret := .int) (by decide +kernel) rfl (Nat.le_of_ble_eq_true rfl) ?_
  intro p e s m below meth c A Q ls hx hb hml hown hts hP hK hD hA hN hl hret
  have hS : va_S A s.heap s.heap [] := va_S.rf
  have hl : lv_has ls 4 [(0, .ref (q 0)), (1, .int p0)] := hl
  have hown : s.vm.findClass RX6 = some m.cls := hown
  refine lv_iconst (v := (0 : Int32)) hx hb dX6_setIn_0 (by decide) ?_
  refine lv_istore_n (lv' := [(2, .int (0 : Int32)), (0, .ref (q 0)), (1, .int p0)]) hx hb dX6_setIn_1 rfl hl (by decide) rfl (fun ls hl => ?_)
  refine lv_iconst (v := (0 : Int32)) hx hb dX6_setIn_2 (by decide) ?_
  refine lv_istore_n (lv' := [(3, .int (0 : Int32)), (2, .int (0 : Int32)), (0, .ref (q 0)), (1, .int p0)]) hx hb dX6_setIn_3 rfl hl (by decide) rfl (fun ls hl => ?_)
  have L4 : ∀ (n4 : Nat) (i4 : Nat), i4 + n4 = 6 → ∀ (x4_2 : Int32) (H : Heap) (locs : List Loc) (ls : Array Slot), va_P g.1 vwCl (mo g q v) H → va_D A (mo g q v) → va_S A s.heap H locs → lv_has ls 4 [(3, .int (nI i4)), (2, .int x4_2), (0, .ref (q 0)), (1, .int p0)] → (∀ (H : Heap) (locs : List Loc) (ls : Array Slot), va_P g.1 vwCl (mo g q v) H → va_D A (mo g q v) → va_S A s.heap H locs → lv_has ls 4 [(2, .int (f_X6_setIn_L4 v p0 n4 i4 x4_2)), (0, .ref (q 0)), (1, .int p0)] → W p l e rm_X6_setIn s m ([.ref (q 0), .int p0] : List Value).toArray below meth c H locs 0 0 Q (F0 m 35 ls [])) → W p l e rm_X6_setIn s m ([.ref (q 0), .int p0] : List Value).toArray below meth c H locs 0 0 Q (F0 m 4 ls []) := by
    intro n4
    induction n4 with
    | zero =>
      intro i4 hin4 x4_2 H locs ls hP hD hS hl kx
      refine lv_iload_n hx hb dX6_setIn_4 rfl (lv_at hl 0 rfl) ?_
      refine lv_bipush (v := (6 : Int32)) hx hb dX6_setIn_5 (by decide) ?_
      refine lv_icmp_ge (tgt := 35) hx hb dX6_setIn_7 (by decide) (fun c_7 => ?_) (fun c_7 => ?_)
      rotate_left
      · exact absurd (by rw [show i4 = 6 by omega]; decide) c_7
      have E : (f_X6_setIn_L4 v p0 0 i4 x4_2) = x4_2 := rfl
      rw [E] at kx
      exact kx _ _ _ hP hD hS (lv_sub hl [1, 2, 3] rfl)
    | succ n4 ih4 =>
      intro i4 hin4 x4_2 H locs ls hP hD hS hl kx
      refine lv_iload_n hx hb dX6_setIn_4 rfl (lv_at hl 0 rfl) ?_
      refine lv_bipush (v := (6 : Int32)) hx hb dX6_setIn_5 (by decide) ?_
      refine lv_icmp_ge (tgt := 35) hx hb dX6_setIn_7 (by decide) (fun c_7 => ?_) (fun c_7 => ?_)
      · exact absurd c_7 (nI_ge (a := i4) (b := 6) (by omega) (by omega))
      refine lv_iload_n hx hb dX6_setIn_10 rfl (lv_at hl 1 rfl) ?_
      refine lv_aload_n hx hb dX6_setIn_11 rfl (lv_at hl 2 rfl) ?_
      refine lv_iload_n hx hb dX6_setIn_12 rfl (lv_at hl 3 rfl) ?_
      refine lv_iload_n hx hb dX6_setIn_13 rfl (lv_at hl 0 rfl) ?_
      refine zcVi (n := 2) (As := [.int p0, .int (nI i4)]) (rest := [.int x4_2]) (Xr := []) (Xn := (mo g q v)) (ci := 6) (C := RX6) (T := TX6) (N := 12) (q0 := 0) hx hb hml hown hts hN (m_X6_hasPeg l g q v p0 (nI i4) h0 (vp_in_nI (by omega) (by omega))) gX6_setIn_X6_hasPeg rfl (by decide +kernel) ⟨rfl, rfl⟩ ⟨Nat.le_of_ble_eq_true rfl, Nat.le_of_ble_eq_true rfl⟩ hK hP hD hS hA (zpn _) rfl rfl rfl hl.1 rfl (Nat.le_of_ble_eq_true rfl) dX6_setIn_14 ⟨Nat.zero_le _, Nat.zero_le _⟩ (zpn' _) (fun H locs hP hD hS => ?_)
      refine lv_if_eq (tgt := 26) hx hb dX6_setIn_17 (by decide) (fun c_17 => ?_) (fun c_17 => ?_)
      · refine lv_iconst (v := (0 : Int32)) hx hb dX6_setIn_26 (by decide) ?_
        refine lv_ior hx hb dX6_setIn_27 ?_
        refine lv_istore_n (lv' := [(2, .int (x4_2 ||| (0 : Int32))), (3, .int (nI i4)), (0, .ref (q 0)), (1, .int p0)]) hx hb dX6_setIn_28 rfl hl (by decide) rfl (fun ls hl => ?_)
        refine lv_iinc (v := (nI (i4 + 1))) (lv' := [(3, .int (nI (i4 + 1))), (2, .int (x4_2 ||| (0 : Int32))), (0, .ref (q 0)), (1, .int p0)]) hx hb dX6_setIn_29 hl (k := 1) rfl (nI_1 i4) (by decide) rfl (fun ls hl => ?_)
        refine lv_goto (tgt := 4) hx hb dX6_setIn_32 (by decide) ?_
        have E : (f_X6_setIn_L4 v p0 (n4 + 1) i4 x4_2) = (f_X6_setIn_L4 v p0 n4 (i4 + 1) (x4_2 ||| (0 : Int32))) := (if_pos c_17).trans rfl
        rw [E] at kx
        exact ih4 (i4 + 1) (by omega) (x4_2 ||| (0 : Int32)) _ _ _  hP hD hS (lv_sub hl [0, 1, 2, 3] rfl) kx
      · refine lv_iconst (v := (1 : Int32)) hx hb dX6_setIn_20 (by decide) ?_
        refine lv_iload_n hx hb dX6_setIn_21 rfl (lv_at hl 0 rfl) ?_
        refine lv_ishl hx hb dX6_setIn_22 ?_
        refine lv_goto (tgt := 27) hx hb dX6_setIn_23 (by decide) ?_
        refine lv_ior hx hb dX6_setIn_27 ?_
        refine lv_istore_n (lv' := [(2, .int (x4_2 ||| ((1 : Int32) <<< ((nI i4) &&& 31)))), (3, .int (nI i4)), (0, .ref (q 0)), (1, .int p0)]) hx hb dX6_setIn_28 rfl hl (by decide) rfl (fun ls hl => ?_)
        refine lv_iinc (v := (nI (i4 + 1))) (lv' := [(3, .int (nI (i4 + 1))), (2, .int (x4_2 ||| ((1 : Int32) <<< ((nI i4) &&& 31)))), (0, .ref (q 0)), (1, .int p0)]) hx hb dX6_setIn_29 hl (k := 1) rfl (nI_1 i4) (by decide) rfl (fun ls hl => ?_)
        refine lv_goto (tgt := 4) hx hb dX6_setIn_32 (by decide) ?_
        have E : (f_X6_setIn_L4 v p0 (n4 + 1) i4 x4_2) = (f_X6_setIn_L4 v p0 n4 (i4 + 1) (x4_2 ||| ((1 : Int32) <<< ((nI i4) &&& 31)))) := (if_neg c_17).trans rfl
        rw [E] at kx
        exact ih4 (i4 + 1) (by omega) (x4_2 ||| ((1 : Int32) <<< ((nI i4) &&& 31))) _ _ _  hP hD hS (lv_sub hl [0, 1, 2, 3] rfl) kx
  refine L4 (zfu 6) 0 (by rw [zfu_eq]) (0 : Int32) _ _ _  hP hD hS (lv_sub hl [0, 1, 2, 3] rfl) (fun H locs ls hP hD hS hl => ?_)
  refine lv_iload_n hx hb dX6_setIn_35 rfl (lv_at hl 0 rfl) ?_
  have E : (f_X6_setIn v p0) = (f_X6_setIn_L4 v p0 (zfu 6) 0 (0 : Int32)) := rfl
  exact hret _ _ _ _ _ _ dX6_setIn_36 E.symm (rfl) rfl hP hD hS
abbrev rm_X6_pegs : Room := { frames := 3, cells := 0, slots := 0, locals := 66 }
def r_X6_pegs_13 (v : zCV) (i4 : Nat) : Int32 := (f_X6_pegsIn v (nI i4))
def f_X6_pegs_L4 (v : zCV) : Nat → Nat → Int32 → Int32
  | 0, i4, x4_1 => x4_1
  | n4 + 1, i4, x4_1 => (f_X6_pegs_L4 v n4 (i4 + 1) (x4_1 + (r_X6_pegs_13 v i4)))
def f_X6_pegs (v : zCV) : Int32 := (f_X6_pegs_L4 v (zfu 16) 0 (0 : Int32))
set_option maxRecDepth 100000 in
set_option maxHeartbeats 4000000 in
theorem m_X6_pegs (l : Launch) (g : zG) (q : Nat → Nat) (v : zCV) : ZI l yX6_pegs wsX6_pegs rm_X6_pegs g (mo g q v) [.ref (q 0)] (f_X6_pegs v) (mo g q v) := by
  refine zopenI (cc := cX6_pegs) (maxL := 3) (ret := .int) (by decide +kernel) rfl (Nat.le_of_ble_eq_true rfl) ?_
  intro p e s m below meth c A Q ls hx hb hml hown hts hP hK hD hA hN hl hret
  have hS : va_S A s.heap s.heap [] := va_S.rf
  have hl : lv_has ls 3 [(0, .ref (q 0))] := hl
  have hown : s.vm.findClass RX6 = some m.cls := hown
  refine lv_iconst (v := (0 : Int32)) hx hb dX6_pegs_0 (by decide) ?_
  refine lv_istore_n (lv' := [(1, .int (0 : Int32)), (0, .ref (q 0))]) hx hb dX6_pegs_1 rfl hl (by decide) rfl (fun ls hl => ?_)
  refine lv_iconst (v := (0 : Int32)) hx hb dX6_pegs_2 (by decide) ?_
  refine lv_istore_n (lv' := [(2, .int (0 : Int32)), (1, .int (0 : Int32)), (0, .ref (q 0))]) hx hb dX6_pegs_3 rfl hl (by decide) rfl (fun ls hl => ?_)
  have L4 : ∀ (n4 : Nat) (i4 : Nat), i4 + n4 = 16 → ∀ (x4_1 : Int32) (H : Heap) (locs : List Loc) (ls : Array Slot), va_P g.1 vwCl (mo g q v) H → va_D A (mo g q v) → va_S A s.heap H locs → lv_has ls 3 [(2, .int (nI i4)), (1, .int x4_1), (0, .ref (q 0))] → (∀ (H : Heap) (locs : List Loc) (ls : Array Slot), va_P g.1 vwCl (mo g q v) H → va_D A (mo g q v) → va_S A s.heap H locs → lv_has ls 3 [(1, .int (f_X6_pegs_L4 v n4 i4 x4_1)), (0, .ref (q 0))] → W p l e rm_X6_pegs s m ([.ref (q 0)] : List Value).toArray below meth c H locs 0 0 Q (F0 m 24 ls [])) → W p l e rm_X6_pegs s m ([.ref (q 0)] : List Value).toArray below meth c H locs 0 0 Q (F0 m 4 ls []) := by
    intro n4
    induction n4 with
    | zero =>
      intro i4 hin4 x4_1 H locs ls hP hD hS hl kx
      refine lv_iload_n hx hb dX6_pegs_4 rfl (lv_at hl 0 rfl) ?_
      refine lv_bipush (v := (16 : Int32)) hx hb dX6_pegs_5 (by decide) ?_
      refine lv_icmp_ge (tgt := 24) hx hb dX6_pegs_7 (by decide) (fun c_7 => ?_) (fun c_7 => ?_)
      rotate_left
      · exact absurd (by rw [show i4 = 16 by omega]; decide) c_7
      have E : (f_X6_pegs_L4 v 0 i4 x4_1) = x4_1 := rfl
      rw [E] at kx
      exact kx _ _ _ hP hD hS (lv_sub hl [1, 2] rfl)
    | succ n4 ih4 =>
      intro i4 hin4 x4_1 H locs ls hP hD hS hl kx
      refine lv_iload_n hx hb dX6_pegs_4 rfl (lv_at hl 0 rfl) ?_
      refine lv_bipush (v := (16 : Int32)) hx hb dX6_pegs_5 (by decide) ?_
      refine lv_icmp_ge (tgt := 24) hx hb dX6_pegs_7 (by decide) (fun c_7 => ?_) (fun c_7 => ?_)
      · exact absurd c_7 (nI_ge (a := i4) (b := 16) (by omega) (by omega))
      refine lv_iload_n hx hb dX6_pegs_10 rfl (lv_at hl 1 rfl) ?_
      refine lv_aload_n hx hb dX6_pegs_11 rfl (lv_at hl 2 rfl) ?_
      refine lv_iload_n hx hb dX6_pegs_12 rfl (lv_at hl 0 rfl) ?_
      refine zcVi (n := 1) (As := [.int (nI i4)]) (rest := [.int x4_1]) (Xr := []) (Xn := (mo g q v)) (ci := 6) (C := RX6) (T := TX6) (N := 12) (q0 := 0) hx hb hml hown hts hN (m_X6_pegsIn l g q v (nI i4) (vp_in_nI (by omega) (by omega))) gX6_pegs_X6_pegsIn rfl (by decide +kernel) ⟨rfl, rfl⟩ ⟨Nat.le_of_ble_eq_true rfl, Nat.le_of_ble_eq_true rfl⟩ hK hP hD hS hA (zpn _) rfl rfl rfl hl.1 rfl (Nat.le_of_ble_eq_true rfl) dX6_pegs_13 ⟨Nat.zero_le _, Nat.zero_le _⟩ (zpn' _) (fun H locs hP hD hS => ?_)
      refine lv_iadd hx hb dX6_pegs_16 ?_
      refine lv_istore_n (lv' := [(1, .int (x4_1 + (r_X6_pegs_13 v i4))), (2, .int (nI i4)), (0, .ref (q 0))]) hx hb dX6_pegs_17 rfl hl (by decide) rfl (fun ls hl => ?_)
      refine lv_iinc (v := (nI (i4 + 1))) (lv' := [(2, .int (nI (i4 + 1))), (1, .int (x4_1 + (r_X6_pegs_13 v i4))), (0, .ref (q 0))]) hx hb dX6_pegs_18 hl (k := 1) rfl (nI_1 i4) (by decide) rfl (fun ls hl => ?_)
      refine lv_goto (tgt := 4) hx hb dX6_pegs_21 (by decide) ?_
      have E : (f_X6_pegs_L4 v (n4 + 1) i4 x4_1) = (f_X6_pegs_L4 v n4 (i4 + 1) (x4_1 + (r_X6_pegs_13 v i4))) := rfl
      rw [E] at kx
      exact ih4 (i4 + 1) (by omega) (x4_1 + (r_X6_pegs_13 v i4)) _ _ _  hP hD hS (lv_sub hl [0, 1, 2] rfl) kx
  refine L4 (zfu 16) 0 (by rw [zfu_eq]) (0 : Int32) _ _ _  hP hD hS (lv_sub hl [0, 1, 2] rfl) (fun H locs ls hP hD hS hl => ?_)
  refine lv_iload_n hx hb dX6_pegs_24 rfl (lv_at hl 0 rfl) ?_
  have E : (f_X6_pegs v) = (f_X6_pegs_L4 v (zfu 16) 0 (0 : Int32)) := rfl
  exact hret _ _ _ _ _ _ dX6_pegs_25 E.symm (rfl) rfl hP hD hS
abbrev rm_X6_pegsOf : Room := { frames := 2, cells := 0, slots := 0, locals := 43 }
def r_X6_pegsOf_14 (v : zCV) (p0 : Int32) (i4 : Nat) : Int32 := (f_X6_hasPeg v (nI i4) p0)
def f_X6_pegsOf_L4 (v : zCV) (p0 : Int32) : Nat → Nat → Int32 → Int32
  | 0, i4, x4_2 => x4_2
  | n4 + 1, i4, x4_2 => if (r_X6_pegsOf_14 v p0 i4) = (0 : Int32) then ((f_X6_pegsOf_L4 v p0 n4 (i4 + 1) (x4_2 + (0 : Int32)))) else ((f_X6_pegsOf_L4 v p0 n4 (i4 + 1) (x4_2 + (1 : Int32))))
def f_X6_pegsOf (v : zCV) (p0 : Int32) : Int32 := (f_X6_pegsOf_L4 v p0 (zfu 16) 0 (0 : Int32))
set_option maxRecDepth 100000 in
set_option maxHeartbeats 4000000 in
theorem m_X6_pegsOf (l : Launch) (g : zG) (q : Nat → Nat) (v : zCV) (p0 : Int32) (h0 : vp_in p0 6) : ZI l yX6_pegsOf wsX6_pegsOf rm_X6_pegsOf g (mo g q v) [.ref (q 0), .int p0] (f_X6_pegsOf v p0) (mo g q v) := by
  refine zopenI (cc := cX6_pegsOf) (maxL := 4) (ret := .int) (by decide +kernel) rfl (Nat.le_of_ble_eq_true rfl) ?_
  intro p e s m below meth c A Q ls hx hb hml hown hts hP hK hD hA hN hl hret
  have hS : va_S A s.heap s.heap [] := va_S.rf
  have hl : lv_has ls 4 [(0, .ref (q 0)), (1, .int p0)] := hl
  have hown : s.vm.findClass RX6 = some m.cls := hown
  refine lv_iconst (v := (0 : Int32)) hx hb dX6_pegsOf_0 (by decide) ?_
  refine lv_istore_n (lv' := [(2, .int (0 : Int32)), (0, .ref (q 0)), (1, .int p0)]) hx hb dX6_pegsOf_1 rfl hl (by decide) rfl (fun ls hl => ?_)
  refine lv_iconst (v := (0 : Int32)) hx hb dX6_pegsOf_2 (by decide) ?_
  refine lv_istore_n (lv' := [(3, .int (0 : Int32)), (2, .int (0 : Int32)), (0, .ref (q 0)), (1, .int p0)]) hx hb dX6_pegsOf_3 rfl hl (by decide) rfl (fun ls hl => ?_)
  have L4 : ∀ (n4 : Nat) (i4 : Nat), i4 + n4 = 16 → ∀ (x4_2 : Int32) (H : Heap) (locs : List Loc) (ls : Array Slot), va_P g.1 vwCl (mo g q v) H → va_D A (mo g q v) → va_S A s.heap H locs → lv_has ls 4 [(3, .int (nI i4)), (2, .int x4_2), (0, .ref (q 0)), (1, .int p0)] → (∀ (H : Heap) (locs : List Loc) (ls : Array Slot), va_P g.1 vwCl (mo g q v) H → va_D A (mo g q v) → va_S A s.heap H locs → lv_has ls 4 [(2, .int (f_X6_pegsOf_L4 v p0 n4 i4 x4_2)), (0, .ref (q 0)), (1, .int p0)] → W p l e rm_X6_pegsOf s m ([.ref (q 0), .int p0] : List Value).toArray below meth c H locs 0 0 Q (F0 m 33 ls [])) → W p l e rm_X6_pegsOf s m ([.ref (q 0), .int p0] : List Value).toArray below meth c H locs 0 0 Q (F0 m 4 ls []) := by
    intro n4
    induction n4 with
    | zero =>
      intro i4 hin4 x4_2 H locs ls hP hD hS hl kx
      refine lv_iload_n hx hb dX6_pegsOf_4 rfl (lv_at hl 0 rfl) ?_
      refine lv_bipush (v := (16 : Int32)) hx hb dX6_pegsOf_5 (by decide) ?_
      refine lv_icmp_ge (tgt := 33) hx hb dX6_pegsOf_7 (by decide) (fun c_7 => ?_) (fun c_7 => ?_)
      rotate_left
      · exact absurd (by rw [show i4 = 16 by omega]; decide) c_7
      have E : (f_X6_pegsOf_L4 v p0 0 i4 x4_2) = x4_2 := rfl
      rw [E] at kx
      exact kx _ _ _ hP hD hS (lv_sub hl [1, 2, 3] rfl)
    | succ n4 ih4 =>
      intro i4 hin4 x4_2 H locs ls hP hD hS hl kx
      refine lv_iload_n hx hb dX6_pegsOf_4 rfl (lv_at hl 0 rfl) ?_
      refine lv_bipush (v := (16 : Int32)) hx hb dX6_pegsOf_5 (by decide) ?_
      refine lv_icmp_ge (tgt := 33) hx hb dX6_pegsOf_7 (by decide) (fun c_7 => ?_) (fun c_7 => ?_)
      · exact absurd c_7 (nI_ge (a := i4) (b := 16) (by omega) (by omega))
      refine lv_iload_n hx hb dX6_pegsOf_10 rfl (lv_at hl 1 rfl) ?_
      refine lv_aload_n hx hb dX6_pegsOf_11 rfl (lv_at hl 2 rfl) ?_
      refine lv_iload_n hx hb dX6_pegsOf_12 rfl (lv_at hl 0 rfl) ?_
      refine lv_iload_n hx hb dX6_pegsOf_13 rfl (lv_at hl 3 rfl) ?_
      refine zcVi (n := 2) (As := [.int (nI i4), .int p0]) (rest := [.int x4_2]) (Xr := []) (Xn := (mo g q v)) (ci := 6) (C := RX6) (T := TX6) (N := 12) (q0 := 0) hx hb hml hown hts hN (m_X6_hasPeg l g q v (nI i4) p0 (vp_in_nI (by omega) (by omega)) h0) gX6_pegsOf_X6_hasPeg rfl (by decide +kernel) ⟨rfl, rfl⟩ ⟨Nat.le_of_ble_eq_true rfl, Nat.le_of_ble_eq_true rfl⟩ hK hP hD hS hA (zpn _) rfl rfl rfl hl.1 rfl (Nat.le_of_ble_eq_true rfl) dX6_pegsOf_14 ⟨Nat.zero_le _, Nat.zero_le _⟩ (zpn' _) (fun H locs hP hD hS => ?_)
      refine lv_if_eq (tgt := 24) hx hb dX6_pegsOf_17 (by decide) (fun c_17 => ?_) (fun c_17 => ?_)
      · refine lv_iconst (v := (0 : Int32)) hx hb dX6_pegsOf_24 (by decide) ?_
        refine lv_iadd hx hb dX6_pegsOf_25 ?_
        refine lv_istore_n (lv' := [(2, .int (x4_2 + (0 : Int32))), (3, .int (nI i4)), (0, .ref (q 0)), (1, .int p0)]) hx hb dX6_pegsOf_26 rfl hl (by decide) rfl (fun ls hl => ?_)
        refine lv_iinc (v := (nI (i4 + 1))) (lv' := [(3, .int (nI (i4 + 1))), (2, .int (x4_2 + (0 : Int32))), (0, .ref (q 0)), (1, .int p0)]) hx hb dX6_pegsOf_27 hl (k := 1) rfl (nI_1 i4) (by decide) rfl (fun ls hl => ?_)
        refine lv_goto (tgt := 4) hx hb dX6_pegsOf_30 (by decide) ?_
        have E : (f_X6_pegsOf_L4 v p0 (n4 + 1) i4 x4_2) = (f_X6_pegsOf_L4 v p0 n4 (i4 + 1) (x4_2 + (0 : Int32))) := (if_pos c_17).trans rfl
        rw [E] at kx
        exact ih4 (i4 + 1) (by omega) (x4_2 + (0 : Int32)) _ _ _  hP hD hS (lv_sub hl [0, 1, 2, 3] rfl) kx
      · refine lv_iconst (v := (1 : Int32)) hx hb dX6_pegsOf_20 (by decide) ?_
        refine lv_goto (tgt := 25) hx hb dX6_pegsOf_21 (by decide) ?_
        refine lv_iadd hx hb dX6_pegsOf_25 ?_
        refine lv_istore_n (lv' := [(2, .int (x4_2 + (1 : Int32))), (3, .int (nI i4)), (0, .ref (q 0)), (1, .int p0)]) hx hb dX6_pegsOf_26 rfl hl (by decide) rfl (fun ls hl => ?_)
        refine lv_iinc (v := (nI (i4 + 1))) (lv' := [(3, .int (nI (i4 + 1))), (2, .int (x4_2 + (1 : Int32))), (0, .ref (q 0)), (1, .int p0)]) hx hb dX6_pegsOf_27 hl (k := 1) rfl (nI_1 i4) (by decide) rfl (fun ls hl => ?_)
        refine lv_goto (tgt := 4) hx hb dX6_pegsOf_30 (by decide) ?_
        have E : (f_X6_pegsOf_L4 v p0 (n4 + 1) i4 x4_2) = (f_X6_pegsOf_L4 v p0 n4 (i4 + 1) (x4_2 + (1 : Int32))) := (if_neg c_17).trans rfl
        rw [E] at kx
        exact ih4 (i4 + 1) (by omega) (x4_2 + (1 : Int32)) _ _ _  hP hD hS (lv_sub hl [0, 1, 2, 3] rfl) kx
  refine L4 (zfu 16) 0 (by rw [zfu_eq]) (0 : Int32) _ _ _  hP hD hS (lv_sub hl [0, 1, 2, 3] rfl) (fun H locs ls hP hD hS hl => ?_)
  refine lv_iload_n hx hb dX6_pegsOf_33 rfl (lv_at hl 0 rfl) ?_
  have E : (f_X6_pegsOf v p0) = (f_X6_pegsOf_L4 v p0 (zfu 16) 0 (0 : Int32)) := rfl
  exact hret _ _ _ _ _ _ dX6_pegsOf_34 E.symm (rfl) rfl hP hD hS
abbrev rm_X6_marks : Room := { frames := 0, cells := 0, slots := 0, locals := 0 }
set_option maxRecDepth 20000 in
theorem zin_X6_marks_X6 : ∀ w ∈ wsX60, w ∈ wsX6_marks := by decide +kernel
def f_X6_marks_L4 (v : zCV) : Nat → Nat → Int32 → Int32
  | 0, i4, x4_1 => x4_1
  | n4 + 1, i4, x4_1 => (f_X6_marks_L4 v n4 (i4 + 1) (x4_1 + ((v.2 0) ((22 : Int32) + (nI i4)).toNatClampNeg)))
def f_X6_marks (v : zCV) : Int32 := (f_X6_marks_L4 v (zfu 6) 0 (0 : Int32))
set_option maxRecDepth 100000 in
set_option maxHeartbeats 4000000 in
theorem m_X6_marks (l : Launch) (g : zG) (q : Nat → Nat) (v : zCV) : ZI l yX6_marks wsX6_marks rm_X6_marks g (mo g q v) [.ref (q 0)] (f_X6_marks v) (mo g q v) := by
  refine zopenI (cc := cX6_marks) (maxL := 3) (ret := .int) (by decide +kernel) rfl (Nat.le_of_ble_eq_true rfl) ?_
  intro p e s m below meth c A Q ls hx hb hml hown hts hP hK hD hA hN hl hret
  have hS : va_S A s.heap s.heap [] := va_S.rf
  have hl : lv_has ls 3 [(0, .ref (q 0))] := hl
  have hown : s.vm.findClass RX6 = some m.cls := hown
  refine lv_iconst (v := (0 : Int32)) hx hb dX6_marks_0 (by decide) ?_
  refine lv_istore_n (lv' := [(1, .int (0 : Int32)), (0, .ref (q 0))]) hx hb dX6_marks_1 rfl hl (by decide) rfl (fun ls hl => ?_)
  refine lv_iconst (v := (0 : Int32)) hx hb dX6_marks_2 (by decide) ?_
  refine lv_istore_n (lv' := [(2, .int (0 : Int32)), (1, .int (0 : Int32)), (0, .ref (q 0))]) hx hb dX6_marks_3 rfl hl (by decide) rfl (fun ls hl => ?_)
  have L4 : ∀ (n4 : Nat) (i4 : Nat), i4 + n4 = 6 → ∀ (x4_1 : Int32) (H : Heap) (locs : List Loc) (ls : Array Slot), va_P g.1 vwCl (mo g q v) H → va_D A (mo g q v) → va_S A s.heap H locs → lv_has ls 3 [(2, .int (nI i4)), (1, .int x4_1), (0, .ref (q 0))] → (∀ (H : Heap) (locs : List Loc) (ls : Array Slot), va_P g.1 vwCl (mo g q v) H → va_D A (mo g q v) → va_S A s.heap H locs → lv_has ls 3 [(1, .int (f_X6_marks_L4 v n4 i4 x4_1)), (0, .ref (q 0))] → W p l e rm_X6_marks s m ([.ref (q 0)] : List Value).toArray below meth c H locs 0 0 Q (F0 m 28 ls [])) → W p l e rm_X6_marks s m ([.ref (q 0)] : List Value).toArray below meth c H locs 0 0 Q (F0 m 4 ls []) := by
    intro n4
    induction n4 with
    | zero =>
      intro i4 hin4 x4_1 H locs ls hP hD hS hl kx
      refine lv_iload_n hx hb dX6_marks_4 rfl (lv_at hl 0 rfl) ?_
      refine lv_bipush (v := (6 : Int32)) hx hb dX6_marks_5 (by decide) ?_
      refine lv_icmp_ge (tgt := 28) hx hb dX6_marks_7 (by decide) (fun c_7 => ?_) (fun c_7 => ?_)
      rotate_left
      · exact absurd (by rw [show i4 = 6 by omega]; decide) c_7
      have E : (f_X6_marks_L4 v 0 i4 x4_1) = x4_1 := rfl
      rw [E] at kx
      exact kx _ _ _ hP hD hS (lv_sub hl [1, 2] rfl)
    | succ n4 ih4 =>
      intro i4 hin4 x4_1 H locs ls hP hD hS hl kx
      refine lv_iload_n hx hb dX6_marks_4 rfl (lv_at hl 0 rfl) ?_
      refine lv_bipush (v := (6 : Int32)) hx hb dX6_marks_5 (by decide) ?_
      refine lv_icmp_ge (tgt := 28) hx hb dX6_marks_7 (by decide) (fun c_7 => ?_) (fun c_7 => ?_)
      · exact absurd c_7 (nI_ge (a := i4) (b := 6) (by omega) (by omega))
      refine lv_iload_n hx hb dX6_marks_10 rfl (lv_at hl 1 rfl) ?_
      refine lv_aload_n hx hb dX6_marks_11 rfl (lv_at hl 2 rfl) ?_
      refine va_get (D := g.1) (ci := 6) (v := .ref (q 1)) (C := RX6) (T := TX6) (N := 12) hx hb hts (zin_X6_marks_X6) hown hK hP 0 rfl rfl 0 (by decide) (hts (.fieldLink RX6 7 "PegClerksModel" "all" "[I") (by decide +kernel)) (fun _ h9 => h9) rfl dX6_marks_12 ?_
      refine lv_bipush (v := (22 : Int32)) hx hb dX6_marks_15 (by decide) ?_
      refine lv_iload_n hx hb dX6_marks_17 rfl (lv_at hl 0 rfl) ?_
      refine lv_iadd hx hb dX6_marks_18 ?_
      refine z_iald (f := (v.2 0)) (k := ((22 : Int32) + (nI i4)).toNatClampNeg) hx hb hK hP 1 0 rfl rfl (zin_add (c := 22) (k := 114) rfl (vp_in_nI (by omega) (by omega)) (by omega) (by omega)) rfl dX6_marks_19 ?_
      refine lv_iadd hx hb dX6_marks_20 ?_
      refine lv_istore_n (lv' := [(1, .int (x4_1 + ((v.2 0) ((22 : Int32) + (nI i4)).toNatClampNeg))), (2, .int (nI i4)), (0, .ref (q 0))]) hx hb dX6_marks_21 rfl hl (by decide) rfl (fun ls hl => ?_)
      refine lv_iinc (v := (nI (i4 + 1))) (lv' := [(2, .int (nI (i4 + 1))), (1, .int (x4_1 + ((v.2 0) ((22 : Int32) + (nI i4)).toNatClampNeg))), (0, .ref (q 0))]) hx hb dX6_marks_22 hl (k := 1) rfl (nI_1 i4) (by decide) rfl (fun ls hl => ?_)
      refine lv_goto (tgt := 4) hx hb dX6_marks_25 (by decide) ?_
      have E : (f_X6_marks_L4 v (n4 + 1) i4 x4_1) = (f_X6_marks_L4 v n4 (i4 + 1) (x4_1 + ((v.2 0) ((22 : Int32) + (nI i4)).toNatClampNeg))) := rfl
      rw [E] at kx
      exact ih4 (i4 + 1) (by omega) (x4_1 + ((v.2 0) ((22 : Int32) + (nI i4)).toNatClampNeg)) _ _ _  hP hD hS (lv_sub hl [0, 1, 2] rfl) kx
  refine L4 (zfu 6) 0 (by rw [zfu_eq]) (0 : Int32) _ _ _  hP hD hS (lv_sub hl [0, 1, 2] rfl) (fun H locs ls hP hD hS hl => ?_)
  refine lv_iload_n hx hb dX6_marks_28 rfl (lv_at hl 0 rfl) ?_
  have E : (f_X6_marks v) = (f_X6_marks_L4 v (zfu 6) 0 (0 : Int32)) := rfl
  exact hret _ _ _ _ _ _ dX6_marks_29 E.symm (rfl) rfl hP hD hS
abbrev rm_X6_wouldJam : Room := { frames := 3, cells := 0, slots := 0, locals := 66 }
set_option maxRecDepth 20000 in
theorem zin_X6_wouldJam_X6 : ∀ w ∈ wsX60, w ∈ wsX6_wouldJam := by decide +kernel
def r_X6_wouldJam_2 (v : zCV) (p0 : Int32) : Int32 := (f_X6_pegsIn v p0)
def f_X6_wouldJam (v : zCV) (p0 : Int32) : Int32 := if (r_X6_wouldJam_2 v p0) ≤ ((v.2 0) 3) then ((0 : Int32)) else ((1 : Int32))
set_option maxRecDepth 100000 in
set_option maxHeartbeats 4000000 in
theorem m_X6_wouldJam (l : Launch) (g : zG) (q : Nat → Nat) (v : zCV) (p0 : Int32) (h0 : vp_in p0 16) : ZI l yX6_wouldJam wsX6_wouldJam rm_X6_wouldJam g (mo g q v) [.ref (q 0), .int p0] (f_X6_wouldJam v p0) (mo g q v) := by
  refine zopenI (cc := cX6_wouldJam) (maxL := 2) (ret := .boolean) (by decide +kernel) rfl (Nat.le_of_ble_eq_true rfl) ?_
  intro p e s m below meth c A Q ls hx hb hml hown hts hP hK hD hA hN hl hret
  have hS : va_S A s.heap s.heap [] := va_S.rf
  have hl : lv_has ls 2 [(0, .ref (q 0)), (1, .int p0)] := hl
  have hown : s.vm.findClass RX6 = some m.cls := hown
  refine lv_aload_n hx hb dX6_wouldJam_0 rfl (lv_at hl 0 rfl) ?_
  refine lv_iload_n hx hb dX6_wouldJam_1 rfl (lv_at hl 1 rfl) ?_
  refine zcVi (n := 1) (As := [.int p0]) (rest := []) (Xr := []) (Xn := (mo g q v)) (ci := 6) (C := RX6) (T := TX6) (N := 12) (q0 := 0) hx hb hml hown hts hN (m_X6_pegsIn l g q v p0 h0) gX6_wouldJam_X6_pegsIn rfl (by decide +kernel) ⟨rfl, rfl⟩ ⟨Nat.le_of_ble_eq_true rfl, Nat.le_of_ble_eq_true rfl⟩ hK hP hD hS hA (zpn _) rfl rfl rfl hl.1 rfl (Nat.le_of_ble_eq_true rfl) dX6_wouldJam_2 ⟨Nat.zero_le _, Nat.zero_le _⟩ (zpn' _) (fun H locs hP hD hS => ?_)
  refine lv_aload_n hx hb dX6_wouldJam_5 rfl (lv_at hl 0 rfl) ?_
  refine va_get (D := g.1) (ci := 6) (v := .ref (q 1)) (C := RX6) (T := TX6) (N := 12) hx hb hts (zin_X6_wouldJam_X6) hown hK hP 0 rfl rfl 0 (by decide) (hts (.fieldLink RX6 7 "PegClerksModel" "all" "[I") (by decide +kernel)) (fun _ h9 => h9) rfl dX6_wouldJam_6 ?_
  refine lv_iconst (v := (3 : Int32)) hx hb dX6_wouldJam_9 (by decide) ?_
  refine z_iald (f := (v.2 0)) (k := 3) hx hb hK hP 1 0 rfl rfl (zlit (3 : Int32) 136 (by decide +kernel)) (by decide +kernel) dX6_wouldJam_10 ?_
  refine lv_icmp_le (tgt := 18) hx hb dX6_wouldJam_11 (by decide) (fun c_11 => ?_) (fun c_11 => ?_)
  · refine lv_iconst (v := (0 : Int32)) hx hb dX6_wouldJam_18 (by decide) ?_
    have E : (f_X6_wouldJam v p0) = (0 : Int32) := (if_pos c_11).trans rfl
    exact hret _ _ _ _ _ _ dX6_wouldJam_19 E.symm (rfl) rfl hP hD hS
  · refine lv_iconst (v := (1 : Int32)) hx hb dX6_wouldJam_14 (by decide) ?_
    refine lv_goto (tgt := 19) hx hb dX6_wouldJam_15 (by decide) ?_
    have E : (f_X6_wouldJam v p0) = (1 : Int32) := (if_neg c_11).trans rfl
    exact hret _ _ _ _ _ _ dX6_wouldJam_19 E.symm (rfl) rfl hP hD hS
abbrev rm_X6_newOne : Room := { frames := 0, cells := 0, slots := 0, locals := 0 }
set_option maxRecDepth 20000 in
theorem zin_X6_newOne_X6 : ∀ w ∈ wsX60, w ∈ wsX6_newOne := by decide +kernel
def s_X6_newOne_7 (v : zCV) : zCV := zA v 0 (upd (v.2 0) 7 (0 : Int32))
def s_X6_newOne_15 (v : zCV) : zCV := zA (s_X6_newOne_7 v) 0 (upd ((s_X6_newOne_7 v).2 0) 8 (0 : Int32))
def s_X6_newOne_23 (v : zCV) : zCV := zA (s_X6_newOne_15 v) 0 (upd ((s_X6_newOne_15 v).2 0) 9 (0 : Int32))
def f_X6_newOne (v : zCV) : zCV := (s_X6_newOne_23 v)
set_option maxRecDepth 100000 in
set_option maxHeartbeats 4000000 in
theorem m_X6_newOne (l : Launch) (g : zG) (q : Nat → Nat) (v : zCV) : ZV l yX6_newOne wsX6_newOne rm_X6_newOne g (mo g q v) [.ref (q 0)] (mo g q (f_X6_newOne v)) := by
  refine zopenV (cc := cX6_newOne) (maxL := 1) (by decide +kernel) rfl (Nat.le_of_ble_eq_true rfl) ?_
  intro p e s m below meth c A Q ls hx hb hml hown hts hP hK hD hA hN hl hret
  have hS : va_S A s.heap s.heap [] := va_S.rf
  have hl : lv_has ls 1 [(0, .ref (q 0))] := hl
  have hown : s.vm.findClass RX6 = some m.cls := hown
  refine lv_aload_n hx hb dX6_newOne_0 rfl (lv_at hl 0 rfl) ?_
  refine va_get (D := g.1) (ci := 6) (v := .ref (q 1)) (C := RX6) (T := TX6) (N := 12) hx hb hts (zin_X6_newOne_X6) hown hK hP 0 rfl rfl 0 (by decide) (hts (.fieldLink RX6 7 "PegClerksModel" "all" "[I") (by decide +kernel)) (fun _ h9 => h9) rfl dX6_newOne_1 ?_
  refine lv_bipush (v := (7 : Int32)) hx hb dX6_newOne_4 (by decide) ?_
  refine lv_iconst (v := (0 : Int32)) hx hb dX6_newOne_6 (by decide) ?_
  refine z_iast (f := (v.2 0)) (k := 7) hx hb hK hP hD hS 1 0 rfl rfl (zlit (7 : Int32) 136 (by decide +kernel)) (by decide +kernel) dX6_newOne_7 (fun H locs hP hD hS => ?_)
  have hP : va_P g.1 vwCl (mo g q (s_X6_newOne_7 v)) H := (congrArg (fun z => va_P g.1 vwCl z H) (mo_A0 g q v (upd (v.2 0) 7 (0 : Int32)))).mp hP
  have hD : va_D A (mo g q (s_X6_newOne_7 v)) := (congrArg (fun z => va_D A z) (mo_A0 g q v (upd (v.2 0) 7 (0 : Int32)))).mp hD
  refine lv_aload_n hx hb dX6_newOne_8 rfl (lv_at hl 0 rfl) ?_
  refine va_get (D := g.1) (ci := 6) (v := .ref (q 1)) (C := RX6) (T := TX6) (N := 12) hx hb hts (zin_X6_newOne_X6) hown hK hP 0 rfl rfl 0 (by decide) (hts (.fieldLink RX6 7 "PegClerksModel" "all" "[I") (by decide +kernel)) (fun _ h9 => h9) rfl dX6_newOne_9 ?_
  refine lv_bipush (v := (8 : Int32)) hx hb dX6_newOne_12 (by decide) ?_
  refine lv_iconst (v := (0 : Int32)) hx hb dX6_newOne_14 (by decide) ?_
  refine z_iast (f := ((s_X6_newOne_7 v).2 0)) (k := 8) hx hb hK hP hD hS 1 0 rfl rfl (zlit (8 : Int32) 136 (by decide +kernel)) (by decide +kernel) dX6_newOne_15 (fun H locs hP hD hS => ?_)
  have hP : va_P g.1 vwCl (mo g q (s_X6_newOne_15 v)) H := (congrArg (fun z => va_P g.1 vwCl z H) (mo_A0 g q (s_X6_newOne_7 v) (upd ((s_X6_newOne_7 v).2 0) 8 (0 : Int32)))).mp hP
  have hD : va_D A (mo g q (s_X6_newOne_15 v)) := (congrArg (fun z => va_D A z) (mo_A0 g q (s_X6_newOne_7 v) (upd ((s_X6_newOne_7 v).2 0) 8 (0 : Int32)))).mp hD
  refine lv_aload_n hx hb dX6_newOne_16 rfl (lv_at hl 0 rfl) ?_
  refine va_get (D := g.1) (ci := 6) (v := .ref (q 1)) (C := RX6) (T := TX6) (N := 12) hx hb hts (zin_X6_newOne_X6) hown hK hP 0 rfl rfl 0 (by decide) (hts (.fieldLink RX6 7 "PegClerksModel" "all" "[I") (by decide +kernel)) (fun _ h9 => h9) rfl dX6_newOne_17 ?_
  refine lv_bipush (v := (9 : Int32)) hx hb dX6_newOne_20 (by decide) ?_
  refine lv_iconst (v := (0 : Int32)) hx hb dX6_newOne_22 (by decide) ?_
  refine z_iast (f := ((s_X6_newOne_15 v).2 0)) (k := 9) hx hb hK hP hD hS 1 0 rfl rfl (zlit (9 : Int32) 136 (by decide +kernel)) (by decide +kernel) dX6_newOne_23 (fun H locs hP hD hS => ?_)
  have hP : va_P g.1 vwCl (mo g q (s_X6_newOne_23 v)) H := (congrArg (fun z => va_P g.1 vwCl z H) (mo_A0 g q (s_X6_newOne_15 v) (upd ((s_X6_newOne_15 v).2 0) 9 (0 : Int32)))).mp hP
  have hD : va_D A (mo g q (s_X6_newOne_23 v)) := (congrArg (fun z => va_D A z) (mo_A0 g q (s_X6_newOne_15 v) (upd ((s_X6_newOne_15 v).2 0) 9 (0 : Int32)))).mp hD
  have E : (f_X6_newOne v) = (s_X6_newOne_23 v) := rfl
  have e2 : (mo g q (s_X6_newOne_23 v)) = (mo g q (f_X6_newOne v)) := by rw [E]
  exact hret (mo g q (s_X6_newOne_23 v)) _ _ _ _ dX6_newOne_24 e2 hP hD hS
abbrev rm_X6_falls : Room := { frames := 0, cells := 0, slots := 0, locals := 0 }
set_option maxRecDepth 20000 in
theorem zin_X6_falls_X6 : ∀ w ∈ wsX60, w ∈ wsX6_falls := by decide +kernel
def s_X6_falls_85 (v : zCV) (p0 : Int32) : zCV := zA v 0 (upd (v.2 0) ((16 : Int32) + p0).toNatClampNeg (((v.2 0) ((16 : Int32) + p0).toNatClampNeg) - ((v.2 0) 1)))
def s_X6_falls_98 (v : zCV) (p0 : Int32) : zCV := zA (s_X6_falls_85 v p0) 0 (upd ((s_X6_falls_85 v p0).2 0) ((22 : Int32) + p0).toNatClampNeg ((((s_X6_falls_85 v p0).2 0) ((22 : Int32) + p0).toNatClampNeg) + (1 : Int32)))
def s_X6_falls_111 (v : zCV) (p0 : Int32) : zCV := zA (s_X6_falls_98 v p0) 0 (upd ((s_X6_falls_98 v p0).2 0) 7 ((((s_X6_falls_98 v p0).2 0) 7) ||| ((1 : Int32) <<< (p0 &&& 31))))
def s_X6_falls_66 (v : zCV) (p0 : Int32) : zCV := zA v 0 (upd (v.2 0) ((28 : Int32) + p0).toNatClampNeg (((v.2 0) ((28 : Int32) + p0).toNatClampNeg) + (1 : Int32)))
def s_X6_falls_22 (v : zCV) : zCV := zA v 0 (upd (v.2 0) 8 (1 : Int32))
def s_X6_falls_35 (v : zCV) (p0 : Int32) : zCV := zA (s_X6_falls_22 v) 0 (upd ((s_X6_falls_22 v).2 0) ((34 : Int32) + p0).toNatClampNeg ((((s_X6_falls_22 v).2 0) ((34 : Int32) + p0).toNatClampNeg) + (1 : Int32)))
def s_X6_falls_85_2 (v : zCV) (p0 : Int32) : zCV := zA (s_X6_falls_35 v p0) 0 (upd ((s_X6_falls_35 v p0).2 0) ((16 : Int32) + p0).toNatClampNeg ((((s_X6_falls_35 v p0).2 0) ((16 : Int32) + p0).toNatClampNeg) - (((s_X6_falls_35 v p0).2 0) 1)))
def s_X6_falls_98_2 (v : zCV) (p0 : Int32) : zCV := zA (s_X6_falls_85_2 v p0) 0 (upd ((s_X6_falls_85_2 v p0).2 0) ((22 : Int32) + p0).toNatClampNeg ((((s_X6_falls_85_2 v p0).2 0) ((22 : Int32) + p0).toNatClampNeg) + (1 : Int32)))
def s_X6_falls_111_2 (v : zCV) (p0 : Int32) : zCV := zA (s_X6_falls_98_2 v p0) 0 (upd ((s_X6_falls_98_2 v p0).2 0) 7 ((((s_X6_falls_98_2 v p0).2 0) 7) ||| ((1 : Int32) <<< (p0 &&& 31))))
def s_X6_falls_66_2 (v : zCV) (p0 : Int32) : zCV := zA (s_X6_falls_35 v p0) 0 (upd ((s_X6_falls_35 v p0).2 0) ((28 : Int32) + p0).toNatClampNeg ((((s_X6_falls_35 v p0).2 0) ((28 : Int32) + p0).toNatClampNeg) + (1 : Int32)))
def f_X6_falls (v : zCV) (p0 : Int32) : zCV := if ((((v.2 0) 7) >>> (p0 &&& 31)) &&& (1 : Int32)) = (1 : Int32) then (if (((s_X6_falls_35 v p0).2 0) 1) ≤ (((s_X6_falls_35 v p0).2 0) ((16 : Int32) + p0).toNatClampNeg) then ((s_X6_falls_111_2 v p0)) else ((s_X6_falls_66_2 v p0))) else (if ((v.2 0) 1) ≤ ((v.2 0) ((16 : Int32) + p0).toNatClampNeg) then ((s_X6_falls_111 v p0)) else ((s_X6_falls_66 v p0)))
set_option maxRecDepth 100000 in
set_option maxHeartbeats 4000000 in
theorem m_X6_falls (l : Launch) (g : zG) (q : Nat → Nat) (v : zCV) (p0 : Int32) (h0 : vp_in p0 6) : ZV l yX6_falls wsX6_falls rm_X6_falls g (mo g q v) [.ref (q 0), .int p0] (mo g q (f_X6_falls v p0)) := by
  refine zopenV (cc := cX6_falls) (maxL := 2) (by decide +kernel) rfl (Nat.le_of_ble_eq_true rfl) ?_
  intro p e s m below meth c A Q ls hx hb hml hown hts hP hK hD hA hN hl hret
  have hS : va_S A s.heap s.heap [] := va_S.rf
  have hl : lv_has ls 2 [(0, .ref (q 0)), (1, .int p0)] := hl
  have hown : s.vm.findClass RX6 = some m.cls := hown
  refine lv_aload_n hx hb dX6_falls_0 rfl (lv_at hl 0 rfl) ?_
  refine va_get (D := g.1) (ci := 6) (v := .ref (q 1)) (C := RX6) (T := TX6) (N := 12) hx hb hts (zin_X6_falls_X6) hown hK hP 0 rfl rfl 0 (by decide) (hts (.fieldLink RX6 7 "PegClerksModel" "all" "[I") (by decide +kernel)) (fun _ h9 => h9) rfl dX6_falls_1 ?_
  refine lv_bipush (v := (7 : Int32)) hx hb dX6_falls_4 (by decide) ?_
  refine z_iald (f := (v.2 0)) (k := 7) hx hb hK hP 1 0 rfl rfl (zlit (7 : Int32) 136 (by decide +kernel)) (by decide +kernel) dX6_falls_6 ?_
  refine lv_iload_n hx hb dX6_falls_7 rfl (lv_at hl 1 rfl) ?_
  refine lv_ishr hx hb dX6_falls_8 ?_
  refine lv_iconst (v := (1 : Int32)) hx hb dX6_falls_9 (by decide) ?_
  refine lv_iand hx hb dX6_falls_10 ?_
  refine lv_iconst (v := (1 : Int32)) hx hb dX6_falls_11 (by decide) ?_
  refine lv_icmp_ne (tgt := 36) hx hb dX6_falls_12 (by decide) (fun c_12 => ?_) (fun c_12 => ?_)
  · refine lv_aload_n hx hb dX6_falls_36 rfl (lv_at hl 0 rfl) ?_
    refine va_get (D := g.1) (ci := 6) (v := .ref (q 1)) (C := RX6) (T := TX6) (N := 12) hx hb hts (zin_X6_falls_X6) hown hK hP 0 rfl rfl 0 (by decide) (hts (.fieldLink RX6 7 "PegClerksModel" "all" "[I") (by decide +kernel)) (fun _ h9 => h9) rfl dX6_falls_37 ?_
    refine lv_bipush (v := (16 : Int32)) hx hb dX6_falls_40 (by decide) ?_
    refine lv_iload_n hx hb dX6_falls_42 rfl (lv_at hl 1 rfl) ?_
    refine lv_iadd hx hb dX6_falls_43 ?_
    refine z_iald (f := (v.2 0)) (k := ((16 : Int32) + p0).toNatClampNeg) hx hb hK hP 1 0 rfl rfl (zin_add (c := 16) (k := 6) rfl h0 (by omega) (by omega)) rfl dX6_falls_44 ?_
    refine lv_aload_n hx hb dX6_falls_45 rfl (lv_at hl 0 rfl) ?_
    refine va_get (D := g.1) (ci := 6) (v := .ref (q 1)) (C := RX6) (T := TX6) (N := 12) hx hb hts (zin_X6_falls_X6) hown hK hP 0 rfl rfl 0 (by decide) (hts (.fieldLink RX6 7 "PegClerksModel" "all" "[I") (by decide +kernel)) (fun _ h9 => h9) rfl dX6_falls_46 ?_
    refine lv_iconst (v := (1 : Int32)) hx hb dX6_falls_49 (by decide) ?_
    refine z_iald (f := (v.2 0)) (k := 1) hx hb hK hP 1 0 rfl rfl (zlit (1 : Int32) 136 (by decide +kernel)) (by decide +kernel) dX6_falls_50 ?_
    refine lv_icmp_ge (tgt := 68) hx hb dX6_falls_51 (by decide) (fun c_51 => ?_) (fun c_51 => ?_)
    · refine lv_aload_n hx hb dX6_falls_68 rfl (lv_at hl 0 rfl) ?_
      refine va_get (D := g.1) (ci := 6) (v := .ref (q 1)) (C := RX6) (T := TX6) (N := 12) hx hb hts (zin_X6_falls_X6) hown hK hP 0 rfl rfl 0 (by decide) (hts (.fieldLink RX6 7 "PegClerksModel" "all" "[I") (by decide +kernel)) (fun _ h9 => h9) rfl dX6_falls_69 ?_
      refine lv_bipush (v := (16 : Int32)) hx hb dX6_falls_72 (by decide) ?_
      refine lv_iload_n hx hb dX6_falls_74 rfl (lv_at hl 1 rfl) ?_
      refine lv_iadd hx hb dX6_falls_75 ?_
      refine lv_dup2_11 hx hb dX6_falls_76 rfl rfl ?_
      refine z_iald (f := (v.2 0)) (k := ((16 : Int32) + p0).toNatClampNeg) hx hb hK hP 1 0 rfl rfl (zin_add (c := 16) (k := 6) rfl h0 (by omega) (by omega)) rfl dX6_falls_77 ?_
      refine lv_aload_n hx hb dX6_falls_78 rfl (lv_at hl 0 rfl) ?_
      refine va_get (D := g.1) (ci := 6) (v := .ref (q 1)) (C := RX6) (T := TX6) (N := 12) hx hb hts (zin_X6_falls_X6) hown hK hP 0 rfl rfl 0 (by decide) (hts (.fieldLink RX6 7 "PegClerksModel" "all" "[I") (by decide +kernel)) (fun _ h9 => h9) rfl dX6_falls_79 ?_
      refine lv_iconst (v := (1 : Int32)) hx hb dX6_falls_82 (by decide) ?_
      refine z_iald (f := (v.2 0)) (k := 1) hx hb hK hP 1 0 rfl rfl (zlit (1 : Int32) 136 (by decide +kernel)) (by decide +kernel) dX6_falls_83 ?_
      refine lv_isub hx hb dX6_falls_84 ?_
      refine z_iast (f := (v.2 0)) (k := ((16 : Int32) + p0).toNatClampNeg) hx hb hK hP hD hS 1 0 rfl rfl (zin_add (c := 16) (k := 6) rfl h0 (by omega) (by omega)) rfl dX6_falls_85 (fun H locs hP hD hS => ?_)
      have hP : va_P g.1 vwCl (mo g q (s_X6_falls_85 v p0)) H := (congrArg (fun z => va_P g.1 vwCl z H) (mo_A0 g q v (upd (v.2 0) ((16 : Int32) + p0).toNatClampNeg (((v.2 0) ((16 : Int32) + p0).toNatClampNeg) - ((v.2 0) 1))))).mp hP
      have hD : va_D A (mo g q (s_X6_falls_85 v p0)) := (congrArg (fun z => va_D A z) (mo_A0 g q v (upd (v.2 0) ((16 : Int32) + p0).toNatClampNeg (((v.2 0) ((16 : Int32) + p0).toNatClampNeg) - ((v.2 0) 1))))).mp hD
      refine lv_aload_n hx hb dX6_falls_86 rfl (lv_at hl 0 rfl) ?_
      refine va_get (D := g.1) (ci := 6) (v := .ref (q 1)) (C := RX6) (T := TX6) (N := 12) hx hb hts (zin_X6_falls_X6) hown hK hP 0 rfl rfl 0 (by decide) (hts (.fieldLink RX6 7 "PegClerksModel" "all" "[I") (by decide +kernel)) (fun _ h9 => h9) rfl dX6_falls_87 ?_
      refine lv_bipush (v := (22 : Int32)) hx hb dX6_falls_90 (by decide) ?_
      refine lv_iload_n hx hb dX6_falls_92 rfl (lv_at hl 1 rfl) ?_
      refine lv_iadd hx hb dX6_falls_93 ?_
      refine lv_dup2_11 hx hb dX6_falls_94 rfl rfl ?_
      refine z_iald (f := ((s_X6_falls_85 v p0).2 0)) (k := ((22 : Int32) + p0).toNatClampNeg) hx hb hK hP 1 0 rfl rfl (zin_add (c := 22) (k := 6) rfl h0 (by omega) (by omega)) rfl dX6_falls_95 ?_
      refine lv_iconst (v := (1 : Int32)) hx hb dX6_falls_96 (by decide) ?_
      refine lv_iadd hx hb dX6_falls_97 ?_
      refine z_iast (f := ((s_X6_falls_85 v p0).2 0)) (k := ((22 : Int32) + p0).toNatClampNeg) hx hb hK hP hD hS 1 0 rfl rfl (zin_add (c := 22) (k := 6) rfl h0 (by omega) (by omega)) rfl dX6_falls_98 (fun H locs hP hD hS => ?_)
      have hP : va_P g.1 vwCl (mo g q (s_X6_falls_98 v p0)) H := (congrArg (fun z => va_P g.1 vwCl z H) (mo_A0 g q (s_X6_falls_85 v p0) (upd ((s_X6_falls_85 v p0).2 0) ((22 : Int32) + p0).toNatClampNeg ((((s_X6_falls_85 v p0).2 0) ((22 : Int32) + p0).toNatClampNeg) + (1 : Int32))))).mp hP
      have hD : va_D A (mo g q (s_X6_falls_98 v p0)) := (congrArg (fun z => va_D A z) (mo_A0 g q (s_X6_falls_85 v p0) (upd ((s_X6_falls_85 v p0).2 0) ((22 : Int32) + p0).toNatClampNeg ((((s_X6_falls_85 v p0).2 0) ((22 : Int32) + p0).toNatClampNeg) + (1 : Int32))))).mp hD
      refine lv_aload_n hx hb dX6_falls_99 rfl (lv_at hl 0 rfl) ?_
      refine va_get (D := g.1) (ci := 6) (v := .ref (q 1)) (C := RX6) (T := TX6) (N := 12) hx hb hts (zin_X6_falls_X6) hown hK hP 0 rfl rfl 0 (by decide) (hts (.fieldLink RX6 7 "PegClerksModel" "all" "[I") (by decide +kernel)) (fun _ h9 => h9) rfl dX6_falls_100 ?_
      refine lv_bipush (v := (7 : Int32)) hx hb dX6_falls_103 (by decide) ?_
      refine lv_dup2_11 hx hb dX6_falls_105 rfl rfl ?_
      refine z_iald (f := ((s_X6_falls_98 v p0).2 0)) (k := 7) hx hb hK hP 1 0 rfl rfl (zlit (7 : Int32) 136 (by decide +kernel)) (by decide +kernel) dX6_falls_106 ?_
      refine lv_iconst (v := (1 : Int32)) hx hb dX6_falls_107 (by decide) ?_
      refine lv_iload_n hx hb dX6_falls_108 rfl (lv_at hl 1 rfl) ?_
      refine lv_ishl hx hb dX6_falls_109 ?_
      refine lv_ior hx hb dX6_falls_110 ?_
      refine z_iast (f := ((s_X6_falls_98 v p0).2 0)) (k := 7) hx hb hK hP hD hS 1 0 rfl rfl (zlit (7 : Int32) 136 (by decide +kernel)) (by decide +kernel) dX6_falls_111 (fun H locs hP hD hS => ?_)
      have hP : va_P g.1 vwCl (mo g q (s_X6_falls_111 v p0)) H := (congrArg (fun z => va_P g.1 vwCl z H) (mo_A0 g q (s_X6_falls_98 v p0) (upd ((s_X6_falls_98 v p0).2 0) 7 ((((s_X6_falls_98 v p0).2 0) 7) ||| ((1 : Int32) <<< (p0 &&& 31)))))).mp hP
      have hD : va_D A (mo g q (s_X6_falls_111 v p0)) := (congrArg (fun z => va_D A z) (mo_A0 g q (s_X6_falls_98 v p0) (upd ((s_X6_falls_98 v p0).2 0) 7 ((((s_X6_falls_98 v p0).2 0) 7) ||| ((1 : Int32) <<< (p0 &&& 31)))))).mp hD
      have E : (f_X6_falls v p0) = (s_X6_falls_111 v p0) := (if_neg c_12).trans ((if_pos c_51).trans rfl)
      have e2 : (mo g q (s_X6_falls_111 v p0)) = (mo g q (f_X6_falls v p0)) := by rw [E]
      exact hret (mo g q (s_X6_falls_111 v p0)) _ _ _ _ dX6_falls_112 e2 hP hD hS
    · refine lv_aload_n hx hb dX6_falls_54 rfl (lv_at hl 0 rfl) ?_
      refine va_get (D := g.1) (ci := 6) (v := .ref (q 1)) (C := RX6) (T := TX6) (N := 12) hx hb hts (zin_X6_falls_X6) hown hK hP 0 rfl rfl 0 (by decide) (hts (.fieldLink RX6 7 "PegClerksModel" "all" "[I") (by decide +kernel)) (fun _ h9 => h9) rfl dX6_falls_55 ?_
      refine lv_bipush (v := (28 : Int32)) hx hb dX6_falls_58 (by decide) ?_
      refine lv_iload_n hx hb dX6_falls_60 rfl (lv_at hl 1 rfl) ?_
      refine lv_iadd hx hb dX6_falls_61 ?_
      refine lv_dup2_11 hx hb dX6_falls_62 rfl rfl ?_
      refine z_iald (f := (v.2 0)) (k := ((28 : Int32) + p0).toNatClampNeg) hx hb hK hP 1 0 rfl rfl (zin_add (c := 28) (k := 6) rfl h0 (by omega) (by omega)) rfl dX6_falls_63 ?_
      refine lv_iconst (v := (1 : Int32)) hx hb dX6_falls_64 (by decide) ?_
      refine lv_iadd hx hb dX6_falls_65 ?_
      refine z_iast (f := (v.2 0)) (k := ((28 : Int32) + p0).toNatClampNeg) hx hb hK hP hD hS 1 0 rfl rfl (zin_add (c := 28) (k := 6) rfl h0 (by omega) (by omega)) rfl dX6_falls_66 (fun H locs hP hD hS => ?_)
      have hP : va_P g.1 vwCl (mo g q (s_X6_falls_66 v p0)) H := (congrArg (fun z => va_P g.1 vwCl z H) (mo_A0 g q v (upd (v.2 0) ((28 : Int32) + p0).toNatClampNeg (((v.2 0) ((28 : Int32) + p0).toNatClampNeg) + (1 : Int32))))).mp hP
      have hD : va_D A (mo g q (s_X6_falls_66 v p0)) := (congrArg (fun z => va_D A z) (mo_A0 g q v (upd (v.2 0) ((28 : Int32) + p0).toNatClampNeg (((v.2 0) ((28 : Int32) + p0).toNatClampNeg) + (1 : Int32))))).mp hD
      have E : (f_X6_falls v p0) = (s_X6_falls_66 v p0) := (if_neg c_12).trans ((if_neg c_51).trans rfl)
      have e2 : (mo g q (s_X6_falls_66 v p0)) = (mo g q (f_X6_falls v p0)) := by rw [E]
      exact hret (mo g q (s_X6_falls_66 v p0)) _ _ _ _ dX6_falls_67 e2 hP hD hS
  · refine lv_aload_n hx hb dX6_falls_15 rfl (lv_at hl 0 rfl) ?_
    refine va_get (D := g.1) (ci := 6) (v := .ref (q 1)) (C := RX6) (T := TX6) (N := 12) hx hb hts (zin_X6_falls_X6) hown hK hP 0 rfl rfl 0 (by decide) (hts (.fieldLink RX6 7 "PegClerksModel" "all" "[I") (by decide +kernel)) (fun _ h9 => h9) rfl dX6_falls_16 ?_
    refine lv_bipush (v := (8 : Int32)) hx hb dX6_falls_19 (by decide) ?_
    refine lv_iconst (v := (1 : Int32)) hx hb dX6_falls_21 (by decide) ?_
    refine z_iast (f := (v.2 0)) (k := 8) hx hb hK hP hD hS 1 0 rfl rfl (zlit (8 : Int32) 136 (by decide +kernel)) (by decide +kernel) dX6_falls_22 (fun H locs hP hD hS => ?_)
    have hP : va_P g.1 vwCl (mo g q (s_X6_falls_22 v)) H := (congrArg (fun z => va_P g.1 vwCl z H) (mo_A0 g q v (upd (v.2 0) 8 (1 : Int32)))).mp hP
    have hD : va_D A (mo g q (s_X6_falls_22 v)) := (congrArg (fun z => va_D A z) (mo_A0 g q v (upd (v.2 0) 8 (1 : Int32)))).mp hD
    refine lv_aload_n hx hb dX6_falls_23 rfl (lv_at hl 0 rfl) ?_
    refine va_get (D := g.1) (ci := 6) (v := .ref (q 1)) (C := RX6) (T := TX6) (N := 12) hx hb hts (zin_X6_falls_X6) hown hK hP 0 rfl rfl 0 (by decide) (hts (.fieldLink RX6 7 "PegClerksModel" "all" "[I") (by decide +kernel)) (fun _ h9 => h9) rfl dX6_falls_24 ?_
    refine lv_bipush (v := (34 : Int32)) hx hb dX6_falls_27 (by decide) ?_
    refine lv_iload_n hx hb dX6_falls_29 rfl (lv_at hl 1 rfl) ?_
    refine lv_iadd hx hb dX6_falls_30 ?_
    refine lv_dup2_11 hx hb dX6_falls_31 rfl rfl ?_
    refine z_iald (f := ((s_X6_falls_22 v).2 0)) (k := ((34 : Int32) + p0).toNatClampNeg) hx hb hK hP 1 0 rfl rfl (zin_add (c := 34) (k := 6) rfl h0 (by omega) (by omega)) rfl dX6_falls_32 ?_
    refine lv_iconst (v := (1 : Int32)) hx hb dX6_falls_33 (by decide) ?_
    refine lv_iadd hx hb dX6_falls_34 ?_
    refine z_iast (f := ((s_X6_falls_22 v).2 0)) (k := ((34 : Int32) + p0).toNatClampNeg) hx hb hK hP hD hS 1 0 rfl rfl (zin_add (c := 34) (k := 6) rfl h0 (by omega) (by omega)) rfl dX6_falls_35 (fun H locs hP hD hS => ?_)
    have hP : va_P g.1 vwCl (mo g q (s_X6_falls_35 v p0)) H := (congrArg (fun z => va_P g.1 vwCl z H) (mo_A0 g q (s_X6_falls_22 v) (upd ((s_X6_falls_22 v).2 0) ((34 : Int32) + p0).toNatClampNeg ((((s_X6_falls_22 v).2 0) ((34 : Int32) + p0).toNatClampNeg) + (1 : Int32))))).mp hP
    have hD : va_D A (mo g q (s_X6_falls_35 v p0)) := (congrArg (fun z => va_D A z) (mo_A0 g q (s_X6_falls_22 v) (upd ((s_X6_falls_22 v).2 0) ((34 : Int32) + p0).toNatClampNeg ((((s_X6_falls_22 v).2 0) ((34 : Int32) + p0).toNatClampNeg) + (1 : Int32))))).mp hD
    refine lv_aload_n hx hb dX6_falls_36 rfl (lv_at hl 0 rfl) ?_
    refine va_get (D := g.1) (ci := 6) (v := .ref (q 1)) (C := RX6) (T := TX6) (N := 12) hx hb hts (zin_X6_falls_X6) hown hK hP 0 rfl rfl 0 (by decide) (hts (.fieldLink RX6 7 "PegClerksModel" "all" "[I") (by decide +kernel)) (fun _ h9 => h9) rfl dX6_falls_37 ?_
    refine lv_bipush (v := (16 : Int32)) hx hb dX6_falls_40 (by decide) ?_
    refine lv_iload_n hx hb dX6_falls_42 rfl (lv_at hl 1 rfl) ?_
    refine lv_iadd hx hb dX6_falls_43 ?_
    refine z_iald (f := ((s_X6_falls_35 v p0).2 0)) (k := ((16 : Int32) + p0).toNatClampNeg) hx hb hK hP 1 0 rfl rfl (zin_add (c := 16) (k := 6) rfl h0 (by omega) (by omega)) rfl dX6_falls_44 ?_
    refine lv_aload_n hx hb dX6_falls_45 rfl (lv_at hl 0 rfl) ?_
    refine va_get (D := g.1) (ci := 6) (v := .ref (q 1)) (C := RX6) (T := TX6) (N := 12) hx hb hts (zin_X6_falls_X6) hown hK hP 0 rfl rfl 0 (by decide) (hts (.fieldLink RX6 7 "PegClerksModel" "all" "[I") (by decide +kernel)) (fun _ h9 => h9) rfl dX6_falls_46 ?_
    refine lv_iconst (v := (1 : Int32)) hx hb dX6_falls_49 (by decide) ?_
    refine z_iald (f := ((s_X6_falls_35 v p0).2 0)) (k := 1) hx hb hK hP 1 0 rfl rfl (zlit (1 : Int32) 136 (by decide +kernel)) (by decide +kernel) dX6_falls_50 ?_
    refine lv_icmp_ge (tgt := 68) hx hb dX6_falls_51 (by decide) (fun c_51 => ?_) (fun c_51 => ?_)
    · refine lv_aload_n hx hb dX6_falls_68 rfl (lv_at hl 0 rfl) ?_
      refine va_get (D := g.1) (ci := 6) (v := .ref (q 1)) (C := RX6) (T := TX6) (N := 12) hx hb hts (zin_X6_falls_X6) hown hK hP 0 rfl rfl 0 (by decide) (hts (.fieldLink RX6 7 "PegClerksModel" "all" "[I") (by decide +kernel)) (fun _ h9 => h9) rfl dX6_falls_69 ?_
      refine lv_bipush (v := (16 : Int32)) hx hb dX6_falls_72 (by decide) ?_
      refine lv_iload_n hx hb dX6_falls_74 rfl (lv_at hl 1 rfl) ?_
      refine lv_iadd hx hb dX6_falls_75 ?_
      refine lv_dup2_11 hx hb dX6_falls_76 rfl rfl ?_
      refine z_iald (f := ((s_X6_falls_35 v p0).2 0)) (k := ((16 : Int32) + p0).toNatClampNeg) hx hb hK hP 1 0 rfl rfl (zin_add (c := 16) (k := 6) rfl h0 (by omega) (by omega)) rfl dX6_falls_77 ?_
      refine lv_aload_n hx hb dX6_falls_78 rfl (lv_at hl 0 rfl) ?_
      refine va_get (D := g.1) (ci := 6) (v := .ref (q 1)) (C := RX6) (T := TX6) (N := 12) hx hb hts (zin_X6_falls_X6) hown hK hP 0 rfl rfl 0 (by decide) (hts (.fieldLink RX6 7 "PegClerksModel" "all" "[I") (by decide +kernel)) (fun _ h9 => h9) rfl dX6_falls_79 ?_
      refine lv_iconst (v := (1 : Int32)) hx hb dX6_falls_82 (by decide) ?_
      refine z_iald (f := ((s_X6_falls_35 v p0).2 0)) (k := 1) hx hb hK hP 1 0 rfl rfl (zlit (1 : Int32) 136 (by decide +kernel)) (by decide +kernel) dX6_falls_83 ?_
      refine lv_isub hx hb dX6_falls_84 ?_
      refine z_iast (f := ((s_X6_falls_35 v p0).2 0)) (k := ((16 : Int32) + p0).toNatClampNeg) hx hb hK hP hD hS 1 0 rfl rfl (zin_add (c := 16) (k := 6) rfl h0 (by omega) (by omega)) rfl dX6_falls_85 (fun H locs hP hD hS => ?_)
      have hP : va_P g.1 vwCl (mo g q (s_X6_falls_85_2 v p0)) H := (congrArg (fun z => va_P g.1 vwCl z H) (mo_A0 g q (s_X6_falls_35 v p0) (upd ((s_X6_falls_35 v p0).2 0) ((16 : Int32) + p0).toNatClampNeg ((((s_X6_falls_35 v p0).2 0) ((16 : Int32) + p0).toNatClampNeg) - (((s_X6_falls_35 v p0).2 0) 1))))).mp hP
      have hD : va_D A (mo g q (s_X6_falls_85_2 v p0)) := (congrArg (fun z => va_D A z) (mo_A0 g q (s_X6_falls_35 v p0) (upd ((s_X6_falls_35 v p0).2 0) ((16 : Int32) + p0).toNatClampNeg ((((s_X6_falls_35 v p0).2 0) ((16 : Int32) + p0).toNatClampNeg) - (((s_X6_falls_35 v p0).2 0) 1))))).mp hD
      refine lv_aload_n hx hb dX6_falls_86 rfl (lv_at hl 0 rfl) ?_
      refine va_get (D := g.1) (ci := 6) (v := .ref (q 1)) (C := RX6) (T := TX6) (N := 12) hx hb hts (zin_X6_falls_X6) hown hK hP 0 rfl rfl 0 (by decide) (hts (.fieldLink RX6 7 "PegClerksModel" "all" "[I") (by decide +kernel)) (fun _ h9 => h9) rfl dX6_falls_87 ?_
      refine lv_bipush (v := (22 : Int32)) hx hb dX6_falls_90 (by decide) ?_
      refine lv_iload_n hx hb dX6_falls_92 rfl (lv_at hl 1 rfl) ?_
      refine lv_iadd hx hb dX6_falls_93 ?_
      refine lv_dup2_11 hx hb dX6_falls_94 rfl rfl ?_
      refine z_iald (f := ((s_X6_falls_85_2 v p0).2 0)) (k := ((22 : Int32) + p0).toNatClampNeg) hx hb hK hP 1 0 rfl rfl (zin_add (c := 22) (k := 6) rfl h0 (by omega) (by omega)) rfl dX6_falls_95 ?_
      refine lv_iconst (v := (1 : Int32)) hx hb dX6_falls_96 (by decide) ?_
      refine lv_iadd hx hb dX6_falls_97 ?_
      refine z_iast (f := ((s_X6_falls_85_2 v p0).2 0)) (k := ((22 : Int32) + p0).toNatClampNeg) hx hb hK hP hD hS 1 0 rfl rfl (zin_add (c := 22) (k := 6) rfl h0 (by omega) (by omega)) rfl dX6_falls_98 (fun H locs hP hD hS => ?_)
      have hP : va_P g.1 vwCl (mo g q (s_X6_falls_98_2 v p0)) H := (congrArg (fun z => va_P g.1 vwCl z H) (mo_A0 g q (s_X6_falls_85_2 v p0) (upd ((s_X6_falls_85_2 v p0).2 0) ((22 : Int32) + p0).toNatClampNeg ((((s_X6_falls_85_2 v p0).2 0) ((22 : Int32) + p0).toNatClampNeg) + (1 : Int32))))).mp hP
      have hD : va_D A (mo g q (s_X6_falls_98_2 v p0)) := (congrArg (fun z => va_D A z) (mo_A0 g q (s_X6_falls_85_2 v p0) (upd ((s_X6_falls_85_2 v p0).2 0) ((22 : Int32) + p0).toNatClampNeg ((((s_X6_falls_85_2 v p0).2 0) ((22 : Int32) + p0).toNatClampNeg) + (1 : Int32))))).mp hD
      refine lv_aload_n hx hb dX6_falls_99 rfl (lv_at hl 0 rfl) ?_
      refine va_get (D := g.1) (ci := 6) (v := .ref (q 1)) (C := RX6) (T := TX6) (N := 12) hx hb hts (zin_X6_falls_X6) hown hK hP 0 rfl rfl 0 (by decide) (hts (.fieldLink RX6 7 "PegClerksModel" "all" "[I") (by decide +kernel)) (fun _ h9 => h9) rfl dX6_falls_100 ?_
      refine lv_bipush (v := (7 : Int32)) hx hb dX6_falls_103 (by decide) ?_
      refine lv_dup2_11 hx hb dX6_falls_105 rfl rfl ?_
      refine z_iald (f := ((s_X6_falls_98_2 v p0).2 0)) (k := 7) hx hb hK hP 1 0 rfl rfl (zlit (7 : Int32) 136 (by decide +kernel)) (by decide +kernel) dX6_falls_106 ?_
      refine lv_iconst (v := (1 : Int32)) hx hb dX6_falls_107 (by decide) ?_
      refine lv_iload_n hx hb dX6_falls_108 rfl (lv_at hl 1 rfl) ?_
      refine lv_ishl hx hb dX6_falls_109 ?_
      refine lv_ior hx hb dX6_falls_110 ?_
      refine z_iast (f := ((s_X6_falls_98_2 v p0).2 0)) (k := 7) hx hb hK hP hD hS 1 0 rfl rfl (zlit (7 : Int32) 136 (by decide +kernel)) (by decide +kernel) dX6_falls_111 (fun H locs hP hD hS => ?_)
      have hP : va_P g.1 vwCl (mo g q (s_X6_falls_111_2 v p0)) H := (congrArg (fun z => va_P g.1 vwCl z H) (mo_A0 g q (s_X6_falls_98_2 v p0) (upd ((s_X6_falls_98_2 v p0).2 0) 7 ((((s_X6_falls_98_2 v p0).2 0) 7) ||| ((1 : Int32) <<< (p0 &&& 31)))))).mp hP
      have hD : va_D A (mo g q (s_X6_falls_111_2 v p0)) := (congrArg (fun z => va_D A z) (mo_A0 g q (s_X6_falls_98_2 v p0) (upd ((s_X6_falls_98_2 v p0).2 0) 7 ((((s_X6_falls_98_2 v p0).2 0) 7) ||| ((1 : Int32) <<< (p0 &&& 31)))))).mp hD
      have E : (f_X6_falls v p0) = (s_X6_falls_111_2 v p0) := (if_pos c_12).trans ((if_pos c_51).trans rfl)
      have e2 : (mo g q (s_X6_falls_111_2 v p0)) = (mo g q (f_X6_falls v p0)) := by rw [E]
      exact hret (mo g q (s_X6_falls_111_2 v p0)) _ _ _ _ dX6_falls_112 e2 hP hD hS
    · refine lv_aload_n hx hb dX6_falls_54 rfl (lv_at hl 0 rfl) ?_
      refine va_get (D := g.1) (ci := 6) (v := .ref (q 1)) (C := RX6) (T := TX6) (N := 12) hx hb hts (zin_X6_falls_X6) hown hK hP 0 rfl rfl 0 (by decide) (hts (.fieldLink RX6 7 "PegClerksModel" "all" "[I") (by decide +kernel)) (fun _ h9 => h9) rfl dX6_falls_55 ?_
      refine lv_bipush (v := (28 : Int32)) hx hb dX6_falls_58 (by decide) ?_
      refine lv_iload_n hx hb dX6_falls_60 rfl (lv_at hl 1 rfl) ?_
      refine lv_iadd hx hb dX6_falls_61 ?_
      refine lv_dup2_11 hx hb dX6_falls_62 rfl rfl ?_
      refine z_iald (f := ((s_X6_falls_35 v p0).2 0)) (k := ((28 : Int32) + p0).toNatClampNeg) hx hb hK hP 1 0 rfl rfl (zin_add (c := 28) (k := 6) rfl h0 (by omega) (by omega)) rfl dX6_falls_63 ?_
      refine lv_iconst (v := (1 : Int32)) hx hb dX6_falls_64 (by decide) ?_
      refine lv_iadd hx hb dX6_falls_65 ?_
      refine z_iast (f := ((s_X6_falls_35 v p0).2 0)) (k := ((28 : Int32) + p0).toNatClampNeg) hx hb hK hP hD hS 1 0 rfl rfl (zin_add (c := 28) (k := 6) rfl h0 (by omega) (by omega)) rfl dX6_falls_66 (fun H locs hP hD hS => ?_)
      have hP : va_P g.1 vwCl (mo g q (s_X6_falls_66_2 v p0)) H := (congrArg (fun z => va_P g.1 vwCl z H) (mo_A0 g q (s_X6_falls_35 v p0) (upd ((s_X6_falls_35 v p0).2 0) ((28 : Int32) + p0).toNatClampNeg ((((s_X6_falls_35 v p0).2 0) ((28 : Int32) + p0).toNatClampNeg) + (1 : Int32))))).mp hP
      have hD : va_D A (mo g q (s_X6_falls_66_2 v p0)) := (congrArg (fun z => va_D A z) (mo_A0 g q (s_X6_falls_35 v p0) (upd ((s_X6_falls_35 v p0).2 0) ((28 : Int32) + p0).toNatClampNeg ((((s_X6_falls_35 v p0).2 0) ((28 : Int32) + p0).toNatClampNeg) + (1 : Int32))))).mp hD
      have E : (f_X6_falls v p0) = (s_X6_falls_66_2 v p0) := (if_pos c_12).trans ((if_neg c_51).trans rfl)
      have e2 : (mo g q (s_X6_falls_66_2 v p0)) = (mo g q (f_X6_falls v p0)) := by rw [E]
      exact hret (mo g q (s_X6_falls_66_2 v p0)) _ _ _ _ dX6_falls_67 e2 hP hD hS
abbrev rm_X6_wears : Room := { frames := 1, cells := 0, slots := 0, locals := 21 }
set_option maxRecDepth 20000 in
theorem zin_X6_wears_X6 : ∀ w ∈ wsX60, w ∈ wsX6_wears := by decide +kernel
def s_X6_wears_13 (v : zCV) (p0 : Int32) (p1 : Int32) : zCV := zA v 0 (upd (v.2 0) (f_X6_at p0 p1).toNatClampNeg (((v.2 0) (f_X6_at p0 p1).toNatClampNeg) + (1 : Int32)))
def s_X6_wears_53 (v : zCV) (p0 : Int32) (p1 : Int32) : zCV := zA (s_X6_wears_13 v p0 p1) 0 (upd ((s_X6_wears_13 v p0 p1).2 0) (f_X6_at p0 p1).toNatClampNeg (-6 : Int32))
def s_X6_wears_64 (v : zCV) (p0 : Int32) (p1 : Int32) : zCV := zA (s_X6_wears_53 v p0 p1) 0 (upd ((s_X6_wears_53 v p0 p1).2 0) 15 ((((s_X6_wears_53 v p0 p1).2 0) 15) + (1 : Int32)))
def f_X6_wears (v : zCV) (p0 : Int32) (p1 : Int32) : zCV := if (((s_X6_wears_13 v p0 p1).2 0) 2) = (0 : Int32) then ((s_X6_wears_13 v p0 p1)) else (if (((s_X6_wears_13 v p0 p1).2 0) (f_X6_at p0 p1).toNatClampNeg) < (((s_X6_wears_13 v p0 p1).2 0) 2) then ((s_X6_wears_13 v p0 p1)) else ((s_X6_wears_64 v p0 p1)))
set_option maxRecDepth 100000 in
set_option maxHeartbeats 4000000 in
theorem m_X6_wears (l : Launch) (g : zG) (q : Nat → Nat) (v : zCV) (p0 : Int32) (p1 : Int32) (h0 : vp_in p0 16) (h1 : vp_in p1 6) : ZV l yX6_wears wsX6_wears rm_X6_wears g (mo g q v) [.ref (q 0), .int p0, .int p1] (mo g q (f_X6_wears v p0 p1)) := by
  refine zopenV (cc := cX6_wears) (maxL := 3) (by decide +kernel) rfl (Nat.le_of_ble_eq_true rfl) ?_
  intro p e s m below meth c A Q ls hx hb hml hown hts hP hK hD hA hN hl hret
  have hS : va_S A s.heap s.heap [] := va_S.rf
  have hl : lv_has ls 3 [(0, .ref (q 0)), (1, .int p0), (2, .int p1)] := hl
  have hown : s.vm.findClass RX6 = some m.cls := hown
  refine lv_aload_n hx hb dX6_wears_0 rfl (lv_at hl 0 rfl) ?_
  refine va_get (D := g.1) (ci := 6) (v := .ref (q 1)) (C := RX6) (T := TX6) (N := 12) hx hb hts (zin_X6_wears_X6) hown hK hP 0 rfl rfl 0 (by decide) (hts (.fieldLink RX6 7 "PegClerksModel" "all" "[I") (by decide +kernel)) (fun _ h9 => h9) rfl dX6_wears_1 ?_
  refine lv_iload_n hx hb dX6_wears_4 rfl (lv_at hl 1 rfl) ?_
  refine lv_iload_n hx hb dX6_wears_5 rfl (lv_at hl 2 rfl) ?_
  refine zcSi (n := 2) (As := [.int p0, .int p1]) (rest := [.ref (q 1)]) hx hb hml hown hts hN (m_X6_at l g p0 p1) gX6_wears_X6_at rfl (by decide +kernel) ⟨rfl, rfl⟩ ⟨Nat.le_of_ble_eq_true rfl, Nat.le_of_ble_eq_true rfl⟩ hK hP hD hS hA rfl hl.1 rfl (Nat.le_of_ble_eq_true rfl) dX6_wears_6 ⟨Nat.zero_le _, Nat.zero_le _⟩ (fun H locs hP hD hS => ?_)
  refine lv_dup2_11 hx hb dX6_wears_9 rfl rfl ?_
  refine z_iald (f := (v.2 0)) (k := (f_X6_at p0 p1).toNatClampNeg) hx hb hK hP 1 0 rfl rfl (zin_at h0 h1) rfl dX6_wears_10 ?_
  refine lv_iconst (v := (1 : Int32)) hx hb dX6_wears_11 (by decide) ?_
  refine lv_iadd hx hb dX6_wears_12 ?_
  refine z_iast (f := (v.2 0)) (k := (f_X6_at p0 p1).toNatClampNeg) hx hb hK hP hD hS 1 0 rfl rfl (zin_at h0 h1) rfl dX6_wears_13 (fun H locs hP hD hS => ?_)
  have hP : va_P g.1 vwCl (mo g q (s_X6_wears_13 v p0 p1)) H := (congrArg (fun z => va_P g.1 vwCl z H) (mo_A0 g q v (upd (v.2 0) (f_X6_at p0 p1).toNatClampNeg (((v.2 0) (f_X6_at p0 p1).toNatClampNeg) + (1 : Int32))))).mp hP
  have hD : va_D A (mo g q (s_X6_wears_13 v p0 p1)) := (congrArg (fun z => va_D A z) (mo_A0 g q v (upd (v.2 0) (f_X6_at p0 p1).toNatClampNeg (((v.2 0) (f_X6_at p0 p1).toNatClampNeg) + (1 : Int32))))).mp hD
  refine lv_aload_n hx hb dX6_wears_14 rfl (lv_at hl 0 rfl) ?_
  refine va_get (D := g.1) (ci := 6) (v := .ref (q 1)) (C := RX6) (T := TX6) (N := 12) hx hb hts (zin_X6_wears_X6) hown hK hP 0 rfl rfl 0 (by decide) (hts (.fieldLink RX6 7 "PegClerksModel" "all" "[I") (by decide +kernel)) (fun _ h9 => h9) rfl dX6_wears_15 ?_
  refine lv_iconst (v := (2 : Int32)) hx hb dX6_wears_18 (by decide) ?_
  refine z_iald (f := ((s_X6_wears_13 v p0 p1).2 0)) (k := 2) hx hb hK hP 1 0 rfl rfl (zlit (2 : Int32) 136 (by decide +kernel)) (by decide +kernel) dX6_wears_19 ?_
  refine lv_if_eq (tgt := 65) hx hb dX6_wears_20 (by decide) (fun c_20 => ?_) (fun c_20 => ?_)
  · have E : (f_X6_wears v p0 p1) = (s_X6_wears_13 v p0 p1) := (if_pos c_20).trans rfl
    have e2 : (mo g q (s_X6_wears_13 v p0 p1)) = (mo g q (f_X6_wears v p0 p1)) := by rw [E]
    exact hret (mo g q (s_X6_wears_13 v p0 p1)) _ _ _ _ dX6_wears_65 e2 hP hD hS
  · refine lv_aload_n hx hb dX6_wears_23 rfl (lv_at hl 0 rfl) ?_
    refine va_get (D := g.1) (ci := 6) (v := .ref (q 1)) (C := RX6) (T := TX6) (N := 12) hx hb hts (zin_X6_wears_X6) hown hK hP 0 rfl rfl 0 (by decide) (hts (.fieldLink RX6 7 "PegClerksModel" "all" "[I") (by decide +kernel)) (fun _ h9 => h9) rfl dX6_wears_24 ?_
    refine lv_iload_n hx hb dX6_wears_27 rfl (lv_at hl 1 rfl) ?_
    refine lv_iload_n hx hb dX6_wears_28 rfl (lv_at hl 2 rfl) ?_
    refine zcSi (n := 2) (As := [.int p0, .int p1]) (rest := [.ref (q 1)]) hx hb hml hown hts hN (m_X6_at l g p0 p1) gX6_wears_X6_at rfl (by decide +kernel) ⟨rfl, rfl⟩ ⟨Nat.le_of_ble_eq_true rfl, Nat.le_of_ble_eq_true rfl⟩ hK hP hD hS hA rfl hl.1 rfl (Nat.le_of_ble_eq_true rfl) dX6_wears_29 ⟨Nat.zero_le _, Nat.zero_le _⟩ (fun H locs hP hD hS => ?_)
    refine z_iald (f := ((s_X6_wears_13 v p0 p1).2 0)) (k := (f_X6_at p0 p1).toNatClampNeg) hx hb hK hP 1 0 rfl rfl (zin_at h0 h1) rfl dX6_wears_32 ?_
    refine lv_aload_n hx hb dX6_wears_33 rfl (lv_at hl 0 rfl) ?_
    refine va_get (D := g.1) (ci := 6) (v := .ref (q 1)) (C := RX6) (T := TX6) (N := 12) hx hb hts (zin_X6_wears_X6) hown hK hP 0 rfl rfl 0 (by decide) (hts (.fieldLink RX6 7 "PegClerksModel" "all" "[I") (by decide +kernel)) (fun _ h9 => h9) rfl dX6_wears_34 ?_
    refine lv_iconst (v := (2 : Int32)) hx hb dX6_wears_37 (by decide) ?_
    refine z_iald (f := ((s_X6_wears_13 v p0 p1).2 0)) (k := 2) hx hb hK hP 1 0 rfl rfl (zlit (2 : Int32) 136 (by decide +kernel)) (by decide +kernel) dX6_wears_38 ?_
    refine lv_icmp_lt (tgt := 65) hx hb dX6_wears_39 (by decide) (fun c_39 => ?_) (fun c_39 => ?_)
    · have E : (f_X6_wears v p0 p1) = (s_X6_wears_13 v p0 p1) := (if_neg c_20).trans ((if_pos c_39).trans rfl)
      have e2 : (mo g q (s_X6_wears_13 v p0 p1)) = (mo g q (f_X6_wears v p0 p1)) := by rw [E]
      exact hret (mo g q (s_X6_wears_13 v p0 p1)) _ _ _ _ dX6_wears_65 e2 hP hD hS
    · refine lv_aload_n hx hb dX6_wears_42 rfl (lv_at hl 0 rfl) ?_
      refine va_get (D := g.1) (ci := 6) (v := .ref (q 1)) (C := RX6) (T := TX6) (N := 12) hx hb hts (zin_X6_wears_X6) hown hK hP 0 rfl rfl 0 (by decide) (hts (.fieldLink RX6 7 "PegClerksModel" "all" "[I") (by decide +kernel)) (fun _ h9 => h9) rfl dX6_wears_43 ?_
      refine lv_iload_n hx hb dX6_wears_46 rfl (lv_at hl 1 rfl) ?_
      refine lv_iload_n hx hb dX6_wears_47 rfl (lv_at hl 2 rfl) ?_
      refine zcSi (n := 2) (As := [.int p0, .int p1]) (rest := [.ref (q 1)]) hx hb hml hown hts hN (m_X6_at l g p0 p1) gX6_wears_X6_at rfl (by decide +kernel) ⟨rfl, rfl⟩ ⟨Nat.le_of_ble_eq_true rfl, Nat.le_of_ble_eq_true rfl⟩ hK hP hD hS hA rfl hl.1 rfl (Nat.le_of_ble_eq_true rfl) dX6_wears_48 ⟨Nat.zero_le _, Nat.zero_le _⟩ (fun H locs hP hD hS => ?_)
      refine lv_bipush (v := (-6 : Int32)) hx hb dX6_wears_51 (by decide) ?_
      refine z_iast (f := ((s_X6_wears_13 v p0 p1).2 0)) (k := (f_X6_at p0 p1).toNatClampNeg) hx hb hK hP hD hS 1 0 rfl rfl (zin_at h0 h1) rfl dX6_wears_53 (fun H locs hP hD hS => ?_)
      have hP : va_P g.1 vwCl (mo g q (s_X6_wears_53 v p0 p1)) H := (congrArg (fun z => va_P g.1 vwCl z H) (mo_A0 g q (s_X6_wears_13 v p0 p1) (upd ((s_X6_wears_13 v p0 p1).2 0) (f_X6_at p0 p1).toNatClampNeg (-6 : Int32)))).mp hP
      have hD : va_D A (mo g q (s_X6_wears_53 v p0 p1)) := (congrArg (fun z => va_D A z) (mo_A0 g q (s_X6_wears_13 v p0 p1) (upd ((s_X6_wears_13 v p0 p1).2 0) (f_X6_at p0 p1).toNatClampNeg (-6 : Int32)))).mp hD
      refine lv_aload_n hx hb dX6_wears_54 rfl (lv_at hl 0 rfl) ?_
      refine va_get (D := g.1) (ci := 6) (v := .ref (q 1)) (C := RX6) (T := TX6) (N := 12) hx hb hts (zin_X6_wears_X6) hown hK hP 0 rfl rfl 0 (by decide) (hts (.fieldLink RX6 7 "PegClerksModel" "all" "[I") (by decide +kernel)) (fun _ h9 => h9) rfl dX6_wears_55 ?_
      refine lv_bipush (v := (15 : Int32)) hx hb dX6_wears_58 (by decide) ?_
      refine lv_dup2_11 hx hb dX6_wears_60 rfl rfl ?_
      refine z_iald (f := ((s_X6_wears_53 v p0 p1).2 0)) (k := 15) hx hb hK hP 1 0 rfl rfl (zlit (15 : Int32) 136 (by decide +kernel)) (by decide +kernel) dX6_wears_61 ?_
      refine lv_iconst (v := (1 : Int32)) hx hb dX6_wears_62 (by decide) ?_
      refine lv_iadd hx hb dX6_wears_63 ?_
      refine z_iast (f := ((s_X6_wears_53 v p0 p1).2 0)) (k := 15) hx hb hK hP hD hS 1 0 rfl rfl (zlit (15 : Int32) 136 (by decide +kernel)) (by decide +kernel) dX6_wears_64 (fun H locs hP hD hS => ?_)
      have hP : va_P g.1 vwCl (mo g q (s_X6_wears_64 v p0 p1)) H := (congrArg (fun z => va_P g.1 vwCl z H) (mo_A0 g q (s_X6_wears_53 v p0 p1) (upd ((s_X6_wears_53 v p0 p1).2 0) 15 ((((s_X6_wears_53 v p0 p1).2 0) 15) + (1 : Int32))))).mp hP
      have hD : va_D A (mo g q (s_X6_wears_64 v p0 p1)) := (congrArg (fun z => va_D A z) (mo_A0 g q (s_X6_wears_53 v p0 p1) (upd ((s_X6_wears_53 v p0 p1).2 0) 15 ((((s_X6_wears_53 v p0 p1).2 0) 15) + (1 : Int32))))).mp hD
      have E : (f_X6_wears v p0 p1) = (s_X6_wears_64 v p0 p1) := (if_neg c_20).trans ((if_neg c_39).trans rfl)
      have e2 : (mo g q (s_X6_wears_64 v p0 p1)) = (mo g q (f_X6_wears v p0 p1)) := by rw [E]
      exact hret (mo g q (s_X6_wears_64 v p0 p1)) _ _ _ _ dX6_wears_65 e2 hP hD hS
abbrev rm_X6_lies : Room := { frames := 1, cells := 0, slots := 0, locals := 20 }
set_option maxRecDepth 20000 in
theorem zin_X6_lies_X6 : ∀ w ∈ wsX60, w ∈ wsX6_lies := by decide +kernel
def s_X6_lies_10 (v : zCV) : zCV := zA v 0 (upd (v.2 0) 9 (((v.2 0) 9) + (1 : Int32)))
def s_X6_lies_94 (v : zCV) : zCV := zA (s_X6_lies_10 v) 0 (upd ((s_X6_lies_10 v).2 0) 12 ((((s_X6_lies_10 v).2 0) 12) + (1 : Int32)))
def s_X6_lies_96 (v : zCV) : zCV := (f_X6_newOne (s_X6_lies_94 v))
def s_X6_lies_80 (v : zCV) : zCV := zA (s_X6_lies_10 v) 0 (upd ((s_X6_lies_10 v).2 0) 11 ((((s_X6_lies_10 v).2 0) 11) + (1 : Int32)))
def s_X6_lies_96_2 (v : zCV) : zCV := (f_X6_newOne (s_X6_lies_80 v))
def s_X6_lies_49 (v : zCV) : zCV := zA (s_X6_lies_10 v) 0 (upd ((s_X6_lies_10 v).2 0) 13 ((((s_X6_lies_10 v).2 0) 13) + (1 : Int32)))
def s_X6_lies_96_3 (v : zCV) : zCV := (f_X6_newOne (s_X6_lies_49 v))
def f_X6_lies (v : zCV) : zCV := if (((s_X6_lies_10 v).2 0) 0) ≤ (((s_X6_lies_10 v).2 0) 9) then (if (((s_X6_lies_10 v).2 0) 8) = (1 : Int32) then ((s_X6_lies_96_3 v)) else (if (((s_X6_lies_10 v).2 0) 7) = (((s_X6_lies_10 v).2 0) 6) then ((s_X6_lies_96_2 v)) else ((s_X6_lies_96 v)))) else ((s_X6_lies_10 v))
set_option maxRecDepth 100000 in
set_option maxHeartbeats 4000000 in
theorem m_X6_lies (l : Launch) (g : zG) (q : Nat → Nat) (v : zCV) : ZV l yX6_lies wsX6_lies rm_X6_lies g (mo g q v) [.ref (q 0)] (mo g q (f_X6_lies v)) := by
  refine zopenV (cc := cX6_lies) (maxL := 1) (by decide +kernel) rfl (Nat.le_of_ble_eq_true rfl) ?_
  intro p e s m below meth c A Q ls hx hb hml hown hts hP hK hD hA hN hl hret
  have hS : va_S A s.heap s.heap [] := va_S.rf
  have hl : lv_has ls 1 [(0, .ref (q 0))] := hl
  have hown : s.vm.findClass RX6 = some m.cls := hown
  refine lv_aload_n hx hb dX6_lies_0 rfl (lv_at hl 0 rfl) ?_
  refine va_get (D := g.1) (ci := 6) (v := .ref (q 1)) (C := RX6) (T := TX6) (N := 12) hx hb hts (zin_X6_lies_X6) hown hK hP 0 rfl rfl 0 (by decide) (hts (.fieldLink RX6 7 "PegClerksModel" "all" "[I") (by decide +kernel)) (fun _ h9 => h9) rfl dX6_lies_1 ?_
  refine lv_bipush (v := (9 : Int32)) hx hb dX6_lies_4 (by decide) ?_
  refine lv_dup2_11 hx hb dX6_lies_6 rfl rfl ?_
  refine z_iald (f := (v.2 0)) (k := 9) hx hb hK hP 1 0 rfl rfl (zlit (9 : Int32) 136 (by decide +kernel)) (by decide +kernel) dX6_lies_7 ?_
  refine lv_iconst (v := (1 : Int32)) hx hb dX6_lies_8 (by decide) ?_
  refine lv_iadd hx hb dX6_lies_9 ?_
  refine z_iast (f := (v.2 0)) (k := 9) hx hb hK hP hD hS 1 0 rfl rfl (zlit (9 : Int32) 136 (by decide +kernel)) (by decide +kernel) dX6_lies_10 (fun H locs hP hD hS => ?_)
  have hP : va_P g.1 vwCl (mo g q (s_X6_lies_10 v)) H := (congrArg (fun z => va_P g.1 vwCl z H) (mo_A0 g q v (upd (v.2 0) 9 (((v.2 0) 9) + (1 : Int32))))).mp hP
  have hD : va_D A (mo g q (s_X6_lies_10 v)) := (congrArg (fun z => va_D A z) (mo_A0 g q v (upd (v.2 0) 9 (((v.2 0) 9) + (1 : Int32))))).mp hD
  refine lv_aload_n hx hb dX6_lies_11 rfl (lv_at hl 0 rfl) ?_
  refine va_get (D := g.1) (ci := 6) (v := .ref (q 1)) (C := RX6) (T := TX6) (N := 12) hx hb hts (zin_X6_lies_X6) hown hK hP 0 rfl rfl 0 (by decide) (hts (.fieldLink RX6 7 "PegClerksModel" "all" "[I") (by decide +kernel)) (fun _ h9 => h9) rfl dX6_lies_12 ?_
  refine lv_bipush (v := (9 : Int32)) hx hb dX6_lies_15 (by decide) ?_
  refine z_iald (f := ((s_X6_lies_10 v).2 0)) (k := 9) hx hb hK hP 1 0 rfl rfl (zlit (9 : Int32) 136 (by decide +kernel)) (by decide +kernel) dX6_lies_17 ?_
  refine lv_aload_n hx hb dX6_lies_18 rfl (lv_at hl 0 rfl) ?_
  refine va_get (D := g.1) (ci := 6) (v := .ref (q 1)) (C := RX6) (T := TX6) (N := 12) hx hb hts (zin_X6_lies_X6) hown hK hP 0 rfl rfl 0 (by decide) (hts (.fieldLink RX6 7 "PegClerksModel" "all" "[I") (by decide +kernel)) (fun _ h9 => h9) rfl dX6_lies_19 ?_
  refine lv_iconst (v := (0 : Int32)) hx hb dX6_lies_22 (by decide) ?_
  refine z_iald (f := ((s_X6_lies_10 v).2 0)) (k := 0) hx hb hK hP 1 0 rfl rfl (zlit (0 : Int32) 136 (by decide +kernel)) (by decide +kernel) dX6_lies_23 ?_
  refine lv_icmp_ge (tgt := 28) hx hb dX6_lies_24 (by decide) (fun c_24 => ?_) (fun c_24 => ?_)
  · refine lv_aload_n hx hb dX6_lies_28 rfl (lv_at hl 0 rfl) ?_
    refine va_get (D := g.1) (ci := 6) (v := .ref (q 1)) (C := RX6) (T := TX6) (N := 12) hx hb hts (zin_X6_lies_X6) hown hK hP 0 rfl rfl 0 (by decide) (hts (.fieldLink RX6 7 "PegClerksModel" "all" "[I") (by decide +kernel)) (fun _ h9 => h9) rfl dX6_lies_29 ?_
    refine lv_bipush (v := (8 : Int32)) hx hb dX6_lies_32 (by decide) ?_
    refine z_iald (f := ((s_X6_lies_10 v).2 0)) (k := 8) hx hb hK hP 1 0 rfl rfl (zlit (8 : Int32) 136 (by decide +kernel)) (by decide +kernel) dX6_lies_34 ?_
    refine lv_iconst (v := (1 : Int32)) hx hb dX6_lies_35 (by decide) ?_
    refine lv_icmp_ne (tgt := 53) hx hb dX6_lies_36 (by decide) (fun c_36 => ?_) (fun c_36 => ?_)
    · refine lv_aload_n hx hb dX6_lies_53 rfl (lv_at hl 0 rfl) ?_
      refine va_get (D := g.1) (ci := 6) (v := .ref (q 1)) (C := RX6) (T := TX6) (N := 12) hx hb hts (zin_X6_lies_X6) hown hK hP 0 rfl rfl 0 (by decide) (hts (.fieldLink RX6 7 "PegClerksModel" "all" "[I") (by decide +kernel)) (fun _ h9 => h9) rfl dX6_lies_54 ?_
      refine lv_bipush (v := (7 : Int32)) hx hb dX6_lies_57 (by decide) ?_
      refine z_iald (f := ((s_X6_lies_10 v).2 0)) (k := 7) hx hb hK hP 1 0 rfl rfl (zlit (7 : Int32) 136 (by decide +kernel)) (by decide +kernel) dX6_lies_59 ?_
      refine lv_aload_n hx hb dX6_lies_60 rfl (lv_at hl 0 rfl) ?_
      refine va_get (D := g.1) (ci := 6) (v := .ref (q 1)) (C := RX6) (T := TX6) (N := 12) hx hb hts (zin_X6_lies_X6) hown hK hP 0 rfl rfl 0 (by decide) (hts (.fieldLink RX6 7 "PegClerksModel" "all" "[I") (by decide +kernel)) (fun _ h9 => h9) rfl dX6_lies_61 ?_
      refine lv_bipush (v := (6 : Int32)) hx hb dX6_lies_64 (by decide) ?_
      refine z_iald (f := ((s_X6_lies_10 v).2 0)) (k := 6) hx hb hK hP 1 0 rfl rfl (zlit (6 : Int32) 136 (by decide +kernel)) (by decide +kernel) dX6_lies_66 ?_
      refine lv_icmp_ne (tgt := 84) hx hb dX6_lies_67 (by decide) (fun c_67 => ?_) (fun c_67 => ?_)
      · refine lv_aload_n hx hb dX6_lies_84 rfl (lv_at hl 0 rfl) ?_
        refine va_get (D := g.1) (ci := 6) (v := .ref (q 1)) (C := RX6) (T := TX6) (N := 12) hx hb hts (zin_X6_lies_X6) hown hK hP 0 rfl rfl 0 (by decide) (hts (.fieldLink RX6 7 "PegClerksModel" "all" "[I") (by decide +kernel)) (fun _ h9 => h9) rfl dX6_lies_85 ?_
        refine lv_bipush (v := (12 : Int32)) hx hb dX6_lies_88 (by decide) ?_
        refine lv_dup2_11 hx hb dX6_lies_90 rfl rfl ?_
        refine z_iald (f := ((s_X6_lies_10 v).2 0)) (k := 12) hx hb hK hP 1 0 rfl rfl (zlit (12 : Int32) 136 (by decide +kernel)) (by decide +kernel) dX6_lies_91 ?_
        refine lv_iconst (v := (1 : Int32)) hx hb dX6_lies_92 (by decide) ?_
        refine lv_iadd hx hb dX6_lies_93 ?_
        refine z_iast (f := ((s_X6_lies_10 v).2 0)) (k := 12) hx hb hK hP hD hS 1 0 rfl rfl (zlit (12 : Int32) 136 (by decide +kernel)) (by decide +kernel) dX6_lies_94 (fun H locs hP hD hS => ?_)
        have hP : va_P g.1 vwCl (mo g q (s_X6_lies_94 v)) H := (congrArg (fun z => va_P g.1 vwCl z H) (mo_A0 g q (s_X6_lies_10 v) (upd ((s_X6_lies_10 v).2 0) 12 ((((s_X6_lies_10 v).2 0) 12) + (1 : Int32))))).mp hP
        have hD : va_D A (mo g q (s_X6_lies_94 v)) := (congrArg (fun z => va_D A z) (mo_A0 g q (s_X6_lies_10 v) (upd ((s_X6_lies_10 v).2 0) 12 ((((s_X6_lies_10 v).2 0) 12) + (1 : Int32))))).mp hD
        refine lv_aload_n hx hb dX6_lies_95 rfl (lv_at hl 0 rfl) ?_
        refine zcVv (n := 0) (As := []) (rest := []) (Xr := []) (Xn := (mo g q (s_X6_lies_96 v))) (ci := 6) (C := RX6) (T := TX6) (N := 12) (q0 := 0) hx hb hml hown hts hN (m_X6_newOne l g q (s_X6_lies_94 v) ) gX6_lies_X6_newOne rfl (by decide +kernel) ⟨rfl, rfl⟩ ⟨Nat.le_of_ble_eq_true rfl, Nat.le_of_ble_eq_true rfl⟩ hK hP hD hS hA (zpn _) rfl rfl rfl hl.1 rfl (Nat.le_of_ble_eq_true rfl) dX6_lies_96 ⟨Nat.zero_le _, Nat.zero_le _⟩ (zpn' _) (fun H locs hP hD hS => ?_)
        have E : (f_X6_lies v) = (s_X6_lies_96 v) := (if_pos c_24).trans ((if_neg c_36).trans ((if_neg c_67).trans rfl))
        have e2 : (mo g q (s_X6_lies_96 v)) = (mo g q (f_X6_lies v)) := by rw [E]
        exact hret (mo g q (s_X6_lies_96 v)) _ _ _ _ dX6_lies_99 e2 hP hD hS
      · refine lv_aload_n hx hb dX6_lies_70 rfl (lv_at hl 0 rfl) ?_
        refine va_get (D := g.1) (ci := 6) (v := .ref (q 1)) (C := RX6) (T := TX6) (N := 12) hx hb hts (zin_X6_lies_X6) hown hK hP 0 rfl rfl 0 (by decide) (hts (.fieldLink RX6 7 "PegClerksModel" "all" "[I") (by decide +kernel)) (fun _ h9 => h9) rfl dX6_lies_71 ?_
        refine lv_bipush (v := (11 : Int32)) hx hb dX6_lies_74 (by decide) ?_
        refine lv_dup2_11 hx hb dX6_lies_76 rfl rfl ?_
        refine z_iald (f := ((s_X6_lies_10 v).2 0)) (k := 11) hx hb hK hP 1 0 rfl rfl (zlit (11 : Int32) 136 (by decide +kernel)) (by decide +kernel) dX6_lies_77 ?_
        refine lv_iconst (v := (1 : Int32)) hx hb dX6_lies_78 (by decide) ?_
        refine lv_iadd hx hb dX6_lies_79 ?_
        refine z_iast (f := ((s_X6_lies_10 v).2 0)) (k := 11) hx hb hK hP hD hS 1 0 rfl rfl (zlit (11 : Int32) 136 (by decide +kernel)) (by decide +kernel) dX6_lies_80 (fun H locs hP hD hS => ?_)
        have hP : va_P g.1 vwCl (mo g q (s_X6_lies_80 v)) H := (congrArg (fun z => va_P g.1 vwCl z H) (mo_A0 g q (s_X6_lies_10 v) (upd ((s_X6_lies_10 v).2 0) 11 ((((s_X6_lies_10 v).2 0) 11) + (1 : Int32))))).mp hP
        have hD : va_D A (mo g q (s_X6_lies_80 v)) := (congrArg (fun z => va_D A z) (mo_A0 g q (s_X6_lies_10 v) (upd ((s_X6_lies_10 v).2 0) 11 ((((s_X6_lies_10 v).2 0) 11) + (1 : Int32))))).mp hD
        refine lv_goto (tgt := 95) hx hb dX6_lies_81 (by decide) ?_
        refine lv_aload_n hx hb dX6_lies_95 rfl (lv_at hl 0 rfl) ?_
        refine zcVv (n := 0) (As := []) (rest := []) (Xr := []) (Xn := (mo g q (s_X6_lies_96_2 v))) (ci := 6) (C := RX6) (T := TX6) (N := 12) (q0 := 0) hx hb hml hown hts hN (m_X6_newOne l g q (s_X6_lies_80 v) ) gX6_lies_X6_newOne rfl (by decide +kernel) ⟨rfl, rfl⟩ ⟨Nat.le_of_ble_eq_true rfl, Nat.le_of_ble_eq_true rfl⟩ hK hP hD hS hA (zpn _) rfl rfl rfl hl.1 rfl (Nat.le_of_ble_eq_true rfl) dX6_lies_96 ⟨Nat.zero_le _, Nat.zero_le _⟩ (zpn' _) (fun H locs hP hD hS => ?_)
        have E : (f_X6_lies v) = (s_X6_lies_96_2 v) := (if_pos c_24).trans ((if_neg c_36).trans ((if_pos c_67).trans rfl))
        have e2 : (mo g q (s_X6_lies_96_2 v)) = (mo g q (f_X6_lies v)) := by rw [E]
        exact hret (mo g q (s_X6_lies_96_2 v)) _ _ _ _ dX6_lies_99 e2 hP hD hS
    · refine lv_aload_n hx hb dX6_lies_39 rfl (lv_at hl 0 rfl) ?_
      refine va_get (D := g.1) (ci := 6) (v := .ref (q 1)) (C := RX6) (T := TX6) (N := 12) hx hb hts (zin_X6_lies_X6) hown hK hP 0 rfl rfl 0 (by decide) (hts (.fieldLink RX6 7 "PegClerksModel" "all" "[I") (by decide +kernel)) (fun _ h9 => h9) rfl dX6_lies_40 ?_
      refine lv_bipush (v := (13 : Int32)) hx hb dX6_lies_43 (by decide) ?_
      refine lv_dup2_11 hx hb dX6_lies_45 rfl rfl ?_
      refine z_iald (f := ((s_X6_lies_10 v).2 0)) (k := 13) hx hb hK hP 1 0 rfl rfl (zlit (13 : Int32) 136 (by decide +kernel)) (by decide +kernel) dX6_lies_46 ?_
      refine lv_iconst (v := (1 : Int32)) hx hb dX6_lies_47 (by decide) ?_
      refine lv_iadd hx hb dX6_lies_48 ?_
      refine z_iast (f := ((s_X6_lies_10 v).2 0)) (k := 13) hx hb hK hP hD hS 1 0 rfl rfl (zlit (13 : Int32) 136 (by decide +kernel)) (by decide +kernel) dX6_lies_49 (fun H locs hP hD hS => ?_)
      have hP : va_P g.1 vwCl (mo g q (s_X6_lies_49 v)) H := (congrArg (fun z => va_P g.1 vwCl z H) (mo_A0 g q (s_X6_lies_10 v) (upd ((s_X6_lies_10 v).2 0) 13 ((((s_X6_lies_10 v).2 0) 13) + (1 : Int32))))).mp hP
      have hD : va_D A (mo g q (s_X6_lies_49 v)) := (congrArg (fun z => va_D A z) (mo_A0 g q (s_X6_lies_10 v) (upd ((s_X6_lies_10 v).2 0) 13 ((((s_X6_lies_10 v).2 0) 13) + (1 : Int32))))).mp hD
      refine lv_goto (tgt := 95) hx hb dX6_lies_50 (by decide) ?_
      refine lv_aload_n hx hb dX6_lies_95 rfl (lv_at hl 0 rfl) ?_
      refine zcVv (n := 0) (As := []) (rest := []) (Xr := []) (Xn := (mo g q (s_X6_lies_96_3 v))) (ci := 6) (C := RX6) (T := TX6) (N := 12) (q0 := 0) hx hb hml hown hts hN (m_X6_newOne l g q (s_X6_lies_49 v) ) gX6_lies_X6_newOne rfl (by decide +kernel) ⟨rfl, rfl⟩ ⟨Nat.le_of_ble_eq_true rfl, Nat.le_of_ble_eq_true rfl⟩ hK hP hD hS hA (zpn _) rfl rfl rfl hl.1 rfl (Nat.le_of_ble_eq_true rfl) dX6_lies_96 ⟨Nat.zero_le _, Nat.zero_le _⟩ (zpn' _) (fun H locs hP hD hS => ?_)
      have E : (f_X6_lies v) = (s_X6_lies_96_3 v) := (if_pos c_24).trans ((if_pos c_36).trans rfl)
      have e2 : (mo g q (s_X6_lies_96_3 v)) = (mo g q (f_X6_lies v)) := by rw [E]
      exact hret (mo g q (s_X6_lies_96_3 v)) _ _ _ _ dX6_lies_99 e2 hP hD hS
  · have E : (f_X6_lies v) = (s_X6_lies_10 v) := (if_neg c_24).trans rfl
    have e2 : (mo g q (s_X6_lies_10 v)) = (mo g q (f_X6_lies v)) := by rw [E]
    exact hret (mo g q (s_X6_lies_10 v)) _ _ _ _ dX6_lies_27 e2 hP hD hS
abbrev rm_X6_keeps : Room := { frames := 0, cells := 0, slots := 0, locals := 0 }
set_option maxRecDepth 20000 in
theorem zin_X6_keeps_X6 : ∀ w ∈ wsX60, w ∈ wsX6_keeps := by decide +kernel
def s_X6_keeps_20 (i2 : Nat) (w2_0 : zCV) : zCV := zA w2_0 1 (upd (w2_0.2 1) (nI i2).toNatClampNeg ((w2_0.2 0) (nI i2).toNatClampNeg))
def f_X6_keeps_L2  : Nat → Nat → zCV → zCV
  | 0, i2, w2_0 => w2_0
  | n2 + 1, i2, w2_0 => (f_X6_keeps_L2 n2 (i2 + 1) (s_X6_keeps_20 i2 w2_0))
def f_X6_keeps (v : zCV) : zCV := (f_X6_keeps_L2 (zfu 136) 0 v)
set_option maxRecDepth 100000 in
set_option maxHeartbeats 4000000 in
theorem m_X6_keeps (l : Launch) (g : zG) (q : Nat → Nat) (v : zCV) : ZV l yX6_keeps wsX6_keeps rm_X6_keeps g (mo g q v) [.ref (q 0)] (mo g q (f_X6_keeps v)) := by
  refine zopenV (cc := cX6_keeps) (maxL := 2) (by decide +kernel) rfl (Nat.le_of_ble_eq_true rfl) ?_
  intro p e s m below meth c A Q ls hx hb hml hown hts hP hK hD hA hN hl hret
  have hS : va_S A s.heap s.heap [] := va_S.rf
  have hl : lv_has ls 2 [(0, .ref (q 0))] := hl
  have hown : s.vm.findClass RX6 = some m.cls := hown
  refine lv_iconst (v := (0 : Int32)) hx hb dX6_keeps_0 (by decide) ?_
  refine lv_istore_n (lv' := [(1, .int (0 : Int32)), (0, .ref (q 0))]) hx hb dX6_keeps_1 rfl hl (by decide) rfl (fun ls hl => ?_)
  have L2 : ∀ (n2 : Nat) (i2 : Nat), i2 + n2 = 136 → ∀ (w2_0 : zCV) (H : Heap) (locs : List Loc) (ls : Array Slot), va_P g.1 vwCl (mo g q w2_0) H → va_D A (mo g q w2_0) → va_S A s.heap H locs → lv_has ls 2 [(1, .int (nI i2)), (0, .ref (q 0))] → (∀ (H : Heap) (locs : List Loc) (ls : Array Slot), va_P g.1 vwCl (mo g q (f_X6_keeps_L2 n2 i2 w2_0)) H → va_D A (mo g q (f_X6_keeps_L2 n2 i2 w2_0)) → va_S A s.heap H locs → lv_has ls 2 [(0, .ref (q 0))] → W p l e rm_X6_keeps s m ([.ref (q 0)] : List Value).toArray below meth c H locs 0 0 Q (F0 m 27 ls [])) → W p l e rm_X6_keeps s m ([.ref (q 0)] : List Value).toArray below meth c H locs 0 0 Q (F0 m 2 ls []) := by
    intro n2
    induction n2 with
    | zero =>
      intro i2 hin2 w2_0 H locs ls hP hD hS hl kx
      refine lv_iload_n hx hb dX6_keeps_2 rfl (lv_at hl 0 rfl) ?_
      refine lv_sipush (v := (136 : Int32)) hx hb dX6_keeps_3 (by decide) ?_
      refine lv_icmp_ge (tgt := 27) hx hb dX6_keeps_6 (by decide) (fun c_6 => ?_) (fun c_6 => ?_)
      rotate_left
      · exact absurd (by rw [show i2 = 136 by omega]; decide) c_6
      have E : (f_X6_keeps_L2 0 i2 w2_0) = w2_0 := rfl
      rw [E] at kx
      exact kx _ _ _ hP hD hS (lv_sub hl [1] rfl)
    | succ n2 ih2 =>
      intro i2 hin2 w2_0 H locs ls hP hD hS hl kx
      refine lv_iload_n hx hb dX6_keeps_2 rfl (lv_at hl 0 rfl) ?_
      refine lv_sipush (v := (136 : Int32)) hx hb dX6_keeps_3 (by decide) ?_
      refine lv_icmp_ge (tgt := 27) hx hb dX6_keeps_6 (by decide) (fun c_6 => ?_) (fun c_6 => ?_)
      · exact absurd c_6 (nI_ge (a := i2) (b := 136) (by omega) (by omega))
      refine lv_aload_n hx hb dX6_keeps_9 rfl (lv_at hl 1 rfl) ?_
      refine va_get (D := g.1) (ci := 6) (v := .ref (q 2)) (C := RX6) (T := TX6) (N := 12) hx hb hts (zin_X6_keeps_X6) hown hK hP 0 rfl rfl 1 (by decide) (hts (.fieldLink RX6 13 "PegClerksModel" "kept" "[I") (by decide +kernel)) (fun _ h9 => h9) rfl dX6_keeps_10 ?_
      refine lv_iload_n hx hb dX6_keeps_13 rfl (lv_at hl 0 rfl) ?_
      refine lv_aload_n hx hb dX6_keeps_14 rfl (lv_at hl 1 rfl) ?_
      refine va_get (D := g.1) (ci := 6) (v := .ref (q 1)) (C := RX6) (T := TX6) (N := 12) hx hb hts (zin_X6_keeps_X6) hown hK hP 0 rfl rfl 0 (by decide) (hts (.fieldLink RX6 7 "PegClerksModel" "all" "[I") (by decide +kernel)) (fun _ h9 => h9) rfl dX6_keeps_15 ?_
      refine lv_iload_n hx hb dX6_keeps_18 rfl (lv_at hl 0 rfl) ?_
      refine z_iald (f := (w2_0.2 0)) (k := (nI i2).toNatClampNeg) hx hb hK hP 1 0 rfl rfl (vp_in_nI (by omega) (by omega)) rfl dX6_keeps_19 ?_
      refine z_iast (f := (w2_0.2 1)) (k := (nI i2).toNatClampNeg) hx hb hK hP hD hS 2 0 rfl rfl (vp_in_nI (by omega) (by omega)) rfl dX6_keeps_20 (fun H locs hP hD hS => ?_)
      have hP : va_P g.1 vwCl (mo g q (s_X6_keeps_20 i2 w2_0)) H := (congrArg (fun z => va_P g.1 vwCl z H) (mo_A1 g q w2_0 (upd (w2_0.2 1) (nI i2).toNatClampNeg ((w2_0.2 0) (nI i2).toNatClampNeg)))).mp hP
      have hD : va_D A (mo g q (s_X6_keeps_20 i2 w2_0)) := (congrArg (fun z => va_D A z) (mo_A1 g q w2_0 (upd (w2_0.2 1) (nI i2).toNatClampNeg ((w2_0.2 0) (nI i2).toNatClampNeg)))).mp hD
      refine lv_iinc (v := (nI (i2 + 1))) (lv' := [(1, .int (nI (i2 + 1))), (0, .ref (q 0))]) hx hb dX6_keeps_21 hl (k := 0) rfl (nI_1 i2) (by decide) rfl (fun ls hl => ?_)
      refine lv_goto (tgt := 2) hx hb dX6_keeps_24 (by decide) ?_
      have E : (f_X6_keeps_L2 (n2 + 1) i2 w2_0) = (f_X6_keeps_L2 n2 (i2 + 1) (s_X6_keeps_20 i2 w2_0)) := rfl
      rw [E] at kx
      exact ih2 (i2 + 1) (by omega) (s_X6_keeps_20 i2 w2_0) _ _ _  hP hD hS (lv_sub hl [0, 1] rfl) kx
  refine L2 (zfu 136) 0 (by rw [zfu_eq]) v _ _ _  hP hD hS (lv_sub hl [0, 1] rfl) (fun H locs ls hP hD hS hl => ?_)
  have E : (f_X6_keeps v) = (f_X6_keeps_L2 (zfu 136) 0 v) := rfl
  have e2 : (mo g q (f_X6_keeps_L2 (zfu 136) 0 v)) = (mo g q (f_X6_keeps v)) := by rw [E]
  exact hret (mo g q (f_X6_keeps_L2 (zfu 136) 0 v)) _ _ _ _ dX6_keeps_27 e2 hP hD hS
abbrev rm_X6_comesBack : Room := { frames := 0, cells := 0, slots := 0, locals := 0 }
set_option maxRecDepth 20000 in
theorem zin_X6_comesBack_X6 : ∀ w ∈ wsX60, w ∈ wsX6_comesBack := by decide +kernel
def s_X6_comesBack_20 (i2 : Nat) (w2_0 : zCV) : zCV := zA w2_0 0 (upd (w2_0.2 0) (nI i2).toNatClampNeg ((w2_0.2 1) (nI i2).toNatClampNeg))
def f_X6_comesBack_L2  : Nat → Nat → zCV → zCV
  | 0, i2, w2_0 => w2_0
  | n2 + 1, i2, w2_0 => (f_X6_comesBack_L2 n2 (i2 + 1) (s_X6_comesBack_20 i2 w2_0))
def f_X6_comesBack (v : zCV) : zCV := (f_X6_comesBack_L2 (zfu 136) 0 v)
set_option maxRecDepth 100000 in
set_option maxHeartbeats 4000000 in
theorem m_X6_comesBack (l : Launch) (g : zG) (q : Nat → Nat) (v : zCV) : ZV l yX6_comesBack wsX6_comesBack rm_X6_comesBack g (mo g q v) [.ref (q 0)] (mo g q (f_X6_comesBack v)) := by
  refine zopenV (cc := cX6_comesBack) (maxL := 2) (by decide +kernel) rfl (Nat.le_of_ble_eq_true rfl) ?_
  intro p e s m below meth c A Q ls hx hb hml hown hts hP hK hD hA hN hl hret
  have hS : va_S A s.heap s.heap [] := va_S.rf
  have hl : lv_has ls 2 [(0, .ref (q 0))] := hl
  have hown : s.vm.findClass RX6 = some m.cls := hown
  refine lv_iconst (v := (0 : Int32)) hx hb dX6_comesBack_0 (by decide) ?_
  refine lv_istore_n (lv' := [(1, .int (0 : Int32)), (0, .ref (q 0))]) hx hb dX6_comesBack_1 rfl hl (by decide) rfl (fun ls hl => ?_)
  have L2 : ∀ (n2 : Nat) (i2 : Nat), i2 + n2 = 136 → ∀ (w2_0 : zCV) (H : Heap) (locs : List Loc) (ls : Array Slot), va_P g.1 vwCl (mo g q w2_0) H → va_D A (mo g q w2_0) → va_S A s.heap H locs → lv_has ls 2 [(1, .int (nI i2)), (0, .ref (q 0))] → (∀ (H : Heap) (locs : List Loc) (ls : Array Slot), va_P g.1 vwCl (mo g q (f_X6_comesBack_L2 n2 i2 w2_0)) H → va_D A (mo g q (f_X6_comesBack_L2 n2 i2 w2_0)) → va_S A s.heap H locs → lv_has ls 2 [(0, .ref (q 0))] → W p l e rm_X6_comesBack s m ([.ref (q 0)] : List Value).toArray below meth c H locs 0 0 Q (F0 m 27 ls [])) → W p l e rm_X6_comesBack s m ([.ref (q 0)] : List Value).toArray below meth c H locs 0 0 Q (F0 m 2 ls []) := by
    intro n2
    induction n2 with
    | zero =>
      intro i2 hin2 w2_0 H locs ls hP hD hS hl kx
      refine lv_iload_n hx hb dX6_comesBack_2 rfl (lv_at hl 0 rfl) ?_
      refine lv_sipush (v := (136 : Int32)) hx hb dX6_comesBack_3 (by decide) ?_
      refine lv_icmp_ge (tgt := 27) hx hb dX6_comesBack_6 (by decide) (fun c_6 => ?_) (fun c_6 => ?_)
      rotate_left
      · exact absurd (by rw [show i2 = 136 by omega]; decide) c_6
      have E : (f_X6_comesBack_L2 0 i2 w2_0) = w2_0 := rfl
      rw [E] at kx
      exact kx _ _ _ hP hD hS (lv_sub hl [1] rfl)
    | succ n2 ih2 =>
      intro i2 hin2 w2_0 H locs ls hP hD hS hl kx
      refine lv_iload_n hx hb dX6_comesBack_2 rfl (lv_at hl 0 rfl) ?_
      refine lv_sipush (v := (136 : Int32)) hx hb dX6_comesBack_3 (by decide) ?_
      refine lv_icmp_ge (tgt := 27) hx hb dX6_comesBack_6 (by decide) (fun c_6 => ?_) (fun c_6 => ?_)
      · exact absurd c_6 (nI_ge (a := i2) (b := 136) (by omega) (by omega))
      refine lv_aload_n hx hb dX6_comesBack_9 rfl (lv_at hl 1 rfl) ?_
      refine va_get (D := g.1) (ci := 6) (v := .ref (q 1)) (C := RX6) (T := TX6) (N := 12) hx hb hts (zin_X6_comesBack_X6) hown hK hP 0 rfl rfl 0 (by decide) (hts (.fieldLink RX6 7 "PegClerksModel" "all" "[I") (by decide +kernel)) (fun _ h9 => h9) rfl dX6_comesBack_10 ?_
      refine lv_iload_n hx hb dX6_comesBack_13 rfl (lv_at hl 0 rfl) ?_
      refine lv_aload_n hx hb dX6_comesBack_14 rfl (lv_at hl 1 rfl) ?_
      refine va_get (D := g.1) (ci := 6) (v := .ref (q 2)) (C := RX6) (T := TX6) (N := 12) hx hb hts (zin_X6_comesBack_X6) hown hK hP 0 rfl rfl 1 (by decide) (hts (.fieldLink RX6 13 "PegClerksModel" "kept" "[I") (by decide +kernel)) (fun _ h9 => h9) rfl dX6_comesBack_15 ?_
      refine lv_iload_n hx hb dX6_comesBack_18 rfl (lv_at hl 0 rfl) ?_
      refine z_iald (f := (w2_0.2 1)) (k := (nI i2).toNatClampNeg) hx hb hK hP 2 0 rfl rfl (vp_in_nI (by omega) (by omega)) rfl dX6_comesBack_19 ?_
      refine z_iast (f := (w2_0.2 0)) (k := (nI i2).toNatClampNeg) hx hb hK hP hD hS 1 0 rfl rfl (vp_in_nI (by omega) (by omega)) rfl dX6_comesBack_20 (fun H locs hP hD hS => ?_)
      have hP : va_P g.1 vwCl (mo g q (s_X6_comesBack_20 i2 w2_0)) H := (congrArg (fun z => va_P g.1 vwCl z H) (mo_A0 g q w2_0 (upd (w2_0.2 0) (nI i2).toNatClampNeg ((w2_0.2 1) (nI i2).toNatClampNeg)))).mp hP
      have hD : va_D A (mo g q (s_X6_comesBack_20 i2 w2_0)) := (congrArg (fun z => va_D A z) (mo_A0 g q w2_0 (upd (w2_0.2 0) (nI i2).toNatClampNeg ((w2_0.2 1) (nI i2).toNatClampNeg)))).mp hD
      refine lv_iinc (v := (nI (i2 + 1))) (lv' := [(1, .int (nI (i2 + 1))), (0, .ref (q 0))]) hx hb dX6_comesBack_21 hl (k := 0) rfl (nI_1 i2) (by decide) rfl (fun ls hl => ?_)
      refine lv_goto (tgt := 2) hx hb dX6_comesBack_24 (by decide) ?_
      have E : (f_X6_comesBack_L2 (n2 + 1) i2 w2_0) = (f_X6_comesBack_L2 n2 (i2 + 1) (s_X6_comesBack_20 i2 w2_0)) := rfl
      rw [E] at kx
      exact ih2 (i2 + 1) (by omega) (s_X6_comesBack_20 i2 w2_0) _ _ _  hP hD hS (lv_sub hl [0, 1] rfl) kx
  refine L2 (zfu 136) 0 (by rw [zfu_eq]) v _ _ _  hP hD hS (lv_sub hl [0, 1] rfl) (fun H locs ls hP hD hS hl => ?_)
  have E : (f_X6_comesBack v) = (f_X6_comesBack_L2 (zfu 136) 0 v) := rfl
  have e2 : (mo g q (f_X6_comesBack_L2 (zfu 136) 0 v)) = (mo g q (f_X6_comesBack v)) := by rw [E]
  exact hret (mo g q (f_X6_comesBack_L2 (zfu 136) 0 v)) _ _ _ _ dX6_comesBack_27 e2 hP hD hS
abbrev rm_X6_steps : Room := { frames := 4, cells := 0, slots := 0, locals := 87 }
set_option maxRecDepth 20000 in
theorem zin_X6_steps_X6 : ∀ w ∈ wsX60, w ∈ wsX6_steps := by decide +kernel
def r_X6_steps_21 (v : zCV) : Int32 := (f_X6_wouldJam v ((v.2 0) 4))
def r_X6_steps_58 (v : zCV) (i49 : Nat) (w49_0 : zCV) : Int32 := (f_X6_hasPeg w49_0 ((v.2 0) 4) (nI i49))
def s_X6_steps_66 (i49 : Nat) (w49_0 : zCV) : zCV := (f_X6_falls w49_0 (nI i49))
def s_X6_steps_72 (v : zCV) (i49 : Nat) (w49_0 : zCV) : zCV := (f_X6_wears (s_X6_steps_66 i49 w49_0) ((v.2 0) 4) (nI i49))
def f_X6_steps_L49 (v : zCV) : Nat → Nat → zCV → zCV
  | 0, i49, w49_0 => w49_0
  | n49 + 1, i49, w49_0 => if (r_X6_steps_58 v i49 w49_0) = (0 : Int32) then ((f_X6_steps_L49 v n49 (i49 + 1) w49_0)) else ((f_X6_steps_L49 v n49 (i49 + 1) (s_X6_steps_72 v i49 w49_0)))
def s_X6_steps_92 (v : zCV) : zCV := zA (f_X6_steps_L49 v (zfu 6) 0 v) 0 (upd ((f_X6_steps_L49 v (zfu 6) 0 v).2 0) 4 ((((v.2 0) 4) + (1 : Int32)) - (((((v.2 0) 4) + (1 : Int32)) / (16 : Int32)) * (16 : Int32))))
def s_X6_steps_103 (v : zCV) : zCV := zA (s_X6_steps_92 v) 0 (upd ((s_X6_steps_92 v).2 0) 10 ((((s_X6_steps_92 v).2 0) 10) + (1 : Int32)))
def s_X6_steps_105 (v : zCV) : zCV := (f_X6_lies (s_X6_steps_103 v))
def s_X6_steps_33 (v : zCV) : zCV := zA v 0 (upd (v.2 0) 5 (1 : Int32))
def s_X6_steps_44 (v : zCV) : zCV := zA (s_X6_steps_33 v) 0 (upd ((s_X6_steps_33 v).2 0) 14 ((((s_X6_steps_33 v).2 0) 14) + (1 : Int32)))
def f_X6_steps (v : zCV) : Int32 × zCV := if ((v.2 0) 5) = (1 : Int32) then (((0 : Int32), v)) else (if (r_X6_steps_21 v) = (0 : Int32) then (((1 : Int32), (s_X6_steps_105 v))) else (((0 : Int32), (s_X6_steps_44 v))))
set_option maxRecDepth 100000 in
set_option maxHeartbeats 4000000 in
theorem m_X6_steps (l : Launch) (g : zG) (q : Nat → Nat) (v : zCV) (hat : vp_in (v.2 0 4) 16) : ZI l yX6_steps wsX6_steps rm_X6_steps g (mo g q v) [.ref (q 0)] (f_X6_steps v).1 (mo g q (f_X6_steps v).2) := by
  refine zopenI (cc := cX6_steps) (maxL := 3) (ret := .boolean) (by decide +kernel) rfl (Nat.le_of_ble_eq_true rfl) ?_
  intro p e s m below meth c A Q ls hx hb hml hown hts hP hK hD hA hN hl hret
  have hS : va_S A s.heap s.heap [] := va_S.rf
  have hl : lv_has ls 3 [(0, .ref (q 0))] := hl
  have hown : s.vm.findClass RX6 = some m.cls := hown
  refine lv_aload_n hx hb dX6_steps_0 rfl (lv_at hl 0 rfl) ?_
  refine va_get (D := g.1) (ci := 6) (v := .ref (q 1)) (C := RX6) (T := TX6) (N := 12) hx hb hts (zin_X6_steps_X6) hown hK hP 0 rfl rfl 0 (by decide) (hts (.fieldLink RX6 7 "PegClerksModel" "all" "[I") (by decide +kernel)) (fun _ h9 => h9) rfl dX6_steps_1 ?_
  refine lv_iconst (v := (5 : Int32)) hx hb dX6_steps_4 (by decide) ?_
  refine z_iald (f := (v.2 0)) (k := 5) hx hb hK hP 1 0 rfl rfl (zlit (5 : Int32) 136 (by decide +kernel)) (by decide +kernel) dX6_steps_5 ?_
  refine lv_iconst (v := (1 : Int32)) hx hb dX6_steps_6 (by decide) ?_
  refine lv_icmp_ne (tgt := 12) hx hb dX6_steps_7 (by decide) (fun c_7 => ?_) (fun c_7 => ?_)
  · refine lv_aload_n hx hb dX6_steps_12 rfl (lv_at hl 0 rfl) ?_
    refine va_get (D := g.1) (ci := 6) (v := .ref (q 1)) (C := RX6) (T := TX6) (N := 12) hx hb hts (zin_X6_steps_X6) hown hK hP 0 rfl rfl 0 (by decide) (hts (.fieldLink RX6 7 "PegClerksModel" "all" "[I") (by decide +kernel)) (fun _ h9 => h9) rfl dX6_steps_13 ?_
    refine lv_iconst (v := (4 : Int32)) hx hb dX6_steps_16 (by decide) ?_
    refine z_iald (f := (v.2 0)) (k := 4) hx hb hK hP 1 0 rfl rfl (zlit (4 : Int32) 136 (by decide +kernel)) (by decide +kernel) dX6_steps_17 ?_
    refine lv_istore_n (lv' := [(1, .int ((v.2 0) 4)), (0, .ref (q 0))]) hx hb dX6_steps_18 rfl hl (by decide) rfl (fun ls hl => ?_)
    refine lv_aload_n hx hb dX6_steps_19 rfl (lv_at hl 1 rfl) ?_
    refine lv_iload_n hx hb dX6_steps_20 rfl (lv_at hl 0 rfl) ?_
    refine zcVi (n := 1) (As := [.int ((v.2 0) 4)]) (rest := []) (Xr := []) (Xn := (mo g q v)) (ci := 6) (C := RX6) (T := TX6) (N := 12) (q0 := 0) hx hb hml hown hts hN (m_X6_wouldJam l g q v ((v.2 0) 4) hat) gX6_steps_X6_wouldJam rfl (by decide +kernel) ⟨rfl, rfl⟩ ⟨Nat.le_of_ble_eq_true rfl, Nat.le_of_ble_eq_true rfl⟩ hK hP hD hS hA (zpn _) rfl rfl rfl hl.1 rfl (Nat.le_of_ble_eq_true rfl) dX6_steps_21 ⟨Nat.zero_le _, Nat.zero_le _⟩ (zpn' _) (fun H locs hP hD hS => ?_)
    refine lv_if_eq (tgt := 47) hx hb dX6_steps_24 (by decide) (fun c_24 => ?_) (fun c_24 => ?_)
    · refine lv_iconst (v := (0 : Int32)) hx hb dX6_steps_47 (by decide) ?_
      refine lv_istore_n (lv' := [(2, .int (0 : Int32)), (1, .int ((v.2 0) 4)), (0, .ref (q 0))]) hx hb dX6_steps_48 rfl hl (by decide) rfl (fun ls hl => ?_)
      have L49 : ∀ (n49 : Nat) (i49 : Nat), i49 + n49 = 6 → ∀ (w49_0 : zCV) (H : Heap) (locs : List Loc) (ls : Array Slot), va_P g.1 vwCl (mo g q w49_0) H → va_D A (mo g q w49_0) → va_S A s.heap H locs → lv_has ls 3 [(2, .int (nI i49)), (1, .int ((v.2 0) 4)), (0, .ref (q 0))] → (∀ (H : Heap) (locs : List Loc) (ls : Array Slot), va_P g.1 vwCl (mo g q (f_X6_steps_L49 v n49 i49 w49_0)) H → va_D A (mo g q (f_X6_steps_L49 v n49 i49 w49_0)) → va_S A s.heap H locs → lv_has ls 3 [(1, .int ((v.2 0) 4)), (0, .ref (q 0))] → W p l e rm_X6_steps s m ([.ref (q 0)] : List Value).toArray below meth c H locs 0 0 Q (F0 m 81 ls [])) → W p l e rm_X6_steps s m ([.ref (q 0)] : List Value).toArray below meth c H locs 0 0 Q (F0 m 49 ls []) := by
        intro n49
        induction n49 with
        | zero =>
          intro i49 hin49 w49_0 H locs ls hP hD hS hl kx
          refine lv_iload_n hx hb dX6_steps_49 rfl (lv_at hl 0 rfl) ?_
          refine lv_bipush (v := (6 : Int32)) hx hb dX6_steps_50 (by decide) ?_
          refine lv_icmp_ge (tgt := 81) hx hb dX6_steps_52 (by decide) (fun c_52 => ?_) (fun c_52 => ?_)
          rotate_left
          · exact absurd (by rw [show i49 = 6 by omega]; decide) c_52
          have E : (f_X6_steps_L49 v 0 i49 w49_0) = w49_0 := rfl
          rw [E] at kx
          exact kx _ _ _ hP hD hS (lv_sub hl [1, 2] rfl)
        | succ n49 ih49 =>
          intro i49 hin49 w49_0 H locs ls hP hD hS hl kx
          refine lv_iload_n hx hb dX6_steps_49 rfl (lv_at hl 0 rfl) ?_
          refine lv_bipush (v := (6 : Int32)) hx hb dX6_steps_50 (by decide) ?_
          refine lv_icmp_ge (tgt := 81) hx hb dX6_steps_52 (by decide) (fun c_52 => ?_) (fun c_52 => ?_)
          · exact absurd c_52 (nI_ge (a := i49) (b := 6) (by omega) (by omega))
          refine lv_aload_n hx hb dX6_steps_55 rfl (lv_at hl 2 rfl) ?_
          refine lv_iload_n hx hb dX6_steps_56 rfl (lv_at hl 1 rfl) ?_
          refine lv_iload_n hx hb dX6_steps_57 rfl (lv_at hl 0 rfl) ?_
          refine zcVi (n := 2) (As := [.int ((v.2 0) 4), .int (nI i49)]) (rest := []) (Xr := []) (Xn := (mo g q w49_0)) (ci := 6) (C := RX6) (T := TX6) (N := 12) (q0 := 0) hx hb hml hown hts hN (m_X6_hasPeg l g q w49_0 ((v.2 0) 4) (nI i49) hat (vp_in_nI (by omega) (by omega))) gX6_steps_X6_hasPeg rfl (by decide +kernel) ⟨rfl, rfl⟩ ⟨Nat.le_of_ble_eq_true rfl, Nat.le_of_ble_eq_true rfl⟩ hK hP hD hS hA (zpn _) rfl rfl rfl hl.1 rfl (Nat.le_of_ble_eq_true rfl) dX6_steps_58 ⟨Nat.zero_le _, Nat.zero_le _⟩ (zpn' _) (fun H locs hP hD hS => ?_)
          refine lv_if_eq (tgt := 75) hx hb dX6_steps_61 (by decide) (fun c_61 => ?_) (fun c_61 => ?_)
          · refine lv_iinc (v := (nI (i49 + 1))) (lv' := [(2, .int (nI (i49 + 1))), (1, .int ((v.2 0) 4)), (0, .ref (q 0))]) hx hb dX6_steps_75 hl (k := 0) rfl (nI_1 i49) (by decide) rfl (fun ls hl => ?_)
            refine lv_goto (tgt := 49) hx hb dX6_steps_78 (by decide) ?_
            have E : (f_X6_steps_L49 v (n49 + 1) i49 w49_0) = (f_X6_steps_L49 v n49 (i49 + 1) w49_0) := (if_pos c_61).trans rfl
            rw [E] at kx
            exact ih49 (i49 + 1) (by omega) w49_0 _ _ _  hP hD hS (lv_sub hl [0, 1, 2] rfl) kx
          · refine lv_aload_n hx hb dX6_steps_64 rfl (lv_at hl 2 rfl) ?_
            refine lv_iload_n hx hb dX6_steps_65 rfl (lv_at hl 0 rfl) ?_
            refine zcVv (n := 1) (As := [.int (nI i49)]) (rest := []) (Xr := []) (Xn := (mo g q (s_X6_steps_66 i49 w49_0))) (ci := 6) (C := RX6) (T := TX6) (N := 12) (q0 := 0) hx hb hml hown hts hN (m_X6_falls l g q w49_0 (nI i49) (vp_in_nI (by omega) (by omega))) gX6_steps_X6_falls rfl (by decide +kernel) ⟨rfl, rfl⟩ ⟨Nat.le_of_ble_eq_true rfl, Nat.le_of_ble_eq_true rfl⟩ hK hP hD hS hA (zpn _) rfl rfl rfl hl.1 rfl (Nat.le_of_ble_eq_true rfl) dX6_steps_66 ⟨Nat.zero_le _, Nat.zero_le _⟩ (zpn' _) (fun H locs hP hD hS => ?_)
            refine lv_aload_n hx hb dX6_steps_69 rfl (lv_at hl 2 rfl) ?_
            refine lv_iload_n hx hb dX6_steps_70 rfl (lv_at hl 1 rfl) ?_
            refine lv_iload_n hx hb dX6_steps_71 rfl (lv_at hl 0 rfl) ?_
            refine zcVv (n := 2) (As := [.int ((v.2 0) 4), .int (nI i49)]) (rest := []) (Xr := []) (Xn := (mo g q (s_X6_steps_72 v i49 w49_0))) (ci := 6) (C := RX6) (T := TX6) (N := 12) (q0 := 0) hx hb hml hown hts hN (m_X6_wears l g q (s_X6_steps_66 i49 w49_0) ((v.2 0) 4) (nI i49) hat (vp_in_nI (by omega) (by omega))) gX6_steps_X6_wears rfl (by decide +kernel) ⟨rfl, rfl⟩ ⟨Nat.le_of_ble_eq_true rfl, Nat.le_of_ble_eq_true rfl⟩ hK hP hD hS hA (zpn _) rfl rfl rfl hl.1 rfl (Nat.le_of_ble_eq_true rfl) dX6_steps_72 ⟨Nat.zero_le _, Nat.zero_le _⟩ (zpn' _) (fun H locs hP hD hS => ?_)
            refine lv_iinc (v := (nI (i49 + 1))) (lv' := [(2, .int (nI (i49 + 1))), (1, .int ((v.2 0) 4)), (0, .ref (q 0))]) hx hb dX6_steps_75 hl (k := 0) rfl (nI_1 i49) (by decide) rfl (fun ls hl => ?_)
            refine lv_goto (tgt := 49) hx hb dX6_steps_78 (by decide) ?_
            have E : (f_X6_steps_L49 v (n49 + 1) i49 w49_0) = (f_X6_steps_L49 v n49 (i49 + 1) (s_X6_steps_72 v i49 w49_0)) := (if_neg c_61).trans rfl
            rw [E] at kx
            exact ih49 (i49 + 1) (by omega) (s_X6_steps_72 v i49 w49_0) _ _ _  hP hD hS (lv_sub hl [0, 1, 2] rfl) kx
      refine L49 (zfu 6) 0 (by rw [zfu_eq]) v _ _ _  hP hD hS (lv_sub hl [0, 1, 2] rfl) (fun H locs ls hP hD hS hl => ?_)
      refine lv_aload_n hx hb dX6_steps_81 rfl (lv_at hl 1 rfl) ?_
      refine va_get (D := g.1) (ci := 6) (v := .ref (q 1)) (C := RX6) (T := TX6) (N := 12) hx hb hts (zin_X6_steps_X6) hown hK hP 0 rfl rfl 0 (by decide) (hts (.fieldLink RX6 7 "PegClerksModel" "all" "[I") (by decide +kernel)) (fun _ h9 => h9) rfl dX6_steps_82 ?_
      refine lv_iconst (v := (4 : Int32)) hx hb dX6_steps_85 (by decide) ?_
      refine lv_iload_n hx hb dX6_steps_86 rfl (lv_at hl 0 rfl) ?_
      refine lv_iconst (v := (1 : Int32)) hx hb dX6_steps_87 (by decide) ?_
      refine lv_iadd hx hb dX6_steps_88 ?_
      refine lv_bipush (v := (16 : Int32)) hx hb dX6_steps_89 (by decide) ?_
      refine lv_irem hx hb dX6_steps_91 (by decide) ?_
      refine z_iast (f := ((f_X6_steps_L49 v (zfu 6) 0 v).2 0)) (k := 4) hx hb hK hP hD hS 1 0 rfl rfl (zlit (4 : Int32) 136 (by decide +kernel)) (by decide +kernel) dX6_steps_92 (fun H locs hP hD hS => ?_)
      have hP : va_P g.1 vwCl (mo g q (s_X6_steps_92 v)) H := (congrArg (fun z => va_P g.1 vwCl z H) (mo_A0 g q (f_X6_steps_L49 v (zfu 6) 0 v) (upd ((f_X6_steps_L49 v (zfu 6) 0 v).2 0) 4 ((((v.2 0) 4) + (1 : Int32)) - (((((v.2 0) 4) + (1 : Int32)) / (16 : Int32)) * (16 : Int32)))))).mp hP
      have hD : va_D A (mo g q (s_X6_steps_92 v)) := (congrArg (fun z => va_D A z) (mo_A0 g q (f_X6_steps_L49 v (zfu 6) 0 v) (upd ((f_X6_steps_L49 v (zfu 6) 0 v).2 0) 4 ((((v.2 0) 4) + (1 : Int32)) - (((((v.2 0) 4) + (1 : Int32)) / (16 : Int32)) * (16 : Int32)))))).mp hD
      refine lv_aload_n hx hb dX6_steps_93 rfl (lv_at hl 1 rfl) ?_
      refine va_get (D := g.1) (ci := 6) (v := .ref (q 1)) (C := RX6) (T := TX6) (N := 12) hx hb hts (zin_X6_steps_X6) hown hK hP 0 rfl rfl 0 (by decide) (hts (.fieldLink RX6 7 "PegClerksModel" "all" "[I") (by decide +kernel)) (fun _ h9 => h9) rfl dX6_steps_94 ?_
      refine lv_bipush (v := (10 : Int32)) hx hb dX6_steps_97 (by decide) ?_
      refine lv_dup2_11 hx hb dX6_steps_99 rfl rfl ?_
      refine z_iald (f := ((s_X6_steps_92 v).2 0)) (k := 10) hx hb hK hP 1 0 rfl rfl (zlit (10 : Int32) 136 (by decide +kernel)) (by decide +kernel) dX6_steps_100 ?_
      refine lv_iconst (v := (1 : Int32)) hx hb dX6_steps_101 (by decide) ?_
      refine lv_iadd hx hb dX6_steps_102 ?_
      refine z_iast (f := ((s_X6_steps_92 v).2 0)) (k := 10) hx hb hK hP hD hS 1 0 rfl rfl (zlit (10 : Int32) 136 (by decide +kernel)) (by decide +kernel) dX6_steps_103 (fun H locs hP hD hS => ?_)
      have hP : va_P g.1 vwCl (mo g q (s_X6_steps_103 v)) H := (congrArg (fun z => va_P g.1 vwCl z H) (mo_A0 g q (s_X6_steps_92 v) (upd ((s_X6_steps_92 v).2 0) 10 ((((s_X6_steps_92 v).2 0) 10) + (1 : Int32))))).mp hP
      have hD : va_D A (mo g q (s_X6_steps_103 v)) := (congrArg (fun z => va_D A z) (mo_A0 g q (s_X6_steps_92 v) (upd ((s_X6_steps_92 v).2 0) 10 ((((s_X6_steps_92 v).2 0) 10) + (1 : Int32))))).mp hD
      refine lv_aload_n hx hb dX6_steps_104 rfl (lv_at hl 1 rfl) ?_
      refine zcVv (n := 0) (As := []) (rest := []) (Xr := []) (Xn := (mo g q (s_X6_steps_105 v))) (ci := 6) (C := RX6) (T := TX6) (N := 12) (q0 := 0) hx hb hml hown hts hN (m_X6_lies l g q (s_X6_steps_103 v) ) gX6_steps_X6_lies rfl (by decide +kernel) ⟨rfl, rfl⟩ ⟨Nat.le_of_ble_eq_true rfl, Nat.le_of_ble_eq_true rfl⟩ hK hP hD hS hA (zpn _) rfl rfl rfl hl.1 rfl (Nat.le_of_ble_eq_true rfl) dX6_steps_105 ⟨Nat.zero_le _, Nat.zero_le _⟩ (zpn' _) (fun H locs hP hD hS => ?_)
      refine lv_iconst (v := (1 : Int32)) hx hb dX6_steps_108 (by decide) ?_
      have E : (f_X6_steps v) = ((1 : Int32), (s_X6_steps_105 v)) := (if_neg c_7).trans ((if_pos c_24).trans rfl)
      have e1 : (1 : Int32) = (f_X6_steps v).1 := by rw [E]
      have e2 : (mo g q (s_X6_steps_105 v)) = (mo g q (f_X6_steps v).2) := by rw [E]
      exact hret (1 : Int32) (mo g q (s_X6_steps_105 v)) _ _ _ _ dX6_steps_109 e1 (rfl) e2 hP hD hS
    · refine lv_aload_n hx hb dX6_steps_27 rfl (lv_at hl 1 rfl) ?_
      refine va_get (D := g.1) (ci := 6) (v := .ref (q 1)) (C := RX6) (T := TX6) (N := 12) hx hb hts (zin_X6_steps_X6) hown hK hP 0 rfl rfl 0 (by decide) (hts (.fieldLink RX6 7 "PegClerksModel" "all" "[I") (by decide +kernel)) (fun _ h9 => h9) rfl dX6_steps_28 ?_
      refine lv_iconst (v := (5 : Int32)) hx hb dX6_steps_31 (by decide) ?_
      refine lv_iconst (v := (1 : Int32)) hx hb dX6_steps_32 (by decide) ?_
      refine z_iast (f := (v.2 0)) (k := 5) hx hb hK hP hD hS 1 0 rfl rfl (zlit (5 : Int32) 136 (by decide +kernel)) (by decide +kernel) dX6_steps_33 (fun H locs hP hD hS => ?_)
      have hP : va_P g.1 vwCl (mo g q (s_X6_steps_33 v)) H := (congrArg (fun z => va_P g.1 vwCl z H) (mo_A0 g q v (upd (v.2 0) 5 (1 : Int32)))).mp hP
      have hD : va_D A (mo g q (s_X6_steps_33 v)) := (congrArg (fun z => va_D A z) (mo_A0 g q v (upd (v.2 0) 5 (1 : Int32)))).mp hD
      refine lv_aload_n hx hb dX6_steps_34 rfl (lv_at hl 1 rfl) ?_
      refine va_get (D := g.1) (ci := 6) (v := .ref (q 1)) (C := RX6) (T := TX6) (N := 12) hx hb hts (zin_X6_steps_X6) hown hK hP 0 rfl rfl 0 (by decide) (hts (.fieldLink RX6 7 "PegClerksModel" "all" "[I") (by decide +kernel)) (fun _ h9 => h9) rfl dX6_steps_35 ?_
      refine lv_bipush (v := (14 : Int32)) hx hb dX6_steps_38 (by decide) ?_
      refine lv_dup2_11 hx hb dX6_steps_40 rfl rfl ?_
      refine z_iald (f := ((s_X6_steps_33 v).2 0)) (k := 14) hx hb hK hP 1 0 rfl rfl (zlit (14 : Int32) 136 (by decide +kernel)) (by decide +kernel) dX6_steps_41 ?_
      refine lv_iconst (v := (1 : Int32)) hx hb dX6_steps_42 (by decide) ?_
      refine lv_iadd hx hb dX6_steps_43 ?_
      refine z_iast (f := ((s_X6_steps_33 v).2 0)) (k := 14) hx hb hK hP hD hS 1 0 rfl rfl (zlit (14 : Int32) 136 (by decide +kernel)) (by decide +kernel) dX6_steps_44 (fun H locs hP hD hS => ?_)
      have hP : va_P g.1 vwCl (mo g q (s_X6_steps_44 v)) H := (congrArg (fun z => va_P g.1 vwCl z H) (mo_A0 g q (s_X6_steps_33 v) (upd ((s_X6_steps_33 v).2 0) 14 ((((s_X6_steps_33 v).2 0) 14) + (1 : Int32))))).mp hP
      have hD : va_D A (mo g q (s_X6_steps_44 v)) := (congrArg (fun z => va_D A z) (mo_A0 g q (s_X6_steps_33 v) (upd ((s_X6_steps_33 v).2 0) 14 ((((s_X6_steps_33 v).2 0) 14) + (1 : Int32))))).mp hD
      refine lv_iconst (v := (0 : Int32)) hx hb dX6_steps_45 (by decide) ?_
      have E : (f_X6_steps v) = ((0 : Int32), (s_X6_steps_44 v)) := (if_neg c_7).trans ((if_neg c_24).trans rfl)
      have e1 : (0 : Int32) = (f_X6_steps v).1 := by rw [E]
      have e2 : (mo g q (s_X6_steps_44 v)) = (mo g q (f_X6_steps v).2) := by rw [E]
      exact hret (0 : Int32) (mo g q (s_X6_steps_44 v)) _ _ _ _ dX6_steps_46 e1 (rfl) e2 hP hD hS
  · refine lv_iconst (v := (0 : Int32)) hx hb dX6_steps_10 (by decide) ?_
    have E : (f_X6_steps v) = ((0 : Int32), v) := (if_pos c_7).trans rfl
    have e1 : (0 : Int32) = (f_X6_steps v).1 := by rw [E]
    have e2 : (mo g q v) = (mo g q (f_X6_steps v).2) := by rw [E]
    exact hret (0 : Int32) (mo g q v) _ _ _ _ dX6_steps_11 e1 (rfl) e2 hP hD hS
