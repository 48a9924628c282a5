theorem zin_rp {x y : Int32} (hx : vp_in x 16) (hy : vp_in y 6) : vp_in ((x * (6 : Int32)) + y) 96 := by
  obtain ⟨r, hr, rfl⟩ := vp_in_of hx (by omega)
  obtain ⟨k, hk, rfl⟩ := vp_in_of hy (by omega)
  rw [show (6 : Int32) = nI 6 from rfl, pk_mul, nI_add]
  exact vp_in_nI (by omega) (by omega)
abbrev rm_J6_bitCount_0f7a4 : Room := { frames := 0, cells := 0, slots := 0, locals := 0 }
def zb1 (p0 : Int32) : Int32 := (p0 - (((p0.toUInt32 >>> ((1 : Int32).toUInt32 &&& Int32.toUInt32 31)).toInt32) &&& (1431655765 : Int32)))
def zb2 (p0 : Int32) : Int32 := (((zb1 p0) &&& (858993459 : Int32)) + ((((zb1 p0).toUInt32 >>> ((2 : Int32).toUInt32 &&& Int32.toUInt32 31)).toInt32) &&& (858993459 : Int32)))
def zb3 (p0 : Int32) : Int32 := (((zb2 p0) + (((zb2 p0).toUInt32 >>> ((4 : Int32).toUInt32 &&& Int32.toUInt32 31)).toInt32)) &&& (252645135 : Int32))
def zb4 (p0 : Int32) : Int32 := ((zb3 p0) + (((zb3 p0).toUInt32 >>> ((8 : Int32).toUInt32 &&& Int32.toUInt32 31)).toInt32))
def zb5 (p0 : Int32) : Int32 := ((zb4 p0) + (((zb4 p0).toUInt32 >>> ((16 : Int32).toUInt32 &&& Int32.toUInt32 31)).toInt32))
def f_J6_bitCount_0f7a4 (p0 : Int32) : Int32 := ((zb5 p0) &&& (63 : Int32))
set_option maxRecDepth 100000 in
set_option maxHeartbeats 4000000 in
theorem m_J6_bitCount_0f7a4 (l : Launch) (g : zG) (p0 : Int32) : ZI l yJ6_bitCount_0f7a4 wsJ6_bitCount_0f7a4 rm_J6_bitCount_0f7a4 g [] [.int p0] (f_J6_bitCount_0f7a4 p0) [] := by
  refine zopenI (cc := cJ6_bitCount_0f7a4) (maxL := 1) (ret := .int) (by decide +kernel) rfl (Nat.le_of_ble_eq_true rfl) ?_
  intro p e s m below meth c A Q ls hx hb hml hown hts hP hK hD hA hN hl hret
  have hS : va_S A s.heap s.heap [] := va_S.rf
  have hl : lv_has ls 1 [(0, .int p0)] := hl
  have hown : s.vm.findClass RJ6 = some m.cls := hown
  refine lv_iload_n hx hb dJ6_bitCount_0f7a4_0 rfl (lv_at hl 0 rfl) ?_
  refine lv_iload_n hx hb dJ6_bitCount_0f7a4_1 rfl (lv_at hl 0 rfl) ?_
  refine lv_iconst (v := (1 : Int32)) hx hb dJ6_bitCount_0f7a4_2 (by decide) ?_
  refine lv_iushr hx hb dJ6_bitCount_0f7a4_3 rfl ?_
  refine lv_ldcw (v := (1431655765 : Int32)) hx hb hown (hts (.constant RJ6 265 (1431655765)) (by decide +kernel)) dJ6_bitCount_0f7a4_4 ?_
  refine lv_iand hx hb dJ6_bitCount_0f7a4_7 ?_
  refine lv_isub hx hb dJ6_bitCount_0f7a4_8 ?_
  refine lv_istore_n (lv' := [(0, .int (zb1 p0))]) hx hb dJ6_bitCount_0f7a4_9 rfl hl (by decide) rfl (fun ls hl => ?_)
  refine lv_iload_n hx hb dJ6_bitCount_0f7a4_10 rfl (lv_at hl 0 rfl) ?_
  refine lv_ldcw (v := (858993459 : Int32)) hx hb hown (hts (.constant RJ6 266 (858993459)) (by decide +kernel)) dJ6_bitCount_0f7a4_11 ?_
  refine lv_iand hx hb dJ6_bitCount_0f7a4_14 ?_
  refine lv_iload_n hx hb dJ6_bitCount_0f7a4_15 rfl (lv_at hl 0 rfl) ?_
  refine lv_iconst (v := (2 : Int32)) hx hb dJ6_bitCount_0f7a4_16 (by decide) ?_
  refine lv_iushr hx hb dJ6_bitCount_0f7a4_17 rfl ?_
  refine lv_ldcw (v := (858993459 : Int32)) hx hb hown (hts (.constant RJ6 266 (858993459)) (by decide +kernel)) dJ6_bitCount_0f7a4_18 ?_
  refine lv_iand hx hb dJ6_bitCount_0f7a4_21 ?_
  refine lv_iadd hx hb dJ6_bitCount_0f7a4_22 ?_
  refine lv_istore_n (lv' := [(0, .int (zb2 p0))]) hx hb dJ6_bitCount_0f7a4_23 rfl hl (by decide) rfl (fun ls hl => ?_)
  refine lv_iload_n hx hb dJ6_bitCount_0f7a4_24 rfl (lv_at hl 0 rfl) ?_
  refine lv_iload_n hx hb dJ6_bitCount_0f7a4_25 rfl (lv_at hl 0 rfl) ?_
  refine lv_iconst (v := (4 : Int32)) hx hb dJ6_bitCount_0f7a4_26 (by decide) ?_
  refine lv_iushr hx hb dJ6_bitCount_0f7a4_27 rfl ?_
  refine lv_iadd hx hb dJ6_bitCount_0f7a4_28 ?_
  refine lv_ldcw (v := (252645135 : Int32)) hx hb hown (hts (.constant RJ6 267 (252645135)) (by decide +kernel)) dJ6_bitCount_0f7a4_29 ?_
  refine lv_iand hx hb dJ6_bitCount_0f7a4_32 ?_
  refine lv_istore_n (lv' := [(0, .int (zb3 p0))]) hx hb dJ6_bitCount_0f7a4_33 rfl hl (by decide) rfl (fun ls hl => ?_)
  refine lv_iload_n hx hb dJ6_bitCount_0f7a4_34 rfl (lv_at hl 0 rfl) ?_
  refine lv_iload_n hx hb dJ6_bitCount_0f7a4_35 rfl (lv_at hl 0 rfl) ?_
  refine lv_bipush (v := (8 : Int32)) hx hb dJ6_bitCount_0f7a4_36 (by decide) ?_
  refine lv_iushr hx hb dJ6_bitCount_0f7a4_38 rfl ?_
  refine lv_iadd hx hb dJ6_bitCount_0f7a4_39 ?_
  refine lv_istore_n (lv' := [(0, .int (zb4 p0))]) hx hb dJ6_bitCount_0f7a4_40 rfl hl (by decide) rfl (fun ls hl => ?_)
  refine lv_iload_n hx hb dJ6_bitCount_0f7a4_41 rfl (lv_at hl 0 rfl) ?_
  refine lv_iload_n hx hb dJ6_bitCount_0f7a4_42 rfl (lv_at hl 0 rfl) ?_
  refine lv_bipush (v := (16 : Int32)) hx hb dJ6_bitCount_0f7a4_43 (by decide) ?_
  refine lv_iushr hx hb dJ6_bitCount_0f7a4_45 rfl ?_
  refine lv_iadd hx hb dJ6_bitCount_0f7a4_46 ?_
  refine lv_istore_n (lv' := [(0, .int (zb5 p0))]) hx hb dJ6_bitCount_0f7a4_47 rfl hl (by decide) rfl (fun ls hl => ?_)
  refine lv_iload_n hx hb dJ6_bitCount_0f7a4_48 rfl (lv_at hl 0 rfl) ?_
  refine lv_bipush (v := (63 : Int32)) hx hb dJ6_bitCount_0f7a4_49 (by decide) ?_
  refine lv_iand hx hb dJ6_bitCount_0f7a4_51 ?_
  have E : (f_J6_bitCount_0f7a4 p0) = ((zb5 p0) &&& (63 : Int32)) := rfl
  exact hret _ _ _ _ _ _ dJ6_bitCount_0f7a4_52 E.symm (rfl) rfl hP hD hS
abbrev rm_J9_floorMod_7cf53 : Room := { frames := 0, cells := 0, slots := 0, locals := 0 }
def f_J9_floorMod_7cf53 (p0 : Int32) (p1 : Int32) : Int32 := if (0 : Int32) ≤ (p0 ^^^ p1) then ((p0 - ((p0 / p1) * p1))) else (if (p0 - ((p0 / p1) * p1)) = (0 : Int32) then ((p0 - ((p0 / p1) * p1))) else (((p0 - ((p0 / p1) * p1)) + p1)))
set_option maxRecDepth 100000 in
set_option maxHeartbeats 4000000 in
theorem m_J9_floorMod_7cf53 (l : Launch) (g : zG) (p0 : Int32) (p1 : Int32) (h1 : ¬ p1 = 0) : ZI l yJ9_floorMod_7cf53 wsJ9_floorMod_7cf53 rm_J9_floorMod_7cf53 g [] [.int p0, .int p1] (f_J9_floorMod_7cf53 p0 p1) [] := by
  refine zopenI (cc := cJ9_floorMod_7cf53) (maxL := 3) (ret := .int) (by decide +kernel) rfl (Nat.le_of_ble_eq_true rfl) ?_
  intro p e s m below meth c A Q ls hx hb hml hown hts hP hK hD hA hN hl hret
  have hS : va_S A s.heap s.heap [] := va_S.rf
  have hl : lv_has ls 3 [(0, .int p0), (1, .int p1)] := hl
  have hown : s.vm.findClass RJ9 = some m.cls := hown
  refine lv_iload_n hx hb dJ9_floorMod_7cf53_0 rfl (lv_at hl 0 rfl) ?_
  refine lv_iload_n hx hb dJ9_floorMod_7cf53_1 rfl (lv_at hl 1 rfl) ?_
  refine lv_irem hx hb dJ9_floorMod_7cf53_2 h1 ?_
  refine lv_istore_n (lv' := [(2, .int (p0 - ((p0 / p1) * p1))), (0, .int p0), (1, .int p1)]) hx hb dJ9_floorMod_7cf53_3 rfl hl (by decide) rfl (fun ls hl => ?_)
  refine lv_iload_n hx hb dJ9_floorMod_7cf53_4 rfl (lv_at hl 1 rfl) ?_
  refine lv_iload_n hx hb dJ9_floorMod_7cf53_5 rfl (lv_at hl 2 rfl) ?_
  refine lv_ixor hx hb dJ9_floorMod_7cf53_6 ?_
  refine lv_if_ge (tgt := 18) hx hb dJ9_floorMod_7cf53_7 (by decide) (fun c_7 => ?_) (fun c_7 => ?_)
  · refine lv_iload_n hx hb dJ9_floorMod_7cf53_18 rfl (lv_at hl 0 rfl) ?_
    have E : (f_J9_floorMod_7cf53 p0 p1) = (p0 - ((p0 / p1) * p1)) := (if_pos c_7).trans rfl
    exact hret _ _ _ _ _ _ dJ9_floorMod_7cf53_19 E.symm (rfl) rfl hP hD hS
  · refine lv_iload_n hx hb dJ9_floorMod_7cf53_10 rfl (lv_at hl 0 rfl) ?_
    refine lv_if_eq (tgt := 18) hx hb dJ9_floorMod_7cf53_11 (by decide) (fun c_11 => ?_) (fun c_11 => ?_)
    · refine lv_iload_n hx hb dJ9_floorMod_7cf53_18 rfl (lv_at hl 0 rfl) ?_
      have E : (f_J9_floorMod_7cf53 p0 p1) = (p0 - ((p0 / p1) * p1)) := (if_neg c_7).trans ((if_pos c_11).trans rfl)
      exact hret _ _ _ _ _ _ dJ9_floorMod_7cf53_19 E.symm (rfl) rfl hP hD hS
    · refine lv_iload_n hx hb dJ9_floorMod_7cf53_14 rfl (lv_at hl 0 rfl) ?_
      refine lv_iload_n hx hb dJ9_floorMod_7cf53_15 rfl (lv_at hl 2 rfl) ?_
      refine lv_iadd hx hb dJ9_floorMod_7cf53_16 ?_
      have E : (f_J9_floorMod_7cf53 p0 p1) = ((p0 - ((p0 / p1) * p1)) + p1) := (if_neg c_7).trans ((if_neg c_11).trans rfl)
      exact hret _ _ _ _ _ _ dJ9_floorMod_7cf53_17 E.symm (rfl) rfl hP hD hS
abbrev rm_X1_rowBehind : Room := { frames := 0, cells := 0, slots := 0, locals := 0 }
def f_X1_rowBehind (p0 : Int32) : Int32 := if p0 < (15 : Int32) then ((p0 + (1 : Int32))) else ((0 : Int32))
set_option maxRecDepth 100000 in
set_option maxHeartbeats 4000000 in
theorem m_X1_rowBehind (l : Launch) (g : zG) (p0 : Int32) : ZI l yX1_rowBehind wsX1_rowBehind rm_X1_rowBehind g [] [.int p0] (f_X1_rowBehind p0) [] := by
  refine zopenI (cc := cX1_rowBehind) (maxL := 1) (ret := .int) (by decide +kernel) rfl (Nat.le_of_ble_eq_true rfl) ?_
  intro p e s m below meth c A Q ls hx hb hml hown hts hP hK hD hA hN hl hret
  have hS : va_S A s.heap s.heap [] := va_S.rf
  have hl : lv_has ls 1 [(0, .int p0)] := hl
  have hown : s.vm.findClass RX1 = some m.cls := hown
  refine lv_iload_n hx hb dX1_rowBehind_0 rfl (lv_at hl 0 rfl) ?_
  refine lv_bipush (v := (15 : Int32)) hx hb dX1_rowBehind_1 (by decide) ?_
  refine lv_icmp_lt (tgt := 10) hx hb dX1_rowBehind_3 (by decide) (fun c_3 => ?_) (fun c_3 => ?_)
  · refine lv_iload_n hx hb dX1_rowBehind_10 rfl (lv_at hl 0 rfl) ?_
    refine lv_iconst (v := (1 : Int32)) hx hb dX1_rowBehind_11 (by decide) ?_
    refine lv_iadd hx hb dX1_rowBehind_12 ?_
    have E : (f_X1_rowBehind p0) = (p0 + (1 : Int32)) := (if_pos c_3).trans rfl
    exact hret _ _ _ _ _ _ dX1_rowBehind_13 E.symm (rfl) rfl hP hD hS
  · refine lv_iconst (v := (0 : Int32)) hx hb dX1_rowBehind_6 (by decide) ?_
    refine lv_goto (tgt := 13) hx hb dX1_rowBehind_7 (by decide) ?_
    have E : (f_X1_rowBehind p0) = (0 : Int32) := (if_neg c_3).trans rfl
    exact hret _ _ _ _ _ _ dX1_rowBehind_13 E.symm (rfl) rfl hP hD hS
abbrev rm_X1_goOn : Room := { frames := 1, cells := 0, slots := 0, locals := 20 }
set_option maxRecDepth 20000 in
theorem zin_X1_goOn_X1 : ∀ w ∈ wsX10, w ∈ wsX1_goOn := by decide +kernel
def s_X1_goOn_8 (v : zCV) : zCV := zS v 4 (f_X1_rowBehind (v.1 4))
def f_X1_goOn (v : zCV) : zCV := (s_X1_goOn_8 v)
set_option maxRecDepth 100000 in
set_option maxHeartbeats 4000000 in
theorem m_X1_goOn (l : Launch) (g : zG) (q : Nat → Nat) (v : zCV) : ZV l yX1_goOn wsX1_goOn rm_X1_goOn g (ck g q v) [.ref (q 2)] (ck g q (f_X1_goOn v)) := by
  refine zopenV (cc := cX1_goOn) (maxL := 1) (by decide +kernel) rfl (Nat.le_of_ble_eq_true rfl) ?_
  intro p e s m below meth c A Q ls hx hb hml hown hts hP hK hD hA hN hl hret
  have hS : va_S A s.heap s.heap [] := va_S.rf
  have hl : lv_has ls 1 [(0, .ref (q 2))] := hl
  have hown : s.vm.findClass RX1 = some m.cls := hown
  refine lv_aload_n hx hb dX1_goOn_0 rfl (lv_at hl 0 rfl) ?_
  refine lv_aload_n hx hb dX1_goOn_1 rfl (lv_at hl 0 rfl) ?_
  refine va_get (D := g.1) (ci := 1) (v := .int (v.1 4)) (C := RX1) (T := TX1) (N := 4) hx hb hts (zin_X1_goOn_X1) hown hK hP 2 rfl rfl 2 (by decide) (hts (.fieldLink RX1 24 "PegClerks$Drum" "at" "I") (by decide +kernel)) (fun _ h9 => h9) rfl dX1_goOn_2 ?_
  refine zcSi (n := 1) (As := [.int (v.1 4)]) (rest := [.ref (q 2)]) hx hb hml hown hts hN (m_X1_rowBehind l g (v.1 4)) gX1_goOn_X1_rowBehind rfl (by decide +kernel) ⟨rfl, rfl⟩ ⟨Nat.le_of_ble_eq_true rfl, Nat.le_of_ble_eq_true rfl⟩ hK hP hD hS hA rfl hl.1 rfl (Nat.le_of_ble_eq_true rfl) dX1_goOn_5 ⟨Nat.zero_le _, Nat.zero_le _⟩ (fun H locs hP hD hS => ?_)
  refine va_put (D := g.1) (ci := 1) (v := .int (f_X1_rowBehind (v.1 4))) (ty := .int) (C := RX1) (T := TX1) (N := 4) hx hb hts (zin_X1_goOn_X1) tyX1 tyX1_ok nmX1 hown hK hP hD hS 2 rfl rfl 2 (by decide) (hts (.fieldLink RX1 24 "PegClerks$Drum" "at" "I") (by decide +kernel)) (fun _ h9 => h9) rfl (by decide +kernel) rfl rfl (Nat.le_of_ble_eq_true rfl) dX1_goOn_8 (fun H locs hP hD hS => ?_)
  have hP : va_P g.1 vwCl (ck g q (s_X1_goOn_8 v)) H := (congrArg (fun z => va_P g.1 vwCl z H) (ck_S4 g q v (f_X1_rowBehind (v.1 4)))).mp hP
  have hD : va_D A (ck g q (s_X1_goOn_8 v)) := (congrArg (fun z => va_D A z) (ck_S4 g q v (f_X1_rowBehind (v.1 4)))).mp hD
  have E : (f_X1_goOn v) = (s_X1_goOn_8 v) := rfl
  have e2 : (ck g q (s_X1_goOn_8 v)) = (ck g q (f_X1_goOn v)) := by rw [E]
  exact hret (ck g q (s_X1_goOn_8 v)) _ _ _ _ dX1_goOn_11 e2 hP hD hS
abbrev rm_X1_hasPeg : Room := { frames := 0, cells := 0, slots := 0, locals := 0 }
set_option maxRecDepth 20000 in
theorem zin_X1_hasPeg_X1 : ∀ w ∈ wsX10, w ∈ wsX1_hasPeg := by decide +kernel
def f_X1_hasPeg (v : zCV) (p0 : Int32) (p1 : Int32) : Int32 := if ((((v.2 1) p0.toNatClampNeg) >>> (p1 &&& 31)) &&& (1 : Int32)) = (0 : Int32) then ((0 : Int32)) else ((1 : Int32))
set_option maxRecDepth 100000 in
set_option maxHeartbeats 4000000 in
theorem m_X1_hasPeg (l : Launch) (g : zG) (q : Nat → Nat) (v : zCV) (p0 : Int32) (p1 : Int32) (h0 : vp_in p0 16) : ZI l yX1_hasPeg wsX1_hasPeg rm_X1_hasPeg g (ck g q v) [.ref (q 2), .int p0, .int p1] (f_X1_hasPeg v p0 p1) (ck g q v) := by
  refine zopenI (cc := cX1_hasPeg) (maxL := 3) (ret := .boolean) (by decide +kernel) rfl (Nat.le_of_ble_eq_true rfl) ?_
  intro p e s m below meth c A Q ls hx hb hml hown hts hP hK hD hA hN hl hret
  have hS : va_S A s.heap s.heap [] := va_S.rf
  have hl : lv_has ls 3 [(0, .ref (q 2)), (1, .int p0), (2, .int p1)] := hl
  have hown : s.vm.findClass RX1 = some m.cls := hown
  refine lv_aload_n hx hb dX1_hasPeg_0 rfl (lv_at hl 0 rfl) ?_
  refine va_get (D := g.1) (ci := 1) (v := .ref (q 3)) (C := RX1) (T := TX1) (N := 4) hx hb hts (zin_X1_hasPeg_X1) hown hK hP 2 rfl rfl 0 (by decide) (hts (.fieldLink RX1 9 "PegClerks$Drum" "rows" "[I") (by decide +kernel)) (fun _ h9 => h9) rfl dX1_hasPeg_1 ?_
  refine lv_iload_n hx hb dX1_hasPeg_4 rfl (lv_at hl 1 rfl) ?_
  refine z_iald (f := (v.2 1)) (k := p0.toNatClampNeg) hx hb hK hP 3 0 rfl rfl h0 rfl dX1_hasPeg_5 ?_
  refine lv_iload_n hx hb dX1_hasPeg_6 rfl (lv_at hl 2 rfl) ?_
  refine lv_ishr hx hb dX1_hasPeg_7 ?_
  refine lv_iconst (v := (1 : Int32)) hx hb dX1_hasPeg_8 (by decide) ?_
  refine lv_iand hx hb dX1_hasPeg_9 ?_
  refine lv_if_eq (tgt := 17) hx hb dX1_hasPeg_10 (by decide) (fun c_10 => ?_) (fun c_10 => ?_)
  · refine lv_iconst (v := (0 : Int32)) hx hb dX1_hasPeg_17 (by decide) ?_
    have E : (f_X1_hasPeg v p0 p1) = (0 : Int32) := (if_pos c_10).trans rfl
    exact hret _ _ _ _ _ _ dX1_hasPeg_18 E.symm (rfl) rfl hP hD hS
  · refine lv_iconst (v := (1 : Int32)) hx hb dX1_hasPeg_13 (by decide) ?_
    refine lv_goto (tgt := 18) hx hb dX1_hasPeg_14 (by decide) ?_
    have E : (f_X1_hasPeg v p0 p1) = (1 : Int32) := (if_neg c_10).trans rfl
    exact hret _ _ _ _ _ _ dX1_hasPeg_18 E.symm (rfl) rfl hP hD hS
abbrev rm_X1_pegsInRow : Room := { frames := 1, cells := 0, slots := 0, locals := 20 }
set_option maxRecDepth 20000 in
theorem zin_X1_pegsInRow_X1 : ∀ w ∈ wsX10, w ∈ wsX1_pegsInRow := by decide +kernel
def f_X1_pegsInRow (v : zCV) (p0 : Int32) : Int32 := (f_J6_bitCount_0f7a4 ((v.2 1) p0.toNatClampNeg))
set_option maxRecDepth 100000 in
set_option maxHeartbeats 4000000 in
theorem m_X1_pegsInRow (l : Launch) (g : zG) (q : Nat → Nat) (v : zCV) (p0 : Int32) (h0 : vp_in p0 16) : ZI l yX1_pegsInRow wsX1_pegsInRow rm_X1_pegsInRow g (ck g q v) [.ref (q 2), .int p0] (f_X1_pegsInRow v p0) (ck g q v) := by
  refine zopenI (cc := cX1_pegsInRow) (maxL := 2) (ret := .int) (by decide +kernel) rfl (Nat.le_of_ble_eq_true rfl) ?_
  intro p e s m below meth c A Q ls hx hb hml hown hts hP hK hD hA hN hl hret
  have hS : va_S A s.heap s.heap [] := va_S.rf
  have hl : lv_has ls 2 [(0, .ref (q 2)), (1, .int p0)] := hl
  have hown : s.vm.findClass RX1 = some m.cls := hown
  refine lv_aload_n hx hb dX1_pegsInRow_0 rfl (lv_at hl 0 rfl) ?_
  refine va_get (D := g.1) (ci := 1) (v := .ref (q 3)) (C := RX1) (T := TX1) (N := 4) hx hb hts (zin_X1_pegsInRow_X1) hown hK hP 2 rfl rfl 0 (by decide) (hts (.fieldLink RX1 9 "PegClerks$Drum" "rows" "[I") (by decide +kernel)) (fun _ h9 => h9) rfl dX1_pegsInRow_1 ?_
  refine lv_iload_n hx hb dX1_pegsInRow_4 rfl (lv_at hl 1 rfl) ?_
  refine z_iald (f := (v.2 1)) (k := p0.toNatClampNeg) hx hb hK hP 3 0 rfl rfl h0 rfl dX1_pegsInRow_5 ?_
  refine zcSi (n := 1) (As := [.int ((v.2 1) p0.toNatClampNeg)]) (rest := []) hx hb hml hown hts hN (m_J6_bitCount_0f7a4 l g ((v.2 1) p0.toNatClampNeg)) gX1_pegsInRow_J6_bitCount_0f7a4 rfl (by decide +kernel) ⟨rfl, rfl⟩ ⟨Nat.le_of_ble_eq_true rfl, Nat.le_of_ble_eq_true rfl⟩ hK hP hD hS hA rfl hl.1 rfl (Nat.le_of_ble_eq_true rfl) dX1_pegsInRow_6 ⟨Nat.zero_le _, Nat.zero_le _⟩ (fun H locs hP hD hS => ?_)
  have E : (f_X1_pegsInRow v p0) = (f_J6_bitCount_0f7a4 ((v.2 1) p0.toNatClampNeg)) := rfl
  exact hret _ _ _ _ _ _ dX1_pegsInRow_9 E.symm (rfl) rfl hP hD hS
abbrev rm_X1_pegsAtPlace : Room := { frames := 1, cells := 0, slots := 0, locals := 22 }
def r_X1_pegsAtPlace_13 (v : zCV) (p0 : Int32) (i4 : Nat) : Int32 := (f_X1_hasPeg v (nI i4) p0)
def f_X1_pegsAtPlace_L4 (v : zCV) (p0 : Int32) : Nat → Nat → Int32 → Int32
  | 0, i4, x4_2 => x4_2
  | n4 + 1, i4, x4_2 => if (r_X1_pegsAtPlace_13 v p0 i4) = (0 : Int32) then ((f_X1_pegsAtPlace_L4 v p0 n4 (i4 + 1) x4_2)) else ((f_X1_pegsAtPlace_L4 v p0 n4 (i4 + 1) (x4_2 + (1 : Int32))))
def f_X1_pegsAtPlace (v : zCV) (p0 : Int32) : Int32 := (f_X1_pegsAtPlace_L4 v p0 (zfu 16) 0 (0 : Int32))
set_option maxRecDepth 100000 in
set_option maxHeartbeats 4000000 in
theorem m_X1_pegsAtPlace (l : Launch) (g : zG) (q : Nat → Nat) (v : zCV) (p0 : Int32) : ZI l yX1_pegsAtPlace wsX1_pegsAtPlace rm_X1_pegsAtPlace g (ck g q v) [.ref (q 2), .int p0] (f_X1_pegsAtPlace v p0) (ck g q v) := by
  refine zopenI (cc := cX1_pegsAtPlace) (maxL := 4) (ret := .int) (by decide +kernel) rfl (Nat.le_of_ble_eq_true rfl) ?_
  intro p e s m below meth c A Q ls hx hb hml hown hts hP hK hD hA hN hl hret
  have hS : va_S A s.heap s.heap [] := va_S.rf
  have hl : lv_has ls 4 [(0, .ref (q 2)), (1, .int p0)] := hl
  have hown : s.vm.findClass RX1 = some m.cls := hown
  refine lv_iconst (v := (0 : Int32)) hx hb dX1_pegsAtPlace_0 (by decide) ?_
  refine lv_istore_n (lv' := [(2, .int (0 : Int32)), (0, .ref (q 2)), (1, .int p0)]) hx hb dX1_pegsAtPlace_1 rfl hl (by decide) rfl (fun ls hl => ?_)
  refine lv_iconst (v := (0 : Int32)) hx hb dX1_pegsAtPlace_2 (by decide) ?_
  refine lv_istore_n (lv' := [(3, .int (0 : Int32)), (2, .int (0 : Int32)), (0, .ref (q 2)), (1, .int p0)]) hx hb dX1_pegsAtPlace_3 rfl hl (by decide) rfl (fun ls hl => ?_)
  have L4 : ∀ (n4 : Nat) (i4 : Nat), i4 + n4 = 16 → ∀ (x4_2 : Int32) (H : Heap) (locs : List Loc) (ls : Array Slot), va_P g.1 vwCl (ck g q v) H → va_D A (ck g q v) → va_S A s.heap H locs → lv_has ls 4 [(3, .int (nI i4)), (2, .int x4_2), (0, .ref (q 2)), (1, .int p0)] → (∀ (H : Heap) (locs : List Loc) (ls : Array Slot), va_P g.1 vwCl (ck g q v) H → va_D A (ck g q v) → va_S A s.heap H locs → lv_has ls 4 [(2, .int (f_X1_pegsAtPlace_L4 v p0 n4 i4 x4_2)), (0, .ref (q 2)), (1, .int p0)] → W p l e rm_X1_pegsAtPlace s m ([.ref (q 2), .int p0] : List Value).toArray below meth c H locs 0 0 Q (F0 m 28 ls [])) → W p l e rm_X1_pegsAtPlace s m ([.ref (q 2), .int p0] : List Value).toArray below meth c H locs 0 0 Q (F0 m 4 ls []) := by
    intro n4
    induction n4 with
    | zero =>
      intro i4 hin4 x4_2 H locs ls hP hD hS hl kx
      refine lv_iload_n hx hb dX1_pegsAtPlace_4 rfl (lv_at hl 0 rfl) ?_
      refine lv_bipush (v := (16 : Int32)) hx hb dX1_pegsAtPlace_5 (by decide) ?_
      refine lv_icmp_ge (tgt := 28) hx hb dX1_pegsAtPlace_7 (by decide) (fun c_7 => ?_) (fun c_7 => ?_)
      rotate_left
      · exact absurd (by rw [show i4 = 16 by omega]; decide) c_7
      have E : (f_X1_pegsAtPlace_L4 v p0 0 i4 x4_2) = x4_2 := rfl
      rw [E] at kx
      exact kx _ _ _ hP hD hS (lv_sub hl [1, 2, 3] rfl)
    | succ n4 ih4 =>
      intro i4 hin4 x4_2 H locs ls hP hD hS hl kx
      refine lv_iload_n hx hb dX1_pegsAtPlace_4 rfl (lv_at hl 0 rfl) ?_
      refine lv_bipush (v := (16 : Int32)) hx hb dX1_pegsAtPlace_5 (by decide) ?_
      refine lv_icmp_ge (tgt := 28) hx hb dX1_pegsAtPlace_7 (by decide) (fun c_7 => ?_) (fun c_7 => ?_)
      · exact absurd c_7 (nI_ge (a := i4) (b := 16) (by omega) (by omega))
      refine lv_aload_n hx hb dX1_pegsAtPlace_10 rfl (lv_at hl 2 rfl) ?_
      refine lv_iload_n hx hb dX1_pegsAtPlace_11 rfl (lv_at hl 0 rfl) ?_
      refine lv_iload_n hx hb dX1_pegsAtPlace_12 rfl (lv_at hl 3 rfl) ?_
      refine zcVi (n := 2) (As := [.int (nI i4), .int p0]) (rest := []) (Xr := []) (Xn := (ck g q v)) (ci := 1) (C := RX1) (T := TX1) (N := 4) (q0 := 2) hx hb hml hown hts hN (m_X1_hasPeg l g q v (nI i4) p0 (vp_in_nI (by omega) (by omega))) gX1_pegsAtPlace_X1_hasPeg rfl (by decide +kernel) ⟨rfl, rfl⟩ ⟨Nat.le_of_ble_eq_true rfl, Nat.le_of_ble_eq_true rfl⟩ hK hP hD hS hA (zpn _) rfl rfl rfl hl.1 rfl (Nat.le_of_ble_eq_true rfl) dX1_pegsAtPlace_13 ⟨Nat.zero_le _, Nat.zero_le _⟩ (zpn' _) (fun H locs hP hD hS => ?_)
      refine lv_if_eq (tgt := 22) hx hb dX1_pegsAtPlace_16 (by decide) (fun c_16 => ?_) (fun c_16 => ?_)
      · refine lv_iinc (v := (nI (i4 + 1))) (lv' := [(3, .int (nI (i4 + 1))), (2, .int x4_2), (0, .ref (q 2)), (1, .int p0)]) hx hb dX1_pegsAtPlace_22 hl (k := 0) rfl (nI_1 i4) (by decide) rfl (fun ls hl => ?_)
        refine lv_goto (tgt := 4) hx hb dX1_pegsAtPlace_25 (by decide) ?_
        have E : (f_X1_pegsAtPlace_L4 v p0 (n4 + 1) i4 x4_2) = (f_X1_pegsAtPlace_L4 v p0 n4 (i4 + 1) x4_2) := (if_pos c_16).trans rfl
        rw [E] at kx
        exact ih4 (i4 + 1) (by omega) x4_2 _ _ _  hP hD hS (lv_sub hl [0, 1, 2, 3] rfl) kx
      · refine lv_iinc (v := (x4_2 + (1 : Int32))) (lv' := [(2, .int (x4_2 + (1 : Int32))), (3, .int (nI i4)), (0, .ref (q 2)), (1, .int p0)]) hx hb dX1_pegsAtPlace_19 hl (k := 1) rfl rfl (by decide) rfl (fun ls hl => ?_)
        refine lv_iinc (v := (nI (i4 + 1))) (lv' := [(3, .int (nI (i4 + 1))), (2, .int (x4_2 + (1 : Int32))), (0, .ref (q 2)), (1, .int p0)]) hx hb dX1_pegsAtPlace_22 hl (k := 1) rfl (nI_1 i4) (by decide) rfl (fun ls hl => ?_)
        refine lv_goto (tgt := 4) hx hb dX1_pegsAtPlace_25 (by decide) ?_
        have E : (f_X1_pegsAtPlace_L4 v p0 (n4 + 1) i4 x4_2) = (f_X1_pegsAtPlace_L4 v p0 n4 (i4 + 1) (x4_2 + (1 : Int32))) := (if_neg c_16).trans rfl
        rw [E] at kx
        exact ih4 (i4 + 1) (by omega) (x4_2 + (1 : Int32)) _ _ _  hP hD hS (lv_sub hl [0, 1, 2, 3] rfl) kx
  refine L4 (zfu 16) 0 (by rw [zfu_eq]) (0 : Int32) _ _ _  hP hD hS (lv_sub hl [0, 1, 2, 3] rfl) (fun H locs ls hP hD hS hl => ?_)
  refine lv_iload_n hx hb dX1_pegsAtPlace_28 rfl (lv_at hl 0 rfl) ?_
  have E : (f_X1_pegsAtPlace v p0) = (f_X1_pegsAtPlace_L4 v p0 (zfu 16) 0 (0 : Int32)) := rfl
  exact hret _ _ _ _ _ _ dX1_pegsAtPlace_29 E.symm (rfl) rfl hP hD hS
abbrev rm_X1_allPegs : Room := { frames := 2, cells := 0, slots := 0, locals := 41 }
def r_X1_allPegs_13 (v : zCV) (i4 : Nat) : Int32 := (f_X1_pegsInRow v (nI i4))
def f_X1_allPegs_L4 (v : zCV) : Nat → Nat → Int32 → Int32
  | 0, i4, x4_1 => x4_1
  | n4 + 1, i4, x4_1 => (f_X1_allPegs_L4 v n4 (i4 + 1) (x4_1 + (r_X1_allPegs_13 v i4)))
def f_X1_allPegs (v : zCV) : Int32 := (f_X1_allPegs_L4 v (zfu 16) 0 (0 : Int32))
set_option maxRecDepth 100000 in
set_option maxHeartbeats 4000000 in
theorem m_X1_allPegs (l : Launch) (g : zG) (q : Nat → Nat) (v : zCV) : ZI l yX1_allPegs wsX1_allPegs rm_X1_allPegs g (ck g q v) [.ref (q 2)] (f_X1_allPegs v) (ck g q v) := by
  refine zopenI (cc := cX1_allPegs) (maxL := 3) (ret := .int) (by decide +kernel) rfl (Nat.le_of_ble_eq_true rfl) ?_
  intro p e s m below meth c A Q ls hx hb hml hown hts hP hK hD hA hN hl hret
  have hS : va_S A s.heap s.heap [] := va_S.rf
  have hl : lv_has ls 3 [(0, .ref (q 2))] := hl
  have hown : s.vm.findClass RX1 = some m.cls := hown
  refine lv_iconst (v := (0 : Int32)) hx hb dX1_allPegs_0 (by decide) ?_
  refine lv_istore_n (lv' := [(1, .int (0 : Int32)), (0, .ref (q 2))]) hx hb dX1_allPegs_1 rfl hl (by decide) rfl (fun ls hl => ?_)
  refine lv_iconst (v := (0 : Int32)) hx hb dX1_allPegs_2 (by decide) ?_
  refine lv_istore_n (lv' := [(2, .int (0 : Int32)), (1, .int (0 : Int32)), (0, .ref (q 2))]) hx hb dX1_allPegs_3 rfl hl (by decide) rfl (fun ls hl => ?_)
  have L4 : ∀ (n4 : Nat) (i4 : Nat), i4 + n4 = 16 → ∀ (x4_1 : Int32) (H : Heap) (locs : List Loc) (ls : Array Slot), va_P g.1 vwCl (ck g q v) H → va_D A (ck g q v) → va_S A s.heap H locs → lv_has ls 3 [(2, .int (nI i4)), (1, .int x4_1), (0, .ref (q 2))] → (∀ (H : Heap) (locs : List Loc) (ls : Array Slot), va_P g.1 vwCl (ck g q v) H → va_D A (ck g q v) → va_S A s.heap H locs → lv_has ls 3 [(1, .int (f_X1_allPegs_L4 v n4 i4 x4_1)), (0, .ref (q 2))] → W p l e rm_X1_allPegs s m ([.ref (q 2)] : List Value).toArray below meth c H locs 0 0 Q (F0 m 24 ls [])) → W p l e rm_X1_allPegs s m ([.ref (q 2)] : List Value).toArray below meth c H locs 0 0 Q (F0 m 4 ls []) := by
    intro n4
    induction n4 with
    | zero =>
      intro i4 hin4 x4_1 H locs ls hP hD hS hl kx
      refine lv_iload_n hx hb dX1_allPegs_4 rfl (lv_at hl 0 rfl) ?_
      refine lv_bipush (v := (16 : Int32)) hx hb dX1_allPegs_5 (by decide) ?_
      refine lv_icmp_ge (tgt := 24) hx hb dX1_allPegs_7 (by decide) (fun c_7 => ?_) (fun c_7 => ?_)
      rotate_left
      · exact absurd (by rw [show i4 = 16 by omega]; decide) c_7
      have E : (f_X1_allPegs_L4 v 0 i4 x4_1) = x4_1 := rfl
      rw [E] at kx
      exact kx _ _ _ hP hD hS (lv_sub hl [1, 2] rfl)
    | succ n4 ih4 =>
      intro i4 hin4 x4_1 H locs ls hP hD hS hl kx
      refine lv_iload_n hx hb dX1_allPegs_4 rfl (lv_at hl 0 rfl) ?_
      refine lv_bipush (v := (16 : Int32)) hx hb dX1_allPegs_5 (by decide) ?_
      refine lv_icmp_ge (tgt := 24) hx hb dX1_allPegs_7 (by decide) (fun c_7 => ?_) (fun c_7 => ?_)
      · exact absurd c_7 (nI_ge (a := i4) (b := 16) (by omega) (by omega))
      refine lv_iload_n hx hb dX1_allPegs_10 rfl (lv_at hl 1 rfl) ?_
      refine lv_aload_n hx hb dX1_allPegs_11 rfl (lv_at hl 2 rfl) ?_
      refine lv_iload_n hx hb dX1_allPegs_12 rfl (lv_at hl 0 rfl) ?_
      refine zcVi (n := 1) (As := [.int (nI i4)]) (rest := [.int x4_1]) (Xr := []) (Xn := (ck g q v)) (ci := 1) (C := RX1) (T := TX1) (N := 4) (q0 := 2) hx hb hml hown hts hN (m_X1_pegsInRow l g q v (nI i4) (vp_in_nI (by omega) (by omega))) gX1_allPegs_X1_pegsInRow rfl (by decide +kernel) ⟨rfl, rfl⟩ ⟨Nat.le_of_ble_eq_true rfl, Nat.le_of_ble_eq_true rfl⟩ hK hP hD hS hA (zpn _) rfl rfl rfl hl.1 rfl (Nat.le_of_ble_eq_true rfl) dX1_allPegs_13 ⟨Nat.zero_le _, Nat.zero_le _⟩ (zpn' _) (fun H locs hP hD hS => ?_)
      refine lv_iadd hx hb dX1_allPegs_16 ?_
      refine lv_istore_n (lv' := [(1, .int (x4_1 + (r_X1_allPegs_13 v i4))), (2, .int (nI i4)), (0, .ref (q 2))]) hx hb dX1_allPegs_17 rfl hl (by decide) rfl (fun ls hl => ?_)
      refine lv_iinc (v := (nI (i4 + 1))) (lv' := [(2, .int (nI (i4 + 1))), (1, .int (x4_1 + (r_X1_allPegs_13 v i4))), (0, .ref (q 2))]) hx hb dX1_allPegs_18 hl (k := 1) rfl (nI_1 i4) (by decide) rfl (fun ls hl => ?_)
      refine lv_goto (tgt := 4) hx hb dX1_allPegs_21 (by decide) ?_
      have E : (f_X1_allPegs_L4 v (n4 + 1) i4 x4_1) = (f_X1_allPegs_L4 v n4 (i4 + 1) (x4_1 + (r_X1_allPegs_13 v i4))) := rfl
      rw [E] at kx
      exact ih4 (i4 + 1) (by omega) (x4_1 + (r_X1_allPegs_13 v i4)) _ _ _  hP hD hS (lv_sub hl [0, 1, 2] rfl) kx
  refine L4 (zfu 16) 0 (by rw [zfu_eq]) (0 : Int32) _ _ _  hP hD hS (lv_sub hl [0, 1, 2] rfl) (fun H locs ls hP hD hS hl => ?_)
  refine lv_iload_n hx hb dX1_allPegs_24 rfl (lv_at hl 0 rfl) ?_
  have E : (f_X1_allPegs v) = (f_X1_allPegs_L4 v (zfu 16) 0 (0 : Int32)) := rfl
  exact hret _ _ _ _ _ _ dX1_allPegs_25 E.symm (rfl) rfl hP hD hS
abbrev rm_X1_giveRow : Room := { frames := 1, cells := 0, slots := 0, locals := 22 }
set_option maxRecDepth 20000 in
theorem zin_X1_giveRow_X1 : ∀ w ∈ wsX10, w ∈ wsX1_giveRow := by decide +kernel
def r_X1_giveRow_11 (p0 : Int32) (i2 : Nat) (w2_0 : zCV) : Int32 := (f_X1_hasPeg w2_0 p0 (nI i2))
def s_X1_giveRow_28 (p0 : Int32) (i2 : Nat) (w2_0 : zCV) : zCV := zA w2_0 2 (upd (w2_0.2 2) ((p0 * (6 : Int32)) + (nI i2)).toNatClampNeg (0 : Int32))
def f_X1_giveRow_L2 (p0 : Int32) : Nat → Nat → zCV → zCV
  | 0, i2, w2_0 => w2_0
  | n2 + 1, i2, w2_0 => if (r_X1_giveRow_11 p0 i2 w2_0) = (0 : Int32) then ((f_X1_giveRow_L2 p0 n2 (i2 + 1) (s_X1_giveRow_28 p0 i2 w2_0))) else ((f_X1_giveRow_L2 p0 n2 (i2 + 1) w2_0))
def s_X1_giveRow_41 (v : zCV) (p0 : Int32) (p1 : Int32) : zCV := zA (f_X1_giveRow_L2 p0 (zfu 6) 0 v) 1 (upd ((f_X1_giveRow_L2 p0 (zfu 6) 0 v).2 1) p0.toNatClampNeg p1)
def f_X1_giveRow (v : zCV) (p0 : Int32) (p1 : Int32) : zCV := (s_X1_giveRow_41 v p0 p1)
set_option maxRecDepth 100000 in
set_option maxHeartbeats 4000000 in
theorem m_X1_giveRow (l : Launch) (g : zG) (q : Nat → Nat) (v : zCV) (p0 : Int32) (p1 : Int32) (h0 : vp_in p0 16) : ZV l yX1_giveRow wsX1_giveRow rm_X1_giveRow g (ck g q v) [.ref (q 2), .int p0, .int p1] (ck g q (f_X1_giveRow v p0 p1)) := by
  refine zopenV (cc := cX1_giveRow) (maxL := 4) (by decide +kernel) rfl (Nat.le_of_ble_eq_true rfl) ?_
  intro p e s m below meth c A Q ls hx hb hml hown hts hP hK hD hA hN hl hret
  have hS : va_S A s.heap s.heap [] := va_S.rf
  have hl : lv_has ls 4 [(0, .ref (q 2)), (1, .int p0), (2, .int p1)] := hl
  have hown : s.vm.findClass RX1 = some m.cls := hown
  refine lv_iconst (v := (0 : Int32)) hx hb dX1_giveRow_0 (by decide) ?_
  refine lv_istore_n (lv' := [(3, .int (0 : Int32)), (0, .ref (q 2)), (1, .int p0), (2, .int p1)]) hx hb dX1_giveRow_1 rfl hl (by decide) rfl (fun ls hl => ?_)
  have L2 : ∀ (n2 : Nat) (i2 : Nat), i2 + n2 = 6 → ∀ (w2_0 : zCV) (H : Heap) (locs : List Loc) (ls : Array Slot), va_P g.1 vwCl (ck g q w2_0) H → va_D A (ck g q w2_0) → va_S A s.heap H locs → lv_has ls 4 [(3, .int (nI i2)), (0, .ref (q 2)), (1, .int p0), (2, .int p1)] → (∀ (H : Heap) (locs : List Loc) (ls : Array Slot), va_P g.1 vwCl (ck g q (f_X1_giveRow_L2 p0 n2 i2 w2_0)) H → va_D A (ck g q (f_X1_giveRow_L2 p0 n2 i2 w2_0)) → va_S A s.heap H locs → lv_has ls 4 [(0, .ref (q 2)), (1, .int p0), (2, .int p1)] → W p l e rm_X1_giveRow s m ([.ref (q 2), .int p0, .int p1] : List Value).toArray below meth c H locs 0 0 Q (F0 m 35 ls [])) → W p l e rm_X1_giveRow s m ([.ref (q 2), .int p0, .int p1] : List Value).toArray below meth c H locs 0 0 Q (F0 m 2 ls []) := by
    intro n2
    induction n2 with
    | zero =>
      intro i2 hin2 w2_0 H locs ls hP hD hS hl kx
      refine lv_iload_n hx hb dX1_giveRow_2 rfl (lv_at hl 0 rfl) ?_
      refine lv_bipush (v := (6 : Int32)) hx hb dX1_giveRow_3 (by decide) ?_
      refine lv_icmp_ge (tgt := 35) hx hb dX1_giveRow_5 (by decide) (fun c_5 => ?_) (fun c_5 => ?_)
      rotate_left
      · exact absurd (by rw [show i2 = 6 by omega]; decide) c_5
      have E : (f_X1_giveRow_L2 p0 0 i2 w2_0) = w2_0 := rfl
      rw [E] at kx
      exact kx _ _ _ hP hD hS (lv_sub hl [1, 2, 3] rfl)
    | succ n2 ih2 =>
      intro i2 hin2 w2_0 H locs ls hP hD hS hl kx
      refine lv_iload_n hx hb dX1_giveRow_2 rfl (lv_at hl 0 rfl) ?_
      refine lv_bipush (v := (6 : Int32)) hx hb dX1_giveRow_3 (by decide) ?_
      refine lv_icmp_ge (tgt := 35) hx hb dX1_giveRow_5 (by decide) (fun c_5 => ?_) (fun c_5 => ?_)
      · exact absurd c_5 (nI_ge (a := i2) (b := 6) (by omega) (by omega))
      refine lv_aload_n hx hb dX1_giveRow_8 rfl (lv_at hl 1 rfl) ?_
      refine lv_iload_n hx hb dX1_giveRow_9 rfl (lv_at hl 2 rfl) ?_
      refine lv_iload_n hx hb dX1_giveRow_10 rfl (lv_at hl 0 rfl) ?_
      refine zcVi (n := 2) (As := [.int p0, .int (nI i2)]) (rest := []) (Xr := []) (Xn := (ck g q w2_0)) (ci := 1) (C := RX1) (T := TX1) (N := 4) (q0 := 2) hx hb hml hown hts hN (m_X1_hasPeg l g q w2_0 p0 (nI i2) h0) gX1_giveRow_X1_hasPeg rfl (by decide +kernel) ⟨rfl, rfl⟩ ⟨Nat.le_of_ble_eq_true rfl, Nat.le_of_ble_eq_true rfl⟩ hK hP hD hS hA (zpn _) rfl rfl rfl hl.1 rfl (Nat.le_of_ble_eq_true rfl) dX1_giveRow_11 ⟨Nat.zero_le _, Nat.zero_le _⟩ (zpn' _) (fun H locs hP hD hS => ?_)
      refine lv_if_ne (tgt := 29) hx hb dX1_giveRow_14 (by decide) (fun c_14 => ?_) (fun c_14 => ?_)
      · refine lv_iinc (v := (nI (i2 + 1))) (lv' := [(3, .int (nI (i2 + 1))), (0, .ref (q 2)), (1, .int p0), (2, .int p1)]) hx hb dX1_giveRow_29 hl (k := 0) rfl (nI_1 i2) (by decide) rfl (fun ls hl => ?_)
        refine lv_goto (tgt := 2) hx hb dX1_giveRow_32 (by decide) ?_
        have E : (f_X1_giveRow_L2 p0 (n2 + 1) i2 w2_0) = (f_X1_giveRow_L2 p0 n2 (i2 + 1) w2_0) := (if_neg c_14).trans rfl
        rw [E] at kx
        exact ih2 (i2 + 1) (by omega) w2_0 _ _ _  hP hD hS (lv_sub hl [0, 1, 2, 3] rfl) kx
      · refine lv_aload_n hx hb dX1_giveRow_17 rfl (lv_at hl 1 rfl) ?_
        refine va_get (D := g.1) (ci := 1) (v := .ref (q 4)) (C := RX1) (T := TX1) (N := 4) hx hb hts (zin_X1_giveRow_X1) hown hK hP 2 rfl rfl 1 (by decide) (hts (.fieldLink RX1 15 "PegClerks$Drum" "stampings" "[I") (by decide +kernel)) (fun _ h9 => h9) rfl dX1_giveRow_18 ?_
        refine lv_iload_n hx hb dX1_giveRow_21 rfl (lv_at hl 2 rfl) ?_
        refine lv_bipush (v := (6 : Int32)) hx hb dX1_giveRow_22 (by decide) ?_
        refine lv_imul hx hb dX1_giveRow_24 ?_
        refine lv_iload_n hx hb dX1_giveRow_25 rfl (lv_at hl 0 rfl) ?_
        refine lv_iadd hx hb dX1_giveRow_26 ?_
        refine lv_iconst (v := (0 : Int32)) hx hb dX1_giveRow_27 (by decide) ?_
        refine z_iast (f := (w2_0.2 2)) (k := ((p0 * (6 : Int32)) + (nI i2)).toNatClampNeg) hx hb hK hP hD hS 4 0 rfl rfl (zin_rp h0 (vp_in_nI (n := i2) (N := 6) (by omega) (by omega))) rfl dX1_giveRow_28 (fun H locs hP hD hS => ?_)
        have hP : va_P g.1 vwCl (ck g q (s_X1_giveRow_28 p0 i2 w2_0)) H := (congrArg (fun z => va_P g.1 vwCl z H) (ck_A2 g q w2_0 (upd (w2_0.2 2) ((p0 * (6 : Int32)) + (nI i2)).toNatClampNeg (0 : Int32)))).mp hP
        have hD : va_D A (ck g q (s_X1_giveRow_28 p0 i2 w2_0)) := (congrArg (fun z => va_D A z) (ck_A2 g q w2_0 (upd (w2_0.2 2) ((p0 * (6 : Int32)) + (nI i2)).toNatClampNeg (0 : Int32)))).mp hD
        refine lv_iinc (v := (nI (i2 + 1))) (lv' := [(3, .int (nI (i2 + 1))), (0, .ref (q 2)), (1, .int p0), (2, .int p1)]) hx hb dX1_giveRow_29 hl (k := 0) rfl (nI_1 i2) (by decide) rfl (fun ls hl => ?_)
        refine lv_goto (tgt := 2) hx hb dX1_giveRow_32 (by decide) ?_
        have E : (f_X1_giveRow_L2 p0 (n2 + 1) i2 w2_0) = (f_X1_giveRow_L2 p0 n2 (i2 + 1) (s_X1_giveRow_28 p0 i2 w2_0)) := (if_pos c_14).trans rfl
        rw [E] at kx
        exact ih2 (i2 + 1) (by omega) (s_X1_giveRow_28 p0 i2 w2_0) _ _ _  hP hD hS (lv_sub hl [0, 1, 2, 3] rfl) kx
  refine L2 (zfu 6) 0 (by rw [zfu_eq]) v _ _ _  hP hD hS (lv_sub hl [0, 1, 2, 3] rfl) (fun H locs ls hP hD hS hl => ?_)
  refine lv_aload_n hx hb dX1_giveRow_35 rfl (lv_at hl 0 rfl) ?_
  refine va_get (D := g.1) (ci := 1) (v := .ref (q 3)) (C := RX1) (T := TX1) (N := 4) hx hb hts (zin_X1_giveRow_X1) hown hK hP 2 rfl rfl 0 (by decide) (hts (.fieldLink RX1 9 "PegClerks$Drum" "rows" "[I") (by decide +kernel)) (fun _ h9 => h9) rfl dX1_giveRow_36 ?_
  refine lv_iload_n hx hb dX1_giveRow_39 rfl (lv_at hl 1 rfl) ?_
  refine lv_iload_n hx hb dX1_giveRow_40 rfl (lv_at hl 2 rfl) ?_
  refine z_iast (f := ((f_X1_giveRow_L2 p0 (zfu 6) 0 v).2 1)) (k := p0.toNatClampNeg) hx hb hK hP hD hS 3 0 rfl rfl h0 rfl dX1_giveRow_41 (fun H locs hP hD hS => ?_)
  have hP : va_P g.1 vwCl (ck g q (s_X1_giveRow_41 v p0 p1)) H := (congrArg (fun z => va_P g.1 vwCl z H) (ck_A1 g q (f_X1_giveRow_L2 p0 (zfu 6) 0 v) (upd ((f_X1_giveRow_L2 p0 (zfu 6) 0 v).2 1) p0.toNatClampNeg p1))).mp hP
  have hD : va_D A (ck g q (s_X1_giveRow_41 v p0 p1)) := (congrArg (fun z => va_D A z) (ck_A1 g q (f_X1_giveRow_L2 p0 (zfu 6) 0 v) (upd ((f_X1_giveRow_L2 p0 (zfu 6) 0 v).2 1) p0.toNatClampNeg p1))).mp hD
  have E : (f_X1_giveRow v p0 p1) = (s_X1_giveRow_41 v p0 p1) := rfl
  have e2 : (ck g q (s_X1_giveRow_41 v p0 p1)) = (ck g q (f_X1_giveRow v p0 p1)) := by rw [E]
  exact hret (ck g q (s_X1_giveRow_41 v p0 p1)) _ _ _ _ dX1_giveRow_42 e2 hP hD hS
abbrev rm_X4_leavesMark : Room := { frames := 0, cells := 0, slots := 0, locals := 0 }
set_option maxRecDepth 20000 in
theorem zin_X4_leavesMark_X4 : ∀ w ∈ wsX40, w ∈ wsX4_leavesMark := by decide +kernel
def s_X4_leavesMark_31 (v : zCV) (p0 : Int32) (p1 : Int32) : zCV := zA v 3 (upd (v.2 3) p0.toNatClampNeg (((v.2 3) p0.toNatClampNeg) - p1))
def s_X4_leavesMark_41 (v : zCV) (p0 : Int32) (p1 : Int32) : zCV := zA (s_X4_leavesMark_31 v p0 p1) 4 (upd ((s_X4_leavesMark_31 v p0 p1).2 4) p0.toNatClampNeg ((((s_X4_leavesMark_31 v p0 p1).2 4) p0.toNatClampNeg) + (1 : Int32)))
def s_X4_leavesMark_19 (v : zCV) (p0 : Int32) : zCV := zA v 5 (upd (v.2 5) p0.toNatClampNeg (((v.2 5) p0.toNatClampNeg) + (1 : Int32)))
def f_X4_leavesMark (v : zCV) (p0 : Int32) (p1 : Int32) : Int32 × zCV := if p1 ≤ ((v.2 3) p0.toNatClampNeg) then (((1 : Int32), (s_X4_leavesMark_41 v p0 p1))) else (((0 : Int32), (s_X4_leavesMark_19 v p0)))
set_option maxRecDepth 100000 in
set_option maxHeartbeats 4000000 in
theorem m_X4_leavesMark (l : Launch) (g : zG) (q : Nat → Nat) (v : zCV) (p0 : Int32) (p1 : Int32) (h0 : vp_in p0 6) : ZI l yX4_leavesMark wsX4_leavesMark rm_X4_leavesMark g (ck g q v) [.ref (q 5), .int p0, .int p1] (f_X4_leavesMark v p0 p1).1 (ck g q (f_X4_leavesMark v p0 p1).2) := by
  refine zopenI (cc := cX4_leavesMark) (maxL := 3) (ret := .boolean) (by decide +kernel) rfl (Nat.le_of_ble_eq_true rfl) ?_
  intro p e s m below meth c A Q ls hx hb hml hown hts hP hK hD hA hN hl hret
  have hS : va_S A s.heap s.heap [] := va_S.rf
  have hl : lv_has ls 3 [(0, .ref (q 5)), (1, .int p0), (2, .int p1)] := hl
  have hown : s.vm.findClass RX4 = some m.cls := hown
  refine lv_aload_n hx hb dX4_leavesMark_0 rfl (lv_at hl 0 rfl) ?_
  refine va_get (D := g.1) (ci := 4) (v := .ref (q 6)) (C := RX4) (T := TX4) (N := 4) hx hb hts (zin_X4_leavesMark_X4) hown hK hP 5 rfl rfl 0 (by decide) (hts (.fieldLink RX4 9 "PegClerks$Stamps" "inks" "[I") (by decide +kernel)) (fun _ h9 => h9) rfl dX4_leavesMark_1 ?_
  refine lv_iload_n hx hb dX4_leavesMark_4 rfl (lv_at hl 1 rfl) ?_
  refine z_iald (f := (v.2 3)) (k := p0.toNatClampNeg) hx hb hK hP 6 0 rfl rfl h0 rfl dX4_leavesMark_5 ?_
  refine lv_iload_n hx hb dX4_leavesMark_6 rfl (lv_at hl 2 rfl) ?_
  refine lv_icmp_ge (tgt := 22) hx hb dX4_leavesMark_7 (by decide) (fun c_7 => ?_) (fun c_7 => ?_)
  · refine lv_aload_n hx hb dX4_leavesMark_22 rfl (lv_at hl 0 rfl) ?_
    refine va_get (D := g.1) (ci := 4) (v := .ref (q 6)) (C := RX4) (T := TX4) (N := 4) hx hb hts (zin_X4_leavesMark_X4) hown hK hP 5 rfl rfl 0 (by decide) (hts (.fieldLink RX4 9 "PegClerks$Stamps" "inks" "[I") (by decide +kernel)) (fun _ h9 => h9) rfl dX4_leavesMark_23 ?_
    refine lv_iload_n hx hb dX4_leavesMark_26 rfl (lv_at hl 1 rfl) ?_
    refine lv_dup2_11 hx hb dX4_leavesMark_27 rfl rfl ?_
    refine z_iald (f := (v.2 3)) (k := p0.toNatClampNeg) hx hb hK hP 6 0 rfl rfl h0 rfl dX4_leavesMark_28 ?_
    refine lv_iload_n hx hb dX4_leavesMark_29 rfl (lv_at hl 2 rfl) ?_
    refine lv_isub hx hb dX4_leavesMark_30 ?_
    refine z_iast (f := (v.2 3)) (k := p0.toNatClampNeg) hx hb hK hP hD hS 6 0 rfl rfl h0 rfl dX4_leavesMark_31 (fun H locs hP hD hS => ?_)
    have hP : va_P g.1 vwCl (ck g q (s_X4_leavesMark_31 v p0 p1)) H := (congrArg (fun z => va_P g.1 vwCl z H) (ck_A3 g q v (upd (v.2 3) p0.toNatClampNeg (((v.2 3) p0.toNatClampNeg) - p1)))).mp hP
    have hD : va_D A (ck g q (s_X4_leavesMark_31 v p0 p1)) := (congrArg (fun z => va_D A z) (ck_A3 g q v (upd (v.2 3) p0.toNatClampNeg (((v.2 3) p0.toNatClampNeg) - p1)))).mp hD
    refine lv_aload_n hx hb dX4_leavesMark_32 rfl (lv_at hl 0 rfl) ?_
    refine va_get (D := g.1) (ci := 4) (v := .ref (q 7)) (C := RX4) (T := TX4) (N := 4) hx hb hts (zin_X4_leavesMark_X4) hown hK hP 5 rfl rfl 1 (by decide) (hts (.fieldLink RX4 15 "PegClerks$Stamps" "marks" "[I") (by decide +kernel)) (fun _ h9 => h9) rfl dX4_leavesMark_33 ?_
    refine lv_iload_n hx hb dX4_leavesMark_36 rfl (lv_at hl 1 rfl) ?_
    refine lv_dup2_11 hx hb dX4_leavesMark_37 rfl rfl ?_
    refine z_iald (f := ((s_X4_leavesMark_31 v p0 p1).2 4)) (k := p0.toNatClampNeg) hx hb hK hP 7 0 rfl rfl h0 rfl dX4_leavesMark_38 ?_
    refine lv_iconst (v := (1 : Int32)) hx hb dX4_leavesMark_39 (by decide) ?_
    refine lv_iadd hx hb dX4_leavesMark_40 ?_
    refine z_iast (f := ((s_X4_leavesMark_31 v p0 p1).2 4)) (k := p0.toNatClampNeg) hx hb hK hP hD hS 7 0 rfl rfl h0 rfl dX4_leavesMark_41 (fun H locs hP hD hS => ?_)
    have hP : va_P g.1 vwCl (ck g q (s_X4_leavesMark_41 v p0 p1)) H := (congrArg (fun z => va_P g.1 vwCl z H) (ck_A4 g q (s_X4_leavesMark_31 v p0 p1) (upd ((s_X4_leavesMark_31 v p0 p1).2 4) p0.toNatClampNeg ((((s_X4_leavesMark_31 v p0 p1).2 4) p0.toNatClampNeg) + (1 : Int32))))).mp hP
    have hD : va_D A (ck g q (s_X4_leavesMark_41 v p0 p1)) := (congrArg (fun z => va_D A z) (ck_A4 g q (s_X4_leavesMark_31 v p0 p1) (upd ((s_X4_leavesMark_31 v p0 p1).2 4) p0.toNatClampNeg ((((s_X4_leavesMark_31 v p0 p1).2 4) p0.toNatClampNeg) + (1 : Int32))))).mp hD
    refine lv_iconst (v := (1 : Int32)) hx hb dX4_leavesMark_42 (by decide) ?_
    have E : (f_X4_leavesMark v p0 p1) = ((1 : Int32), (s_X4_leavesMark_41 v p0 p1)) := (if_pos c_7).trans rfl
    have e1 : (1 : Int32) = (f_X4_leavesMark v p0 p1).1 := by rw [E]
    have e2 : (ck g q (s_X4_leavesMark_41 v p0 p1)) = (ck g q (f_X4_leavesMark v p0 p1).2) := by rw [E]
    exact hret (1 : Int32) (ck g q (s_X4_leavesMark_41 v p0 p1)) _ _ _ _ dX4_leavesMark_43 e1 (rfl) e2 hP hD hS
  · refine lv_aload_n hx hb dX4_leavesMark_10 rfl (lv_at hl 0 rfl) ?_
    refine va_get (D := g.1) (ci := 4) (v := .ref (q 8)) (C := RX4) (T := TX4) (N := 4) hx hb hts (zin_X4_leavesMark_X4) hown hK hP 5 rfl rfl 2 (by decide) (hts (.fieldLink RX4 18 "PegClerks$Stamps" "dryFalls" "[I") (by decide +kernel)) (fun _ h9 => h9) rfl dX4_leavesMark_11 ?_
    refine lv_iload_n hx hb dX4_leavesMark_14 rfl (lv_at hl 1 rfl) ?_
    refine lv_dup2_11 hx hb dX4_leavesMark_15 rfl rfl ?_
    refine z_iald (f := (v.2 5)) (k := p0.toNatClampNeg) hx hb hK hP 8 0 rfl rfl h0 rfl dX4_leavesMark_16 ?_
    refine lv_iconst (v := (1 : Int32)) hx hb dX4_leavesMark_17 (by decide) ?_
    refine lv_iadd hx hb dX4_leavesMark_18 ?_
    refine z_iast (f := (v.2 5)) (k := p0.toNatClampNeg) hx hb hK hP hD hS 8 0 rfl rfl h0 rfl dX4_leavesMark_19 (fun H locs hP hD hS => ?_)
    have hP : va_P g.1 vwCl (ck g q (s_X4_leavesMark_19 v p0)) H := (congrArg (fun z => va_P g.1 vwCl z H) (ck_A5 g q v (upd (v.2 5) p0.toNatClampNeg (((v.2 5) p0.toNatClampNeg) + (1 : Int32))))).mp hP
    have hD : va_D A (ck g q (s_X4_leavesMark_19 v p0)) := (congrArg (fun z => va_D A z) (ck_A5 g q v (upd (v.2 5) p0.toNatClampNeg (((v.2 5) p0.toNatClampNeg) + (1 : Int32))))).mp hD
    refine lv_iconst (v := (0 : Int32)) hx hb dX4_leavesMark_20 (by decide) ?_
    have E : (f_X4_leavesMark v p0 p1) = ((0 : Int32), (s_X4_leavesMark_19 v p0)) := (if_neg c_7).trans rfl
    have e1 : (0 : Int32) = (f_X4_leavesMark v p0 p1).1 := by rw [E]
    have e2 : (ck g q (s_X4_leavesMark_19 v p0)) = (ck g q (f_X4_leavesMark v p0 p1).2) := by rw [E]
    exact hret (0 : Int32) (ck g q (s_X4_leavesMark_19 v p0)) _ _ _ _ dX4_leavesMark_21 e1 (rfl) e2 hP hD hS
abbrev rm_X4_allMarks : Room := { frames := 0, cells := 0, slots := 0, locals := 0 }
set_option maxRecDepth 20000 in
theorem zin_X4_allMarks_X4 : ∀ w ∈ wsX40, w ∈ wsX4_allMarks := by decide +kernel
def f_X4_allMarks_L4 (v : zCV) : Nat → Nat → Int32 → Int32
  | 0, i4, x4_1 => x4_1
  | n4 + 1, i4, x4_1 => (f_X4_allMarks_L4 v n4 (i4 + 1) (x4_1 + ((v.2 4) (nI i4).toNatClampNeg)))
def f_X4_allMarks (v : zCV) : Int32 := (f_X4_allMarks_L4 v (zfu 6) 0 (0 : Int32))
set_option maxRecDepth 100000 in
set_option maxHeartbeats 4000000 in
theorem m_X4_allMarks (l : Launch) (g : zG) (q : Nat → Nat) (v : zCV) : ZI l yX4_allMarks wsX4_allMarks rm_X4_allMarks g (ck g q v) [.ref (q 5)] (f_X4_allMarks v) (ck g q v) := by
  refine zopenI (cc := cX4_allMarks) (maxL := 3) (ret := .int) (by decide +kernel) rfl (Nat.le_of_ble_eq_true rfl) ?_
  intro p e s m below meth c A Q ls hx hb hml hown hts hP hK hD hA hN hl hret
  have hS : va_S A s.heap s.heap [] := va_S.rf
  have hl : lv_has ls 3 [(0, .ref (q 5))] := hl
  have hown : s.vm.findClass RX4 = some m.cls := hown
  refine lv_iconst (v := (0 : Int32)) hx hb dX4_allMarks_0 (by decide) ?_
  refine lv_istore_n (lv' := [(1, .int (0 : Int32)), (0, .ref (q 5))]) hx hb dX4_allMarks_1 rfl hl (by decide) rfl (fun ls hl => ?_)
  refine lv_iconst (v := (0 : Int32)) hx hb dX4_allMarks_2 (by decide) ?_
  refine lv_istore_n (lv' := [(2, .int (0 : Int32)), (1, .int (0 : Int32)), (0, .ref (q 5))]) hx hb dX4_allMarks_3 rfl hl (by decide) rfl (fun ls hl => ?_)
  have L4 : ∀ (n4 : Nat) (i4 : Nat), i4 + n4 = 6 → ∀ (x4_1 : Int32) (H : Heap) (locs : List Loc) (ls : Array Slot), va_P g.1 vwCl (ck g q v) H → va_D A (ck g q v) → va_S A s.heap H locs → lv_has ls 3 [(2, .int (nI i4)), (1, .int x4_1), (0, .ref (q 5))] → (∀ (H : Heap) (locs : List Loc) (ls : Array Slot), va_P g.1 vwCl (ck g q v) H → va_D A (ck g q v) → va_S A s.heap H locs → lv_has ls 3 [(1, .int (f_X4_allMarks_L4 v n4 i4 x4_1)), (0, .ref (q 5))] → W p l e rm_X4_allMarks s m ([.ref (q 5)] : List Value).toArray below meth c H locs 0 0 Q (F0 m 25 ls [])) → W p l e rm_X4_allMarks s m ([.ref (q 5)] : List Value).toArray below meth c H locs 0 0 Q (F0 m 4 ls []) := by
    intro n4
    induction n4 with
    | zero =>
      intro i4 hin4 x4_1 H locs ls hP hD hS hl kx
      refine lv_iload_n hx hb dX4_allMarks_4 rfl (lv_at hl 0 rfl) ?_
      refine lv_bipush (v := (6 : Int32)) hx hb dX4_allMarks_5 (by decide) ?_
      refine lv_icmp_ge (tgt := 25) hx hb dX4_allMarks_7 (by decide) (fun c_7 => ?_) (fun c_7 => ?_)
      rotate_left
      · exact absurd (by rw [show i4 = 6 by omega]; decide) c_7
      have E : (f_X4_allMarks_L4 v 0 i4 x4_1) = x4_1 := rfl
      rw [E] at kx
      exact kx _ _ _ hP hD hS (lv_sub hl [1, 2] rfl)
    | succ n4 ih4 =>
      intro i4 hin4 x4_1 H locs ls hP hD hS hl kx
      refine lv_iload_n hx hb dX4_allMarks_4 rfl (lv_at hl 0 rfl) ?_
      refine lv_bipush (v := (6 : Int32)) hx hb dX4_allMarks_5 (by decide) ?_
      refine lv_icmp_ge (tgt := 25) hx hb dX4_allMarks_7 (by decide) (fun c_7 => ?_) (fun c_7 => ?_)
      · exact absurd c_7 (nI_ge (a := i4) (b := 6) (by omega) (by omega))
      refine lv_iload_n hx hb dX4_allMarks_10 rfl (lv_at hl 1 rfl) ?_
      refine lv_aload_n hx hb dX4_allMarks_11 rfl (lv_at hl 2 rfl) ?_
      refine va_get (D := g.1) (ci := 4) (v := .ref (q 7)) (C := RX4) (T := TX4) (N := 4) hx hb hts (zin_X4_allMarks_X4) hown hK hP 5 rfl rfl 1 (by decide) (hts (.fieldLink RX4 15 "PegClerks$Stamps" "marks" "[I") (by decide +kernel)) (fun _ h9 => h9) rfl dX4_allMarks_12 ?_
      refine lv_iload_n hx hb dX4_allMarks_15 rfl (lv_at hl 0 rfl) ?_
      refine z_iald (f := (v.2 4)) (k := (nI i4).toNatClampNeg) hx hb hK hP 7 0 rfl rfl (vp_in_nI (by omega) (by omega)) rfl dX4_allMarks_16 ?_
      refine lv_iadd hx hb dX4_allMarks_17 ?_
      refine lv_istore_n (lv' := [(1, .int (x4_1 + ((v.2 4) (nI i4).toNatClampNeg))), (2, .int (nI i4)), (0, .ref (q 5))]) hx hb dX4_allMarks_18 rfl hl (by decide) rfl (fun ls hl => ?_)
      refine lv_iinc (v := (nI (i4 + 1))) (lv' := [(2, .int (nI (i4 + 1))), (1, .int (x4_1 + ((v.2 4) (nI i4).toNatClampNeg))), (0, .ref (q 5))]) hx hb dX4_allMarks_19 hl (k := 1) rfl (nI_1 i4) (by decide) rfl (fun ls hl => ?_)
      refine lv_goto (tgt := 4) hx hb dX4_allMarks_22 (by decide) ?_
      have E : (f_X4_allMarks_L4 v (n4 + 1) i4 x4_1) = (f_X4_allMarks_L4 v n4 (i4 + 1) (x4_1 + ((v.2 4) (nI i4).toNatClampNeg))) := rfl
      rw [E] at kx
      exact ih4 (i4 + 1) (by omega) (x4_1 + ((v.2 4) (nI i4).toNatClampNeg)) _ _ _  hP hD hS (lv_sub hl [0, 1, 2] rfl) kx
  refine L4 (zfu 6) 0 (by rw [zfu_eq]) (0 : Int32) _ _ _  hP hD hS (lv_sub hl [0, 1, 2] rfl) (fun H locs ls hP hD hS hl => ?_)
  refine lv_iload_n hx hb dX4_allMarks_25 rfl (lv_at hl 0 rfl) ?_
  have E : (f_X4_allMarks v) = (f_X4_allMarks_L4 v (zfu 6) 0 (0 : Int32)) := rfl
  exact hret _ _ _ _ _ _ dX4_allMarks_26 E.symm (rfl) rfl hP hD hS
