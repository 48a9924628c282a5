abbrev rm_X5_isRow : Room := { frames := 0, cells := 0, slots := 0, locals := 0 }
def f_X5_isRow (p0 : Int32) : Int32 := if p0 < (0 : Int32) then ((0 : Int32)) else (if (16 : Int32) ≤ p0 then ((0 : Int32)) else ((1 : Int32)))
set_option maxRecDepth 100000 in
set_option maxHeartbeats 4000000 in
theorem m_X5_isRow (l : Launch) (g : zG) (p0 : Int32) : ZI l yX5_isRow wsX5_isRow rm_X5_isRow g [] [.int p0] (f_X5_isRow p0) [] := by
  refine zopenI (cc := cX5_isRow) (maxL := 1) (ret := .boolean) (by decide +kernel) rfl (Nat.le_of_ble_eq_true rfl) ?_
  intro p e s m below meth c A Q ls hx hb hml hown hts hP hK hD hA hN hl hret
  have hS : va_S A s.heap s.heap [] := va_S.rf
  have hl : lv_has ls 1 [(0, .int p0)] := hl
  have hown : s.vm.findClass RX5 = some m.cls := hown
  refine lv_iload_n hx hb dX5_isRow_0 rfl (lv_at hl 0 rfl) ?_
  refine lv_if_lt (tgt := 14) hx hb dX5_isRow_1 (by decide) (fun c_1 => ?_) (fun c_1 => ?_)
  · refine lv_iconst (v := (0 : Int32)) hx hb dX5_isRow_14 (by decide) ?_
    have E : (f_X5_isRow p0) = (0 : Int32) := (if_pos c_1).trans rfl
    exact hret _ _ _ _ _ _ dX5_isRow_15 E.symm (rfl) rfl hP hD hS
  · refine lv_iload_n hx hb dX5_isRow_4 rfl (lv_at hl 0 rfl) ?_
    refine lv_bipush (v := (16 : Int32)) hx hb dX5_isRow_5 (by decide) ?_
    refine lv_icmp_ge (tgt := 14) hx hb dX5_isRow_7 (by decide) (fun c_7 => ?_) (fun c_7 => ?_)
    · refine lv_iconst (v := (0 : Int32)) hx hb dX5_isRow_14 (by decide) ?_
      have E : (f_X5_isRow p0) = (0 : Int32) := (if_neg c_1).trans ((if_pos c_7).trans rfl)
      exact hret _ _ _ _ _ _ dX5_isRow_15 E.symm (rfl) rfl hP hD hS
    · refine lv_iconst (v := (1 : Int32)) hx hb dX5_isRow_10 (by decide) ?_
      refine lv_goto (tgt := 15) hx hb dX5_isRow_11 (by decide) ?_
      have E : (f_X5_isRow p0) = (1 : Int32) := (if_neg c_1).trans ((if_neg c_7).trans rfl)
      exact hret _ _ _ _ _ _ dX5_isRow_15 E.symm (rfl) rfl hP hD hS
abbrev rm_X5_isPlace : Room := { frames := 0, cells := 0, slots := 0, locals := 0 }
def f_X5_isPlace (p0 : Int32) : Int32 := if p0 < (0 : Int32) then ((0 : Int32)) else (if (6 : Int32) ≤ p0 then ((0 : Int32)) else ((1 : Int32)))
set_option maxRecDepth 100000 in
set_option maxHeartbeats 4000000 in
theorem m_X5_isPlace (l : Launch) (g : zG) (p0 : Int32) : ZI l yX5_isPlace wsX5_isPlace rm_X5_isPlace g [] [.int p0] (f_X5_isPlace p0) [] := by
  refine zopenI (cc := cX5_isPlace) (maxL := 1) (ret := .boolean) (by decide +kernel) rfl (Nat.le_of_ble_eq_true rfl) ?_
  intro p e s m below meth c A Q ls hx hb hml hown hts hP hK hD hA hN hl hret
  have hS : va_S A s.heap s.heap [] := va_S.rf
  have hl : lv_has ls 1 [(0, .int p0)] := hl
  have hown : s.vm.findClass RX5 = some m.cls := hown
  refine lv_iload_n hx hb dX5_isPlace_0 rfl (lv_at hl 0 rfl) ?_
  refine lv_if_lt (tgt := 14) hx hb dX5_isPlace_1 (by decide) (fun c_1 => ?_) (fun c_1 => ?_)
  · refine lv_iconst (v := (0 : Int32)) hx hb dX5_isPlace_14 (by decide) ?_
    have E : (f_X5_isPlace p0) = (0 : Int32) := (if_pos c_1).trans rfl
    exact hret _ _ _ _ _ _ dX5_isPlace_15 E.symm (rfl) rfl hP hD hS
  · refine lv_iload_n hx hb dX5_isPlace_4 rfl (lv_at hl 0 rfl) ?_
    refine lv_bipush (v := (6 : Int32)) hx hb dX5_isPlace_5 (by decide) ?_
    refine lv_icmp_ge (tgt := 14) hx hb dX5_isPlace_7 (by decide) (fun c_7 => ?_) (fun c_7 => ?_)
    · refine lv_iconst (v := (0 : Int32)) hx hb dX5_isPlace_14 (by decide) ?_
      have E : (f_X5_isPlace p0) = (0 : Int32) := (if_neg c_1).trans ((if_pos c_7).trans rfl)
      exact hret _ _ _ _ _ _ dX5_isPlace_15 E.symm (rfl) rfl hP hD hS
    · refine lv_iconst (v := (1 : Int32)) hx hb dX5_isPlace_10 (by decide) ?_
      refine lv_goto (tgt := 15) hx hb dX5_isPlace_11 (by decide) ?_
      have E : (f_X5_isPlace p0) = (1 : Int32) := (if_neg c_1).trans ((if_neg c_7).trans rfl)
      exact hret _ _ _ _ _ _ dX5_isPlace_15 E.symm (rfl) rfl hP hD hS
theorem zrow5_iff {x : Int32} : ¬ f_X5_isRow x = (0 : Int32) ↔ vp_in x 16 := by
  have h0 : ((0 : Int32)).toInt = 0 := rfl
  have h16 : ((16 : Int32)).toInt = 16 := rfl
  unfold f_X5_isRow
  split
  · rename_i c
    have h1 := Int32.lt_iff_toInt_lt.mp c
    exact ⟨fun h => absurd rfl h, fun h => by have := vp_in_iff.mp h; omega⟩
  · rename_i c
    have h1 := Int32.le_iff_toInt_le.mp (Int32.not_lt.mp c)
    split
    · rename_i c2
      have h2 := Int32.le_iff_toInt_le.mp c2
      exact ⟨fun h => absurd rfl h, fun h => by have := vp_in_iff.mp h; omega⟩
    · rename_i c2
      have h2 := Int32.lt_iff_toInt_lt.mp (Int32.not_le.mp c2)
      exact ⟨fun _ => vp_in_iff.mpr (by omega), fun _ => by decide⟩
theorem zplace5_iff {x : Int32} : ¬ f_X5_isPlace x = (0 : Int32) ↔ vp_in x 6 := by
  have h0 : ((0 : Int32)).toInt = 0 := rfl
  have h16 : ((6 : Int32)).toInt = 6 := rfl
  unfold f_X5_isPlace
  split
  · rename_i c
    have h1 := Int32.lt_iff_toInt_lt.mp c
    exact ⟨fun h => absurd rfl h, fun h => by have := vp_in_iff.mp h; omega⟩
  · rename_i c
    have h1 := Int32.le_iff_toInt_le.mp (Int32.not_lt.mp c)
    split
    · rename_i c2
      have h2 := Int32.le_iff_toInt_le.mp c2
      exact ⟨fun h => absurd rfl h, fun h => by have := vp_in_iff.mp h; omega⟩
    · rename_i c2
      have h2 := Int32.lt_iff_toInt_lt.mp (Int32.not_le.mp c2)
      exact ⟨fun _ => vp_in_iff.mpr (by omega), fun _ => by decide⟩
abbrev rm_X5_asNumber : Room := { frames := 0, cells := 0, slots := 0, locals := 0 }
def f_X5_asNumber (p0 : Int32) : Int32 := if p0 = (0 : Int32) then ((0 : Int32)) else ((1 : Int32))
set_option maxRecDepth 100000 in
set_option maxHeartbeats 4000000 in
theorem m_X5_asNumber (l : Launch) (g : zG) (p0 : Int32) : ZI l yX5_asNumber wsX5_asNumber rm_X5_asNumber g [] [.int p0] (f_X5_asNumber p0) [] := by
  refine zopenI (cc := cX5_asNumber) (maxL := 1) (ret := .int) (by decide +kernel) rfl (Nat.le_of_ble_eq_true rfl) ?_
  intro p e s m below meth c A Q ls hx hb hml hown hts hP hK hD hA hN hl hret
  have hS : va_S A s.heap s.heap [] := va_S.rf
  have hl : lv_has ls 1 [(0, .int p0)] := hl
  have hown : s.vm.findClass RX5 = some m.cls := hown
  refine lv_iload_n hx hb dX5_asNumber_0 rfl (lv_at hl 0 rfl) ?_
  refine lv_if_eq (tgt := 8) hx hb dX5_asNumber_1 (by decide) (fun c_1 => ?_) (fun c_1 => ?_)
  · refine lv_iconst (v := (0 : Int32)) hx hb dX5_asNumber_8 (by decide) ?_
    have E : (f_X5_asNumber p0) = (0 : Int32) := (if_pos c_1).trans rfl
    exact hret _ _ _ _ _ _ dX5_asNumber_9 E.symm (rfl) rfl hP hD hS
  · refine lv_iconst (v := (1 : Int32)) hx hb dX5_asNumber_4 (by decide) ?_
    refine lv_goto (tgt := 9) hx hb dX5_asNumber_5 (by decide) ?_
    have E : (f_X5_asNumber p0) = (1 : Int32) := (if_neg c_1).trans rfl
    exact hret _ _ _ _ _ _ dX5_asNumber_9 E.symm (rfl) rfl hP hD hS
abbrev rm_X3_charactersIn : Room := { frames := 0, cells := 0, slots := 0, locals := 0 }
def f_X3_charactersIn_L5  : Nat → Nat → Int64 → Int32
  | 0, i5, x5_2 => if (lg_cmp x5_2 (0 : Int64)) = (0 : Int32) then ((nI i5)) else ((0 : Int32))
  | n5 + 1, i5, x5_2 => if (lg_cmp (x5_2 &&& (255 : Int64)) (0 : Int64)) = (0 : Int32) then (if (lg_cmp x5_2 (0 : Int64)) = (0 : Int32) then ((nI i5)) else ((0 : Int32))) else (if ((x5_2 &&& (255 : Int64)).toInt32) < (33 : Int32) then ((0 : Int32)) else (if ((x5_2 &&& (255 : Int64)).toInt32) ≤ (126 : Int32) then ((f_X3_charactersIn_L5 n5 (i5 + 1) ((x5_2.toUInt64 >>> ((8 : Int32).toInt64.toUInt64 &&& Int64.toUInt64 63)).toInt64))) else ((0 : Int32))))
def f_X3_charactersIn (p0 : Int64) : Int32 := (f_X3_charactersIn_L5 (zfu 8) 0 p0)
set_option maxRecDepth 100000 in
set_option maxHeartbeats 4000000 in
theorem m_X3_charactersIn (l : Launch) (g : zG) (p0 : Int64) : ZI l yX3_charactersIn wsX3_charactersIn rm_X3_charactersIn g [] [.long p0] (f_X3_charactersIn p0) [] := by
  refine zopenI (cc := cX3_charactersIn) (maxL := 6) (ret := .int) (by decide +kernel) rfl (Nat.le_of_ble_eq_true rfl) ?_
  intro p e s m below meth c A Q ls hx hb hml hown hts hP hK hD hA hN hl hret
  have hS : va_S A s.heap s.heap [] := va_S.rf
  have hl : lv_has ls 6 [(0, .long p0)] := hl
  have hown : s.vm.findClass RX3 = some m.cls := hown
  refine lv_lload_n hx hb dX3_charactersIn_0 rfl (lv_at hl 0 rfl) ?_
  refine lv_lstore_n (lv' := [(2, .long p0), (0, .long p0)]) hx hb dX3_charactersIn_1 rfl hl (by decide) rfl (fun ls hl => ?_)
  refine lv_iconst (v := (0 : Int32)) hx hb dX3_charactersIn_2 (by decide) ?_
  refine lv_istore (lv' := [(4, .int (0 : Int32)), (2, .long p0), (0, .long p0)]) hx hb dX3_charactersIn_3 hl (by decide) rfl (fun ls hl => ?_)
  have L5 : ∀ (n5 : Nat) (i5 : Nat), i5 + n5 = 8 → ∀ (x5_2 : Int64) (H : Heap) (locs : List Loc) (ls : Array Slot), va_P g.1 vwCl ([] : va_W) H → va_D A ([] : va_W) → va_S A s.heap H locs → lv_has ls 6 [(4, .int (nI i5)), (2, .long x5_2), (0, .long p0)] → ((f_X3_charactersIn p0) = (f_X3_charactersIn_L5 n5 i5 x5_2)) → W p l e rm_X3_charactersIn s m ([.long p0] : List Value).toArray below meth c H locs 0 0 Q (F0 m 5 ls []) := by
    intro n5
    induction n5 with
    | zero =>
      intro i5 hin5 x5_2 H locs ls hP hD hS hl kx
      refine lv_iload hx hb dX3_charactersIn_5 (lv_at hl 0 rfl) ?_
      refine lv_bipush (v := (8 : Int32)) hx hb dX3_charactersIn_7 (by decide) ?_
      refine lv_icmp_ge (tgt := 57) hx hb dX3_charactersIn_9 (by decide) (fun c_9 => ?_) (fun c_9 => ?_)
      rotate_left
      · exact absurd (by rw [show i5 = 8 by omega]; decide) c_9
      refine lv_lload_n hx hb dX3_charactersIn_57 rfl (lv_at hl 1 rfl) ?_
      refine lv_lconst (v := (0 : Int64)) hx hb dX3_charactersIn_58 (by decide) ?_
      refine W.lcmp hx hb dX3_charactersIn_59 ?_
      refine lv_if_ne (tgt := 68) hx hb dX3_charactersIn_60 (by decide) (fun c_60 => ?_) (fun c_60 => ?_)
      · refine lv_iconst (v := (0 : Int32)) hx hb dX3_charactersIn_68 (by decide) ?_
        have E : (f_X3_charactersIn p0) = (0 : Int32) := kx.trans ((if_neg c_60).trans rfl)
        exact hret _ _ _ _ _ _ dX3_charactersIn_69 E.symm (rfl) rfl hP hD hS
      · refine lv_iload hx hb dX3_charactersIn_63 (lv_at hl 0 rfl) ?_
        refine lv_goto (tgt := 69) hx hb dX3_charactersIn_65 (by decide) ?_
        have E : (f_X3_charactersIn p0) = (nI i5) := kx.trans ((if_pos c_60).trans rfl)
        exact hret _ _ _ _ _ _ dX3_charactersIn_69 E.symm (rfl) rfl hP hD hS
    | succ n5 ih5 =>
      intro i5 hin5 x5_2 H locs ls hP hD hS hl kx
      refine lv_iload hx hb dX3_charactersIn_5 (lv_at hl 0 rfl) ?_
      refine lv_bipush (v := (8 : Int32)) hx hb dX3_charactersIn_7 (by decide) ?_
      refine lv_icmp_ge (tgt := 57) hx hb dX3_charactersIn_9 (by decide) (fun c_9 => ?_) (fun c_9 => ?_)
      · exact absurd c_9 (nI_ge (a := i5) (b := 8) (by omega) (by omega))
      refine lv_lload_n hx hb dX3_charactersIn_12 rfl (lv_at hl 1 rfl) ?_
      refine lv_ldc2 (v := (255 : Int64)) hx hb hown (hts (.constantLong RX3 15 (255)) (by decide +kernel)) dX3_charactersIn_13 ?_
      refine lv_land hx hb dX3_charactersIn_16 ?_
      refine lv_lconst (v := (0 : Int64)) hx hb dX3_charactersIn_17 (by decide) ?_
      refine W.lcmp hx hb dX3_charactersIn_18 ?_
      refine lv_if_eq (tgt := 57) hx hb dX3_charactersIn_19 (by decide) (fun c_19 => ?_) (fun c_19 => ?_)
      · refine lv_lload_n hx hb dX3_charactersIn_57 rfl (lv_at hl 1 rfl) ?_
        refine lv_lconst (v := (0 : Int64)) hx hb dX3_charactersIn_58 (by decide) ?_
        refine W.lcmp hx hb dX3_charactersIn_59 ?_
        refine lv_if_ne (tgt := 68) hx hb dX3_charactersIn_60 (by decide) (fun c_60 => ?_) (fun c_60 => ?_)
        · refine lv_iconst (v := (0 : Int32)) hx hb dX3_charactersIn_68 (by decide) ?_
          have E : (f_X3_charactersIn p0) = (0 : Int32) := kx.trans ((if_pos c_19).trans ((if_neg c_60).trans rfl))
          exact hret _ _ _ _ _ _ dX3_charactersIn_69 E.symm (rfl) rfl hP hD hS
        · refine lv_iload hx hb dX3_charactersIn_63 (lv_at hl 0 rfl) ?_
          refine lv_goto (tgt := 69) hx hb dX3_charactersIn_65 (by decide) ?_
          have E : (f_X3_charactersIn p0) = (nI i5) := kx.trans ((if_pos c_19).trans ((if_pos c_60).trans rfl))
          exact hret _ _ _ _ _ _ dX3_charactersIn_69 E.symm (rfl) rfl hP hD hS
      · refine lv_lload_n hx hb dX3_charactersIn_22 rfl (lv_at hl 1 rfl) ?_
        refine lv_ldc2 (v := (255 : Int64)) hx hb hown (hts (.constantLong RX3 15 (255)) (by decide +kernel)) dX3_charactersIn_23 ?_
        refine lv_land hx hb dX3_charactersIn_26 ?_
        refine lv_l2i hx hb dX3_charactersIn_27 rfl ?_
        refine lv_istore (lv' := [(5, .int ((x5_2 &&& (255 : Int64)).toInt32)), (4, .int (nI i5)), (2, .long x5_2), (0, .long p0)]) hx hb dX3_charactersIn_28 hl (by decide) rfl (fun ls hl => ?_)
        refine lv_iload hx hb dX3_charactersIn_30 (lv_at hl 0 rfl) ?_
        refine lv_bipush (v := (33 : Int32)) hx hb dX3_charactersIn_32 (by decide) ?_
        refine lv_icmp_lt (tgt := 44) hx hb dX3_charactersIn_34 (by decide) (fun c_34 => ?_) (fun c_34 => ?_)
        · refine lv_iconst (v := (0 : Int32)) hx hb dX3_charactersIn_44 (by decide) ?_
          have E : (f_X3_charactersIn p0) = (0 : Int32) := kx.trans ((if_neg c_19).trans ((if_pos c_34).trans rfl))
          exact hret _ _ _ _ _ _ dX3_charactersIn_45 E.symm (rfl) rfl hP hD hS
        · refine lv_iload hx hb dX3_charactersIn_37 (lv_at hl 0 rfl) ?_
          refine lv_bipush (v := (126 : Int32)) hx hb dX3_charactersIn_39 (by decide) ?_
          refine lv_icmp_le (tgt := 46) hx hb dX3_charactersIn_41 (by decide) (fun c_41 => ?_) (fun c_41 => ?_)
          · refine lv_lload_n hx hb dX3_charactersIn_46 rfl (lv_at hl 2 rfl) ?_
            refine lv_bipush (v := (8 : Int32)) hx hb dX3_charactersIn_47 (by decide) ?_
            refine lv_lushr hx hb dX3_charactersIn_49 rfl ?_
            refine lv_lstore_n (lv' := [(2, .long ((x5_2.toUInt64 >>> ((8 : Int32).toInt64.toUInt64 &&& Int64.toUInt64 63)).toInt64)), (5, .int ((x5_2 &&& (255 : Int64)).toInt32)), (4, .int (nI i5)), (0, .long p0)]) hx hb dX3_charactersIn_50 rfl hl (by decide) rfl (fun ls hl => ?_)
            refine lv_iinc (v := (nI (i5 + 1))) (lv' := [(4, .int (nI (i5 + 1))), (2, .long ((x5_2.toUInt64 >>> ((8 : Int32).toInt64.toUInt64 &&& Int64.toUInt64 63)).toInt64)), (5, .int ((x5_2 &&& (255 : Int64)).toInt32)), (0, .long p0)]) hx hb dX3_charactersIn_51 hl (k := 2) rfl (nI_1 i5) (by decide) rfl (fun ls hl => ?_)
            refine lv_goto (tgt := 5) hx hb dX3_charactersIn_54 (by decide) ?_
            have E : (f_X3_charactersIn_L5 (n5 + 1) i5 x5_2) = (f_X3_charactersIn_L5 n5 (i5 + 1) ((x5_2.toUInt64 >>> ((8 : Int32).toInt64.toUInt64 &&& Int64.toUInt64 63)).toInt64)) := (if_neg c_19).trans ((if_neg c_34).trans ((if_pos c_41).trans rfl))
            exact ih5 (i5 + 1) (by omega) ((x5_2.toUInt64 >>> ((8 : Int32).toInt64.toUInt64 &&& Int64.toUInt64 63)).toInt64) _ _ _  hP hD hS (lv_sub hl [0, 1, 3] rfl) (kx.trans E)
          · refine lv_iconst (v := (0 : Int32)) hx hb dX3_charactersIn_44 (by decide) ?_
            have E : (f_X3_charactersIn p0) = (0 : Int32) := kx.trans ((if_neg c_19).trans ((if_neg c_34).trans ((if_neg c_41).trans rfl)))
            exact hret _ _ _ _ _ _ dX3_charactersIn_45 E.symm (rfl) rfl hP hD hS
  exact L5 (zfu 8) 0 (by rw [zfu_eq]) p0 _ _ _  hP hD hS (lv_sub hl [0, 1, 2] rfl) (rfl)
theorem zchars3_L (p : Int64) : ∀ (n i : Nat) (x : Int64), i + n = 8 → vp_in (f_X3_charactersIn_L5 n i x) 9
  | 0, i, x, h => by
    unfold f_X3_charactersIn_L5
    split
    · exact vp_in_nI (by omega) (by omega)
    · exact zlit _ 9 (by decide +kernel)
  | n + 1, i, x, h => by
    unfold f_X3_charactersIn_L5
    split
    · split
      · exact vp_in_nI (by omega) (by omega)
      · exact zlit _ 9 (by decide +kernel)
    · split
      · exact zlit _ 9 (by decide +kernel)
      · split
        · exact zchars3_L p n (i + 1) _ (by omega)
        · exact zlit _ 9 (by decide +kernel)
theorem zchars3_le (p : Int64) : vp_in (f_X3_charactersIn p) 9 := zchars3_L p (zfu 8) 0 p (by rw [zfu_eq])
theorem zin_app {t n : Int32} {i : Nat} (ht : vp_in t 61) (hn : vp_in n 9) (hc : (t + n) ≤ (60 : Int32)) (hi : i < n.toNatClampNeg) : vp_in (((t + n) - (1 : Int32)) - (nI i)) 60 := by
  obtain ⟨a, ha, rfl⟩ := vp_in_of ht (by omega)
  obtain ⟨b, hb, rfl⟩ := vp_in_of hn (by omega)
  rw [nI_add] at hc
  have h1 := (nI_leI (a := a + b) (b := 60) (by omega) (by omega)).mp hc
  rw [nI_clamp (by omega)] at hi
  rw [nI_add, show (1 : Int32) = nI 1 from rfl, pk_sub (by omega), pk_sub (by omega)]
  exact vp_in_nI (by omega) (by omega)
abbrev rm_X3_append : Room := { frames := 0, cells := 0, slots := 0, locals := 0 }
set_option maxRecDepth 20000 in
theorem zin_X3_append_X3 : ∀ w ∈ wsX30, w ∈ wsX3_append := by decide +kernel
def s_X3_append_37 (p0 : Int64) (p1 : Int32) (i3 : Nat) (w3_0 : zCV) : zCV := zA w3_0 0 (upd (w3_0.2 0) ((((w3_0.1 0) + p1) - (1 : Int32)) - (nI i3)).toNatClampNeg (vp_nar .char ((((((p0.toUInt64 >>> (((8 : Int32) * (nI i3)).toInt64.toUInt64 &&& Int64.toUInt64 63)).toInt64) &&& (255 : Int64)).toInt32).toUInt32 % 65536).toInt32)))
def f_X3_append_L3 (p0 : Int64) (p1 : Int32) : Nat → Nat → zCV → zCV
  | 0, i3, w3_0 => w3_0
  | n3 + 1, i3, w3_0 => (f_X3_append_L3 p0 p1 n3 (i3 + 1) (s_X3_append_37 p0 p1 i3 w3_0))
def s_X3_append_51 (v : zCV) (p0 : Int64) (p1 : Int32) : zCV := zS (f_X3_append_L3 p0 p1 (zfu p1.toNatClampNeg) 0 v) 0 (((f_X3_append_L3 p0 p1 (zfu p1.toNatClampNeg) 0 v).1 0) + p1)
def f_X3_append (v : zCV) (p0 : Int64) (p1 : Int32) : zCV := (s_X3_append_51 v p0 p1)
set_option maxRecDepth 100000 in
set_option maxHeartbeats 4000000 in
theorem m_X3_append (l : Launch) (g : zG) (q : Nat → Nat) (v : zCV) (p0 : Int64) (p1 : Int32) (hl2 : vp_in (v.1 0) 61) (hp : vp_in p1 9) (hc : ((v.1 0) + p1) ≤ (60 : Int32)) : ZV l yX3_append wsX3_append rm_X3_append g (pd g q v) [.ref (q 0), .long p0, .int p1] (pd g q (f_X3_append v p0 p1)) := by
  refine zopenV (cc := cX3_append) (maxL := 5) (by decide +kernel) rfl (Nat.le_of_ble_eq_true rfl) ?_
  intro p e s m below meth c A Q ls hx hb hml hown hts hP hK hD hA hN hl hret
  have hS : va_S A s.heap s.heap [] := va_S.rf
  have hl : lv_has ls 5 [(0, .ref (q 0)), (1, .long p0), (3, .int p1)] := hl
  have hown : s.vm.findClass RX3 = some m.cls := hown
  refine lv_iconst (v := (0 : Int32)) hx hb dX3_append_0 (by decide) ?_
  refine lv_istore (lv' := [(4, .int (0 : Int32)), (0, .ref (q 0)), (1, .long p0), (3, .int p1)]) hx hb dX3_append_1 hl (by decide) rfl (fun ls hl => ?_)
  have L3 : ∀ (n3 : Nat) (i3 : Nat), i3 + n3 = p1.toNatClampNeg → ∀ (w3_0 : zCV) (H : Heap) (locs : List Loc) (ls : Array Slot), w3_0.1 = v.1 → va_P g.1 vwCl (pd g q w3_0) H → va_D A (pd g q w3_0) → va_S A s.heap H locs → lv_has ls 5 [(4, .int (nI i3)), (0, .ref (q 0)), (1, .long p0), (3, .int p1)] → (∀ (H : Heap) (locs : List Loc) (ls : Array Slot), va_P g.1 vwCl (pd g q (f_X3_append_L3 p0 p1 n3 i3 w3_0)) H → va_D A (pd g q (f_X3_append_L3 p0 p1 n3 i3 w3_0)) → va_S A s.heap H locs → lv_has ls 5 [(0, .ref (q 0)), (1, .long p0), (3, .int p1)] → W p l e rm_X3_append s m ([.ref (q 0), .long p0, .int p1] : List Value).toArray below meth c H locs 0 0 Q (F0 m 44 ls [])) → W p l e rm_X3_append s m ([.ref (q 0), .long p0, .int p1] : List Value).toArray below meth c H locs 0 0 Q (F0 m 3 ls []) := by
    intro n3
    induction n3 with
    | zero =>
      intro i3 hin3 w3_0 H locs ls hw hP hD hS hl kx
      refine lv_iload hx hb dX3_append_3 (lv_at hl 0 rfl) ?_
      refine lv_iload_n hx hb dX3_append_5 rfl (lv_at hl 3 rfl) ?_
      refine lv_icmp_ge (tgt := 44) hx hb dX3_append_6 (by decide) (fun c_6 => ?_) (fun c_6 => ?_)
      rotate_left
      · exact absurd (zge0 (by omega)) c_6
      have E : (f_X3_append_L3 p0 p1 0 i3 w3_0) = w3_0 := rfl
      rw [E] at kx
      exact kx _ _ _ hP hD hS (lv_sub hl [1, 2, 3] rfl)
    | succ n3 ih3 =>
      intro i3 hin3 w3_0 H locs ls hw hP hD hS hl kx
      refine lv_iload hx hb dX3_append_3 (lv_at hl 0 rfl) ?_
      refine lv_iload_n hx hb dX3_append_5 rfl (lv_at hl 3 rfl) ?_
      refine lv_icmp_ge (tgt := 44) hx hb dX3_append_6 (by decide) (fun c_6 => ?_) (fun c_6 => ?_)
      · exact absurd c_6 (zge1 (by omega))
      refine lv_aload_n hx hb dX3_append_9 rfl (lv_at hl 1 rfl) ?_
      refine va_get (D := g.1) (ci := 3) (v := .ref (q 1)) (C := RX3) (T := TX3) (N := 2) hx hb hts (zin_X3_append_X3) hown hK hP 0 rfl rfl 0 (by decide) (hts (.fieldLink RX3 11 "PegClerks$Pad" "signs" "[C") (by decide +kernel)) (fun _ h9 => h9) rfl dX3_append_10 ?_
      refine lv_aload_n hx hb dX3_append_13 rfl (lv_at hl 1 rfl) ?_
      refine va_get (D := g.1) (ci := 3) (v := .int (w3_0.1 0)) (C := RX3) (T := TX3) (N := 2) hx hb hts (zin_X3_append_X3) hown hK hP 0 rfl rfl 1 (by decide) (hts (.fieldLink RX3 17 "PegClerks$Pad" "length" "I") (by decide +kernel)) (fun _ h9 => h9) rfl dX3_append_14 ?_
      refine lv_iload_n hx hb dX3_append_17 rfl (lv_at hl 3 rfl) ?_
      refine lv_iadd hx hb dX3_append_18 ?_
      refine lv_iconst (v := (1 : Int32)) hx hb dX3_append_19 (by decide) ?_
      refine lv_isub hx hb dX3_append_20 ?_
      refine lv_iload hx hb dX3_append_21 (lv_at hl 0 rfl) ?_
      refine lv_isub hx hb dX3_append_23 ?_
      refine lv_lload_n hx hb dX3_append_24 rfl (lv_at hl 2 rfl) ?_
      refine lv_bipush (v := (8 : Int32)) hx hb dX3_append_25 (by decide) ?_
      refine lv_iload hx hb dX3_append_27 (lv_at hl 0 rfl) ?_
      refine lv_imul hx hb dX3_append_29 ?_
      refine lv_lushr hx hb dX3_append_30 rfl ?_
      refine lv_ldc2 (v := (255 : Int64)) hx hb hown (hts (.constantLong RX3 15 (255)) (by decide +kernel)) dX3_append_31 ?_
      refine lv_land hx hb dX3_append_34 ?_
      refine lv_l2i hx hb dX3_append_35 rfl ?_
      refine lv_i2c hx hb dX3_append_36 rfl ?_
      refine z_cast (f := (w3_0.2 0)) (k := ((((w3_0.1 0) + p1) - (1 : Int32)) - (nI i3)).toNatClampNeg) hx hb hK hP hD hS 1 2 rfl rfl (by rw [hw]; exact zin_app hl2 hp hc (by omega)) rfl dX3_append_37 (fun H locs hP hD hS => ?_)
      have hP : va_P g.1 vwCl (pd g q (s_X3_append_37 p0 p1 i3 w3_0)) H := (congrArg (fun z => va_P g.1 vwCl z H) (pd_A0 g q w3_0 (upd (w3_0.2 0) ((((w3_0.1 0) + p1) - (1 : Int32)) - (nI i3)).toNatClampNeg (vp_nar .char ((((((p0.toUInt64 >>> (((8 : Int32) * (nI i3)).toInt64.toUInt64 &&& Int64.toUInt64 63)).toInt64) &&& (255 : Int64)).toInt32).toUInt32 % 65536).toInt32))))).mp hP
      have hD : va_D A (pd g q (s_X3_append_37 p0 p1 i3 w3_0)) := (congrArg (fun z => va_D A z) (pd_A0 g q w3_0 (upd (w3_0.2 0) ((((w3_0.1 0) + p1) - (1 : Int32)) - (nI i3)).toNatClampNeg (vp_nar .char ((((((p0.toUInt64 >>> (((8 : Int32) * (nI i3)).toInt64.toUInt64 &&& Int64.toUInt64 63)).toInt64) &&& (255 : Int64)).toInt32).toUInt32 % 65536).toInt32))))).mp hD
      refine lv_iinc (v := (nI (i3 + 1))) (lv' := [(4, .int (nI (i3 + 1))), (0, .ref (q 0)), (1, .long p0), (3, .int p1)]) hx hb dX3_append_38 hl (k := 0) rfl (nI_1 i3) (by decide) rfl (fun ls hl => ?_)
      refine lv_goto (tgt := 3) hx hb dX3_append_41 (by decide) ?_
      have E : (f_X3_append_L3 p0 p1 (n3 + 1) i3 w3_0) = (f_X3_append_L3 p0 p1 n3 (i3 + 1) (s_X3_append_37 p0 p1 i3 w3_0)) := rfl
      rw [E] at kx
      exact ih3 (i3 + 1) (by omega) (s_X3_append_37 p0 p1 i3 w3_0) _ _ _ hw hP hD hS (lv_sub hl [0, 1, 2, 3] rfl) kx
  refine L3 (zfu p1.toNatClampNeg) 0 (by rw [zfu_eq]; omega) v _ _ _ rfl hP hD hS (lv_sub hl [0, 1, 2, 3] rfl) (fun H locs ls hP hD hS hl => ?_)
  refine lv_aload_n hx hb dX3_append_44 rfl (lv_at hl 0 rfl) ?_
  refine lv_dup hx hb dX3_append_45 rfl ?_
  refine va_get (D := g.1) (ci := 3) (v := .int ((f_X3_append_L3 p0 p1 (zfu p1.toNatClampNeg) 0 v).1 0)) (C := RX3) (T := TX3) (N := 2) hx hb hts (zin_X3_append_X3) hown hK hP 0 rfl rfl 1 (by decide) (hts (.fieldLink RX3 17 "PegClerks$Pad" "length" "I") (by decide +kernel)) (fun _ h9 => h9) rfl dX3_append_46 ?_
  refine lv_iload_n hx hb dX3_append_49 rfl (lv_at hl 2 rfl) ?_
  refine lv_iadd hx hb dX3_append_50 ?_
  refine va_put (D := g.1) (ci := 3) (v := .int (((f_X3_append_L3 p0 p1 (zfu p1.toNatClampNeg) 0 v).1 0) + p1)) (ty := .int) (C := RX3) (T := TX3) (N := 2) hx hb hts (zin_X3_append_X3) tyX3 tyX3_ok nmX3 hown hK hP hD hS 0 rfl rfl 1 (by decide) (hts (.fieldLink RX3 17 "PegClerks$Pad" "length" "I") (by decide +kernel)) (fun _ h9 => h9) rfl (by decide +kernel) rfl rfl (Nat.le_of_ble_eq_true rfl) dX3_append_51 (fun H locs hP hD hS => ?_)
  have hP : va_P g.1 vwCl (pd g q (s_X3_append_51 v p0 p1)) H := (congrArg (fun z => va_P g.1 vwCl z H) (pd_S0 g q (f_X3_append_L3 p0 p1 (zfu p1.toNatClampNeg) 0 v) (((f_X3_append_L3 p0 p1 (zfu p1.toNatClampNeg) 0 v).1 0) + p1))).mp hP
  have hD : va_D A (pd g q (s_X3_append_51 v p0 p1)) := (congrArg (fun z => va_D A z) (pd_S0 g q (f_X3_append_L3 p0 p1 (zfu p1.toNatClampNeg) 0 v) (((f_X3_append_L3 p0 p1 (zfu p1.toNatClampNeg) 0 v).1 0) + p1))).mp hD
  have E : (f_X3_append v p0 p1) = (s_X3_append_51 v p0 p1) := rfl
  have e2 : (pd g q (s_X3_append_51 v p0 p1)) = (pd g q (f_X3_append v p0 p1)) := by rw [E]
  exact hret (pd g q (s_X3_append_51 v p0 p1)) _ _ _ _ dX3_append_54 e2 hP hD hS
abbrev rm_X3_empty : Room := { frames := 0, cells := 0, slots := 0, locals := 0 }
set_option maxRecDepth 20000 in
theorem zin_X3_empty_X3 : ∀ w ∈ wsX30, w ∈ wsX3_empty := by decide +kernel
def s_X3_empty_2 (v : zCV) : zCV := zS v 0 (0 : Int32)
def f_X3_empty (v : zCV) : zCV := (s_X3_empty_2 v)
set_option maxRecDepth 100000 in
set_option maxHeartbeats 4000000 in
theorem m_X3_empty (l : Launch) (g : zG) (q : Nat → Nat) (v : zCV) : ZV l yX3_empty wsX3_empty rm_X3_empty g (pd g q v) [.ref (q 0)] (pd g q (f_X3_empty v)) := by
  refine zopenV (cc := cX3_empty) (maxL := 1) (by decide +kernel) rfl (Nat.le_of_ble_eq_true rfl) ?_
  intro p e s m below meth c A Q ls hx hb hml hown hts hP hK hD hA hN hl hret
  have hS : va_S A s.heap s.heap [] := va_S.rf
  have hl : lv_has ls 1 [(0, .ref (q 0))] := hl
  have hown : s.vm.findClass RX3 = some m.cls := hown
  refine lv_aload_n hx hb dX3_empty_0 rfl (lv_at hl 0 rfl) ?_
  refine lv_iconst (v := (0 : Int32)) hx hb dX3_empty_1 (by decide) ?_
  refine va_put (D := g.1) (ci := 3) (v := .int (0 : Int32)) (ty := .int) (C := RX3) (T := TX3) (N := 2) hx hb hts (zin_X3_empty_X3) tyX3 tyX3_ok nmX3 hown hK hP hD hS 0 rfl rfl 1 (by decide) (hts (.fieldLink RX3 17 "PegClerks$Pad" "length" "I") (by decide +kernel)) (fun _ h9 => h9) rfl (by decide +kernel) rfl rfl (Nat.le_of_ble_eq_true rfl) dX3_empty_2 (fun H locs hP hD hS => ?_)
  have hP : va_P g.1 vwCl (pd g q (s_X3_empty_2 v)) H := (congrArg (fun z => va_P g.1 vwCl z H) (pd_S0 g q v (0 : Int32))).mp hP
  have hD : va_D A (pd g q (s_X3_empty_2 v)) := (congrArg (fun z => va_D A z) (pd_S0 g q v (0 : Int32))).mp hD
  have E : (f_X3_empty v) = (s_X3_empty_2 v) := rfl
  have e2 : (pd g q (s_X3_empty_2 v)) = (pd g q (f_X3_empty v)) := by rw [E]
  exact hret (pd g q (s_X3_empty_2 v)) _ _ _ _ dX3_empty_5 e2 hP hD hS
abbrev rm_X3_dueBehindPlaces : Room := { frames := 1, cells := 0, slots := 0, locals := 20 }
def f_X3_dueBehindPlaces (p0 : Int32) (p1 : Int32) : Int32 := if p1 = (59 : Int32) then ((0 : Int32)) else (if (f_X5_isPlace (p1 - (48 : Int32))) = (0 : Int32) then ((-1 : Int32)) else (if (p1 - (48 : Int32)) < p0 then ((-1 : Int32)) else ((((3 : Int32) + (p1 - (48 : Int32))) + (1 : Int32)))))
set_option maxRecDepth 100000 in
set_option maxHeartbeats 4000000 in
theorem m_X3_dueBehindPlaces (l : Launch) (g : zG) (p0 : Int32) (p1 : Int32) : ZI l yX3_dueBehindPlaces wsX3_dueBehindPlaces rm_X3_dueBehindPlaces g [] [.int p0, .int p1] (f_X3_dueBehindPlaces p0 p1) [] := by
  refine zopenI (cc := cX3_dueBehindPlaces) (maxL := 3) (ret := .int) (by decide +kernel) rfl (Nat.le_of_ble_eq_true rfl) ?_
  intro p e s m below meth c A Q ls hx hb hml hown hts hP hK hD hA hN hl hret
  have hS : va_S A s.heap s.heap [] := va_S.rf
  have hl : lv_has ls 3 [(0, .int p0), (1, .int p1)] := hl
  have hown : s.vm.findClass RX3 = some m.cls := hown
  refine lv_iload_n hx hb dX3_dueBehindPlaces_0 rfl (lv_at hl 1 rfl) ?_
  refine lv_bipush (v := (59 : Int32)) hx hb dX3_dueBehindPlaces_1 (by decide) ?_
  refine lv_icmp_ne (tgt := 8) hx hb dX3_dueBehindPlaces_3 (by decide) (fun c_3 => ?_) (fun c_3 => ?_)
  · refine lv_iload_n hx hb dX3_dueBehindPlaces_8 rfl (lv_at hl 1 rfl) ?_
    refine lv_bipush (v := (48 : Int32)) hx hb dX3_dueBehindPlaces_9 (by decide) ?_
    refine lv_isub hx hb dX3_dueBehindPlaces_11 ?_
    refine lv_istore_n (lv' := [(2, .int (p1 - (48 : Int32))), (0, .int p0), (1, .int p1)]) hx hb dX3_dueBehindPlaces_12 rfl hl (by decide) rfl (fun ls hl => ?_)
    refine lv_iload_n hx hb dX3_dueBehindPlaces_13 rfl (lv_at hl 0 rfl) ?_
    refine zcSNi (host := RX5) (n := 1) (As := [.int (p1 - (48 : Int32))]) (rest := []) hx hb hml hown hts hN (m_X5_isPlace l g (p1 - (48 : Int32))) gX3_dueBehindPlaces_X5_isPlace_n28 rfl (by decide +kernel) (hts _ (by decide +kernel)) (hts _ (by decide +kernel)) (by decide +kernel) ⟨rfl, rfl⟩ ⟨Nat.le_of_ble_eq_true rfl, Nat.le_of_ble_eq_true rfl⟩ hK hP hD hS hA rfl hl.1 rfl (Nat.le_of_ble_eq_true rfl) dX3_dueBehindPlaces_14 ⟨Nat.zero_le _, Nat.zero_le _⟩ (fun H locs hP hD hS => ?_)
    refine lv_if_eq (tgt := 33) hx hb dX3_dueBehindPlaces_17 (by decide) (fun c_17 => ?_) (fun c_17 => ?_)
    · refine lv_iconst (v := (-1 : Int32)) hx hb dX3_dueBehindPlaces_33 (by decide) ?_
      have E : (f_X3_dueBehindPlaces p0 p1) = (-1 : Int32) := (if_neg c_3).trans ((if_pos c_17).trans rfl)
      exact hret _ _ _ _ _ _ dX3_dueBehindPlaces_34 E.symm (rfl) rfl hP hD hS
    · refine lv_iload_n hx hb dX3_dueBehindPlaces_20 rfl (lv_at hl 0 rfl) ?_
      refine lv_iload_n hx hb dX3_dueBehindPlaces_21 rfl (lv_at hl 1 rfl) ?_
      refine lv_icmp_lt (tgt := 33) hx hb dX3_dueBehindPlaces_22 (by decide) (fun c_22 => ?_) (fun c_22 => ?_)
      · refine lv_iconst (v := (-1 : Int32)) hx hb dX3_dueBehindPlaces_33 (by decide) ?_
        have E : (f_X3_dueBehindPlaces p0 p1) = (-1 : Int32) := (if_neg c_3).trans ((if_neg c_17).trans ((if_pos c_22).trans rfl))
        exact hret _ _ _ _ _ _ dX3_dueBehindPlaces_34 E.symm (rfl) rfl hP hD hS
      · refine lv_iconst (v := (3 : Int32)) hx hb dX3_dueBehindPlaces_25 (by decide) ?_
        refine lv_iload_n hx hb dX3_dueBehindPlaces_26 rfl (lv_at hl 0 rfl) ?_
        refine lv_iadd hx hb dX3_dueBehindPlaces_27 ?_
        refine lv_iconst (v := (1 : Int32)) hx hb dX3_dueBehindPlaces_28 (by decide) ?_
        refine lv_iadd hx hb dX3_dueBehindPlaces_29 ?_
        refine lv_goto (tgt := 34) hx hb dX3_dueBehindPlaces_30 (by decide) ?_
        have E : (f_X3_dueBehindPlaces p0 p1) = (((3 : Int32) + (p1 - (48 : Int32))) + (1 : Int32)) := (if_neg c_3).trans ((if_neg c_17).trans ((if_neg c_22).trans rfl))
        exact hret _ _ _ _ _ _ dX3_dueBehindPlaces_34 E.symm (rfl) rfl hP hD hS
  · refine lv_iconst (v := (0 : Int32)) hx hb dX3_dueBehindPlaces_6 (by decide) ?_
    have E : (f_X3_dueBehindPlaces p0 p1) = (0 : Int32) := (if_pos c_3).trans rfl
    exact hret _ _ _ _ _ _ dX3_dueBehindPlaces_7 E.symm (rfl) rfl hP hD hS
abbrev rm_X3_dueBehind : Room := { frames := 2, cells := 0, slots := 0, locals := 42 }
def f_X3_dueBehind (p0 : Int32) (p1 : Int32) : Int32 := if p0 = (0 : Int32) then (if p1 = (49 : Int32) then ((1 : Int32)) else (if p1 < (48 : Int32) then ((-1 : Int32)) else (if (57 : Int32) < p1 then ((-1 : Int32)) else ((2 : Int32))))) else (if p0 = (1 : Int32) then (if p1 < (48 : Int32) then (if p1 = (58 : Int32) then ((3 : Int32)) else ((-1 : Int32))) else (if (53 : Int32) < p1 then (if p1 = (58 : Int32) then ((3 : Int32)) else ((-1 : Int32))) else ((2 : Int32)))) else (if p0 = (2 : Int32) then (if p1 = (58 : Int32) then ((3 : Int32)) else ((-1 : Int32))) else ((f_X3_dueBehindPlaces (p0 - (3 : Int32)) p1))))
set_option maxRecDepth 100000 in
set_option maxHeartbeats 4000000 in
theorem m_X3_dueBehind (l : Launch) (g : zG) (p0 : Int32) (p1 : Int32) : ZI l yX3_dueBehind wsX3_dueBehind rm_X3_dueBehind g [] [.int p0, .int p1] (f_X3_dueBehind p0 p1) [] := by
  refine zopenI (cc := cX3_dueBehind) (maxL := 2) (ret := .int) (by decide +kernel) rfl (Nat.le_of_ble_eq_true rfl) ?_
  intro p e s m below meth c A Q ls hx hb hml hown hts hP hK hD hA hN hl hret
  have hS : va_S A s.heap s.heap [] := va_S.rf
  have hl : lv_has ls 2 [(0, .int p0), (1, .int p1)] := hl
  have hown : s.vm.findClass RX3 = some m.cls := hown
  refine lv_iload_n hx hb dX3_dueBehind_0 rfl (lv_at hl 0 rfl) ?_
  by_cases c_1_0 : p0 = (0 : Int32)
  · refine lv_tableIn (off := 27) (tgt := 28) hx hb dX3_dueBehind_1 (by rw [c_1_0]; decide) (by rw [c_1_0]; decide) (by rw [c_1_0]; rfl) (by decide) ?_
    refine lv_iload_n hx hb dX3_dueBehind_28 rfl (lv_at hl 1 rfl) ?_
    refine lv_bipush (v := (49 : Int32)) hx hb dX3_dueBehind_29 (by decide) ?_
    refine lv_icmp_ne (tgt := 36) hx hb dX3_dueBehind_31 (by decide) (fun c_31 => ?_) (fun c_31 => ?_)
    · refine lv_iload_n hx hb dX3_dueBehind_36 rfl (lv_at hl 1 rfl) ?_
      refine lv_bipush (v := (48 : Int32)) hx hb dX3_dueBehind_37 (by decide) ?_
      refine lv_icmp_lt (tgt := 52) hx hb dX3_dueBehind_39 (by decide) (fun c_39 => ?_) (fun c_39 => ?_)
      · refine lv_iconst (v := (-1 : Int32)) hx hb dX3_dueBehind_52 (by decide) ?_
        have E : (f_X3_dueBehind p0 p1) = (-1 : Int32) := (if_pos c_1_0).trans ((if_neg c_31).trans ((if_pos c_39).trans rfl))
        exact hret _ _ _ _ _ _ dX3_dueBehind_53 E.symm (rfl) rfl hP hD hS
      · refine lv_iload_n hx hb dX3_dueBehind_42 rfl (lv_at hl 1 rfl) ?_
        refine lv_bipush (v := (57 : Int32)) hx hb dX3_dueBehind_43 (by decide) ?_
        refine lv_icmp_gt (tgt := 52) hx hb dX3_dueBehind_45 (by decide) (fun c_45 => ?_) (fun c_45 => ?_)
        · refine lv_iconst (v := (-1 : Int32)) hx hb dX3_dueBehind_52 (by decide) ?_
          have E : (f_X3_dueBehind p0 p1) = (-1 : Int32) := (if_pos c_1_0).trans ((if_neg c_31).trans ((if_neg c_39).trans ((if_pos c_45).trans rfl)))
          exact hret _ _ _ _ _ _ dX3_dueBehind_53 E.symm (rfl) rfl hP hD hS
        · refine lv_iconst (v := (2 : Int32)) hx hb dX3_dueBehind_48 (by decide) ?_
          refine lv_goto (tgt := 53) hx hb dX3_dueBehind_49 (by decide) ?_
          have E : (f_X3_dueBehind p0 p1) = (2 : Int32) := (if_pos c_1_0).trans ((if_neg c_31).trans ((if_neg c_39).trans ((if_neg c_45).trans rfl)))
          exact hret _ _ _ _ _ _ dX3_dueBehind_53 E.symm (rfl) rfl hP hD hS
    · refine lv_iconst (v := (1 : Int32)) hx hb dX3_dueBehind_34 (by decide) ?_
      have E : (f_X3_dueBehind p0 p1) = (1 : Int32) := (if_pos c_1_0).trans ((if_pos c_31).trans rfl)
      exact hret _ _ _ _ _ _ dX3_dueBehind_35 E.symm (rfl) rfl hP hD hS
  by_cases c_1_1 : p0 = (1 : Int32)
  · refine lv_tableIn (off := 53) (tgt := 54) hx hb dX3_dueBehind_1 (by rw [c_1_1]; decide) (by rw [c_1_1]; decide) (by rw [c_1_1]; rfl) (by decide) ?_
    refine lv_iload_n hx hb dX3_dueBehind_54 rfl (lv_at hl 1 rfl) ?_
    refine lv_bipush (v := (48 : Int32)) hx hb dX3_dueBehind_55 (by decide) ?_
    refine lv_icmp_lt (tgt := 68) hx hb dX3_dueBehind_57 (by decide) (fun c_57 => ?_) (fun c_57 => ?_)
    · refine lv_iload_n hx hb dX3_dueBehind_68 rfl (lv_at hl 1 rfl) ?_
      refine lv_bipush (v := (58 : Int32)) hx hb dX3_dueBehind_69 (by decide) ?_
      refine lv_icmp_ne (tgt := 78) hx hb dX3_dueBehind_71 (by decide) (fun c_71 => ?_) (fun c_71 => ?_)
      · refine lv_iconst (v := (-1 : Int32)) hx hb dX3_dueBehind_78 (by decide) ?_
        have E : (f_X3_dueBehind p0 p1) = (-1 : Int32) := (if_neg c_1_0).trans ((if_pos c_1_1).trans ((if_pos c_57).trans ((if_neg c_71).trans rfl)))
        exact hret _ _ _ _ _ _ dX3_dueBehind_79 E.symm (rfl) rfl hP hD hS
      · refine lv_iconst (v := (3 : Int32)) hx hb dX3_dueBehind_74 (by decide) ?_
        refine lv_goto (tgt := 79) hx hb dX3_dueBehind_75 (by decide) ?_
        have E : (f_X3_dueBehind p0 p1) = (3 : Int32) := (if_neg c_1_0).trans ((if_pos c_1_1).trans ((if_pos c_57).trans ((if_pos c_71).trans rfl)))
        exact hret _ _ _ _ _ _ dX3_dueBehind_79 E.symm (rfl) rfl hP hD hS
    · refine lv_iload_n hx hb dX3_dueBehind_60 rfl (lv_at hl 1 rfl) ?_
      refine lv_bipush (v := (53 : Int32)) hx hb dX3_dueBehind_61 (by decide) ?_
      refine lv_icmp_gt (tgt := 68) hx hb dX3_dueBehind_63 (by decide) (fun c_63 => ?_) (fun c_63 => ?_)
      · refine lv_iload_n hx hb dX3_dueBehind_68 rfl (lv_at hl 1 rfl) ?_
        refine lv_bipush (v := (58 : Int32)) hx hb dX3_dueBehind_69 (by decide) ?_
        refine lv_icmp_ne (tgt := 78) hx hb dX3_dueBehind_71 (by decide) (fun c_71 => ?_) (fun c_71 => ?_)
        · refine lv_iconst (v := (-1 : Int32)) hx hb dX3_dueBehind_78 (by decide) ?_
          have E : (f_X3_dueBehind p0 p1) = (-1 : Int32) := (if_neg c_1_0).trans ((if_pos c_1_1).trans ((if_neg c_57).trans ((if_pos c_63).trans ((if_neg c_71).trans rfl))))
          exact hret _ _ _ _ _ _ dX3_dueBehind_79 E.symm (rfl) rfl hP hD hS
        · refine lv_iconst (v := (3 : Int32)) hx hb dX3_dueBehind_74 (by decide) ?_
          refine lv_goto (tgt := 79) hx hb dX3_dueBehind_75 (by decide) ?_
          have E : (f_X3_dueBehind p0 p1) = (3 : Int32) := (if_neg c_1_0).trans ((if_pos c_1_1).trans ((if_neg c_57).trans ((if_pos c_63).trans ((if_pos c_71).trans rfl))))
          exact hret _ _ _ _ _ _ dX3_dueBehind_79 E.symm (rfl) rfl hP hD hS
      · refine lv_iconst (v := (2 : Int32)) hx hb dX3_dueBehind_66 (by decide) ?_
        have E : (f_X3_dueBehind p0 p1) = (2 : Int32) := (if_neg c_1_0).trans ((if_pos c_1_1).trans ((if_neg c_57).trans ((if_neg c_63).trans rfl)))
        exact hret _ _ _ _ _ _ dX3_dueBehind_67 E.symm (rfl) rfl hP hD hS
  by_cases c_1_2 : p0 = (2 : Int32)
  · refine lv_tableIn (off := 79) (tgt := 80) hx hb dX3_dueBehind_1 (by rw [c_1_2]; decide) (by rw [c_1_2]; decide) (by rw [c_1_2]; rfl) (by decide) ?_
    refine lv_iload_n hx hb dX3_dueBehind_80 rfl (lv_at hl 1 rfl) ?_
    refine lv_bipush (v := (58 : Int32)) hx hb dX3_dueBehind_81 (by decide) ?_
    refine lv_icmp_ne (tgt := 90) hx hb dX3_dueBehind_83 (by decide) (fun c_83 => ?_) (fun c_83 => ?_)
    · refine lv_iconst (v := (-1 : Int32)) hx hb dX3_dueBehind_90 (by decide) ?_
      have E : (f_X3_dueBehind p0 p1) = (-1 : Int32) := (if_neg c_1_0).trans ((if_neg c_1_1).trans ((if_pos c_1_2).trans ((if_neg c_83).trans rfl)))
      exact hret _ _ _ _ _ _ dX3_dueBehind_91 E.symm (rfl) rfl hP hD hS
    · refine lv_iconst (v := (3 : Int32)) hx hb dX3_dueBehind_86 (by decide) ?_
      refine lv_goto (tgt := 91) hx hb dX3_dueBehind_87 (by decide) ?_
      have E : (f_X3_dueBehind p0 p1) = (3 : Int32) := (if_neg c_1_0).trans ((if_neg c_1_1).trans ((if_pos c_1_2).trans ((if_pos c_83).trans rfl)))
      exact hret _ _ _ _ _ _ dX3_dueBehind_91 E.symm (rfl) rfl hP hD hS
  refine lv_tableOut (tgt := 92) hx hb dX3_dueBehind_1 (zsw3 (lv_neT c_1_0 (a := 0) (by decide)) (lv_neT c_1_1 (a := 1) (by decide)) (lv_neT c_1_2 (a := 2) (by decide))) (by decide) ?_
  refine lv_iload_n hx hb dX3_dueBehind_92 rfl (lv_at hl 0 rfl) ?_
  refine lv_iconst (v := (3 : Int32)) hx hb dX3_dueBehind_93 (by decide) ?_
  refine lv_isub hx hb dX3_dueBehind_94 ?_
  refine lv_iload_n hx hb dX3_dueBehind_95 rfl (lv_at hl 1 rfl) ?_
  refine zcSi (n := 2) (As := [.int (p0 - (3 : Int32)), .int p1]) (rest := []) hx hb hml hown hts hN (m_X3_dueBehindPlaces l g (p0 - (3 : Int32)) p1) gX3_dueBehind_X3_dueBehindPlaces rfl (by decide +kernel) ⟨rfl, rfl⟩ ⟨Nat.le_of_ble_eq_true rfl, Nat.le_of_ble_eq_true rfl⟩ hK hP hD hS hA rfl hl.1 rfl (Nat.le_of_ble_eq_true rfl) dX3_dueBehind_96 ⟨Nat.zero_le _, Nat.zero_le _⟩ (fun H locs hP hD hS => ?_)
  have E : (f_X3_dueBehind p0 p1) = (f_X3_dueBehindPlaces (p0 - (3 : Int32)) p1) := (if_neg c_1_0).trans ((if_neg c_1_1).trans ((if_neg c_1_2).trans rfl))
  exact hret _ _ _ _ _ _ dX3_dueBehind_99 E.symm (rfl) rfl hP hD hS
theorem zcl_in {x : Int32} {i n : Nat} (h : vp_in x 61) (e : i + (n + 1) = x.toNatClampNeg) : vp_in (nI i) 60 := by
  have h1 := vp_in_iff.mp h
  have h2 := zclamp x
  exact vp_in_nI (by omega) (by omega)
abbrev rm_X3_firstFault : Room := { frames := 3, cells := 0, slots := 0, locals := 63 }
set_option maxRecDepth 20000 in
theorem zin_X3_firstFault_X3 : ∀ w ∈ wsX30, w ∈ wsX3_firstFault := by decide +kernel
def f_X3_firstFault_L4 (v : zCV) : Nat → Nat → Int32 → Int32
  | 0, i4, x4_1 => if x4_1 < (3 : Int32) then ((v.1 0)) else ((-6 : Int32))
  | n4 + 1, i4, x4_1 => if (f_X3_dueBehind x4_1 ((v.2 0) (nI i4).toNatClampNeg)) = (-1 : Int32) then ((nI i4)) else ((f_X3_firstFault_L4 v n4 (i4 + 1) (f_X3_dueBehind x4_1 ((v.2 0) (nI i4).toNatClampNeg))))
def f_X3_firstFault (v : zCV) : Int32 := (f_X3_firstFault_L4 v (zfu (v.1 0).toNatClampNeg) 0 (0 : Int32))
set_option maxRecDepth 100000 in
set_option maxHeartbeats 4000000 in
theorem m_X3_firstFault (l : Launch) (g : zG) (q : Nat → Nat) (v : zCV) (hl2 : vp_in (v.1 0) 61) : ZI l yX3_firstFault wsX3_firstFault rm_X3_firstFault g (pd g q v) [.ref (q 0)] (f_X3_firstFault v) (pd g q v) := by
  refine zopenI (cc := cX3_firstFault) (maxL := 3) (ret := .int) (by decide +kernel) rfl (Nat.le_of_ble_eq_true rfl) ?_
  intro p e s m below meth c A Q ls hx hb hml hown hts hP hK hD hA hN hl hret
  have hS : va_S A s.heap s.heap [] := va_S.rf
  have hl : lv_has ls 3 [(0, .ref (q 0))] := hl
  have hown : s.vm.findClass RX3 = some m.cls := hown
  refine lv_iconst (v := (0 : Int32)) hx hb dX3_firstFault_0 (by decide) ?_
  refine lv_istore_n (lv' := [(1, .int (0 : Int32)), (0, .ref (q 0))]) hx hb dX3_firstFault_1 rfl hl (by decide) rfl (fun ls hl => ?_)
  refine lv_iconst (v := (0 : Int32)) hx hb dX3_firstFault_2 (by decide) ?_
  refine lv_istore_n (lv' := [(2, .int (0 : Int32)), (1, .int (0 : Int32)), (0, .ref (q 0))]) hx hb dX3_firstFault_3 rfl hl (by decide) rfl (fun ls hl => ?_)
  have L4 : ∀ (n4 : Nat) (i4 : Nat), i4 + n4 = (v.1 0).toNatClampNeg → ∀ (x4_1 : Int32) (H : Heap) (locs : List Loc) (ls : Array Slot), va_P g.1 vwCl (pd g q v) H → va_D A (pd g q v) → va_S A s.heap H locs → lv_has ls 3 [(2, .int (nI i4)), (1, .int x4_1), (0, .ref (q 0))] → ((f_X3_firstFault v) = (f_X3_firstFault_L4 v n4 i4 x4_1)) → W p l e rm_X3_firstFault s m ([.ref (q 0)] : List Value).toArray below meth c H locs 0 0 Q (F0 m 4 ls []) := by
    intro n4
    induction n4 with
    | zero =>
      intro i4 hin4 x4_1 H locs ls hP hD hS hl kx
      refine lv_iload_n hx hb dX3_firstFault_4 rfl (lv_at hl 0 rfl) ?_
      refine lv_aload_n hx hb dX3_firstFault_5 rfl (lv_at hl 2 rfl) ?_
      refine va_get (D := g.1) (ci := 3) (v := .int (v.1 0)) (C := RX3) (T := TX3) (N := 2) hx hb hts (zin_X3_firstFault_X3) hown hK hP 0 rfl rfl 1 (by decide) (hts (.fieldLink RX3 17 "PegClerks$Pad" "length" "I") (by decide +kernel)) (fun _ h9 => h9) rfl dX3_firstFault_6 ?_
      refine lv_icmp_ge (tgt := 36) hx hb dX3_firstFault_9 (by decide) (fun c_9 => ?_) (fun c_9 => ?_)
      rotate_left
      · exact absurd (zge0 (by omega)) c_9
      refine lv_iload_n hx hb dX3_firstFault_36 rfl (lv_at hl 1 rfl) ?_
      refine lv_iconst (v := (3 : Int32)) hx hb dX3_firstFault_37 (by decide) ?_
      refine lv_icmp_lt (tgt := 46) hx hb dX3_firstFault_38 (by decide) (fun c_38 => ?_) (fun c_38 => ?_)
      · refine lv_aload_n hx hb dX3_firstFault_46 rfl (lv_at hl 2 rfl) ?_
        refine va_get (D := g.1) (ci := 3) (v := .int (v.1 0)) (C := RX3) (T := TX3) (N := 2) hx hb hts (zin_X3_firstFault_X3) hown hK hP 0 rfl rfl 1 (by decide) (hts (.fieldLink RX3 17 "PegClerks$Pad" "length" "I") (by decide +kernel)) (fun _ h9 => h9) rfl dX3_firstFault_47 ?_
        have E : (f_X3_firstFault v) = (v.1 0) := kx.trans ((if_pos c_38).trans rfl)
        exact hret _ _ _ _ _ _ dX3_firstFault_50 E.symm (rfl) rfl hP hD hS
      · refine lv_bipush (v := (-6 : Int32)) hx hb dX3_firstFault_41 (by decide) ?_
        refine lv_goto (tgt := 50) hx hb dX3_firstFault_43 (by decide) ?_
        have E : (f_X3_firstFault v) = (-6 : Int32) := kx.trans ((if_neg c_38).trans rfl)
        exact hret _ _ _ _ _ _ dX3_firstFault_50 E.symm (rfl) rfl hP hD hS
    | succ n4 ih4 =>
      intro i4 hin4 x4_1 H locs ls hP hD hS hl kx
      refine lv_iload_n hx hb dX3_firstFault_4 rfl (lv_at hl 0 rfl) ?_
      refine lv_aload_n hx hb dX3_firstFault_5 rfl (lv_at hl 2 rfl) ?_
      refine va_get (D := g.1) (ci := 3) (v := .int (v.1 0)) (C := RX3) (T := TX3) (N := 2) hx hb hts (zin_X3_firstFault_X3) hown hK hP 0 rfl rfl 1 (by decide) (hts (.fieldLink RX3 17 "PegClerks$Pad" "length" "I") (by decide +kernel)) (fun _ h9 => h9) rfl dX3_firstFault_6 ?_
      refine lv_icmp_ge (tgt := 36) hx hb dX3_firstFault_9 (by decide) (fun c_9 => ?_) (fun c_9 => ?_)
      · exact absurd c_9 (zge1 (by omega))
      refine lv_iload_n hx hb dX3_firstFault_12 rfl (lv_at hl 1 rfl) ?_
      refine lv_aload_n hx hb dX3_firstFault_13 rfl (lv_at hl 2 rfl) ?_
      refine va_get (D := g.1) (ci := 3) (v := .ref (q 1)) (C := RX3) (T := TX3) (N := 2) hx hb hts (zin_X3_firstFault_X3) hown hK hP 0 rfl rfl 0 (by decide) (hts (.fieldLink RX3 11 "PegClerks$Pad" "signs" "[C") (by decide +kernel)) (fun _ h9 => h9) rfl dX3_firstFault_14 ?_
      refine lv_iload_n hx hb dX3_firstFault_17 rfl (lv_at hl 0 rfl) ?_
      refine z_cald (f := (v.2 0)) (k := (nI i4).toNatClampNeg) hx hb hK hP 1 2 rfl rfl (zcl_in hl2 hin4) rfl dX3_firstFault_18 ?_
      refine zcSi (n := 2) (As := [.int x4_1, .int ((v.2 0) (nI i4).toNatClampNeg)]) (rest := []) hx hb hml hown hts hN (m_X3_dueBehind l g x4_1 ((v.2 0) (nI i4).toNatClampNeg)) gX3_firstFault_X3_dueBehind rfl (by decide +kernel) ⟨rfl, rfl⟩ ⟨Nat.le_of_ble_eq_true rfl, Nat.le_of_ble_eq_true rfl⟩ hK hP hD hS hA rfl hl.1 rfl (Nat.le_of_ble_eq_true rfl) dX3_firstFault_19 ⟨Nat.zero_le _, Nat.zero_le _⟩ (fun H locs hP hD hS => ?_)
      refine lv_istore_n (lv' := [(1, .int (f_X3_dueBehind x4_1 ((v.2 0) (nI i4).toNatClampNeg))), (2, .int (nI i4)), (0, .ref (q 0))]) hx hb dX3_firstFault_22 rfl hl (by decide) rfl (fun ls hl => ?_)
      refine lv_iload_n hx hb dX3_firstFault_23 rfl (lv_at hl 0 rfl) ?_
      refine lv_iconst (v := (-1 : Int32)) hx hb dX3_firstFault_24 (by decide) ?_
      refine lv_icmp_ne (tgt := 30) hx hb dX3_firstFault_25 (by decide) (fun c_25 => ?_) (fun c_25 => ?_)
      · refine lv_iinc (v := (nI (i4 + 1))) (lv' := [(2, .int (nI (i4 + 1))), (1, .int (f_X3_dueBehind x4_1 ((v.2 0) (nI i4).toNatClampNeg))), (0, .ref (q 0))]) hx hb dX3_firstFault_30 hl (k := 1) rfl (nI_1 i4) (by decide) rfl (fun ls hl => ?_)
        refine lv_goto (tgt := 4) hx hb dX3_firstFault_33 (by decide) ?_
        have E : (f_X3_firstFault_L4 v (n4 + 1) i4 x4_1) = (f_X3_firstFault_L4 v n4 (i4 + 1) (f_X3_dueBehind x4_1 ((v.2 0) (nI i4).toNatClampNeg))) := (if_neg c_25).trans rfl
        exact ih4 (i4 + 1) (by omega) (f_X3_dueBehind x4_1 ((v.2 0) (nI i4).toNatClampNeg)) _ _ _  hP hD hS (lv_sub hl [0, 1, 2] rfl) (kx.trans E)
      · refine lv_iload_n hx hb dX3_firstFault_28 rfl (lv_at hl 1 rfl) ?_
        have E : (f_X3_firstFault v) = (nI i4) := kx.trans ((if_pos c_25).trans rfl)
        exact hret _ _ _ _ _ _ dX3_firstFault_29 E.symm (rfl) rfl hP hD hS
  exact L4 (zfu (v.1 0).toNatClampNeg) 0 (by rw [zfu_eq]; omega) (0 : Int32) _ _ _  hP hD hS (lv_sub hl [0, 1, 2] rfl) (rfl)
theorem zgt0 {x : Int32} {i : Nat} (h : vp_in x 61) (e : i = x.toNatClampNeg + 1) : x < nI i := by
  obtain ⟨k, hk, rfl⟩ := vp_in_of h (by omega)
  rw [nI_clamp (by omega)] at e
  exact nI_lt (by omega) (by omega)
theorem zgt1 {x : Int32} {i : Nat} (h : vp_in x 61) (e : i ≤ x.toNatClampNeg) : ¬ x < nI i := by
  obtain ⟨k, hk, rfl⟩ := vp_in_of h (by omega)
  rw [nI_clamp (by omega)] at e
  exact nI_nlt (by omega) (by omega)
theorem zcr_in {x : Int32} {i n : Nat} (h : vp_in x 61) (e : i + (n + 1) = x.toNatClampNeg + 1) (c : ¬ (nI i) = x) : vp_in (nI i) 60 := by
  obtain ⟨k, hk, rfl⟩ := vp_in_of h (by omega)
  rw [nI_clamp (by omega)] at e
  have : i ≠ k := fun e => c (by rw [e])
  exact vp_in_nI (by omega) (by omega)
abbrev rm_X3_changeRows : Room := { frames := 2, cells := 0, slots := 0, locals := 45 }
set_option maxRecDepth 20000 in
theorem zin_X3_changeRows_X3 : ∀ w ∈ wsX30, w ∈ wsX3_changeRows := by decide +kernel
def s_X3_changeRows_50 (x10_2 : Int32) (x10_3 : Int32) (w10_1 : zCV) : zCV := (f_X1_giveRow w10_1 x10_2 x10_3)
def f_X3_changeRows_L10 (v : zCV) : Nat → Nat → Int32 → Int32 → Int32 → zCV → Int32 × Int32 × Int32 × zCV
  | 0, i10, x10_2, x10_3, x10_4, w10_1 => (x10_2, x10_3, x10_4, w10_1)
  | n10 + 1, i10, x10_2, x10_3, x10_4, w10_1 => if (nI i10) = (v.1 0) then (if (f_X5_isRow x10_2) = (0 : Int32) then ((f_X3_changeRows_L10 v n10 (i10 + 1) (0 : Int32) (0 : Int32) (0 : Int32) w10_1)) else ((f_X3_changeRows_L10 v n10 (i10 + 1) (0 : Int32) (0 : Int32) (0 : Int32) (s_X3_changeRows_50 x10_2 x10_3 w10_1)))) else (if ((v.2 0) (nI i10).toNatClampNeg) = (59 : Int32) then (if (f_X5_isRow x10_2) = (0 : Int32) then ((f_X3_changeRows_L10 v n10 (i10 + 1) (0 : Int32) (0 : Int32) (0 : Int32) w10_1)) else ((f_X3_changeRows_L10 v n10 (i10 + 1) (0 : Int32) (0 : Int32) (0 : Int32) (s_X3_changeRows_50 x10_2 x10_3 w10_1)))) else (if ((v.2 0) (nI i10).toNatClampNeg) = (58 : Int32) then ((f_X3_changeRows_L10 v n10 (i10 + 1) x10_2 x10_3 (1 : Int32) w10_1)) else (if x10_4 = (0 : Int32) then ((f_X3_changeRows_L10 v n10 (i10 + 1) (((x10_2 * (10 : Int32)) + ((v.2 0) (nI i10).toNatClampNeg)) - (48 : Int32)) x10_3 x10_4 w10_1)) else ((f_X3_changeRows_L10 v n10 (i10 + 1) x10_2 (x10_3 ||| ((1 : Int32) <<< ((((v.2 0) (nI i10).toNatClampNeg) - (48 : Int32)) &&& 31))) x10_4 w10_1)))))
def f_X3_changeRows (v : zCV) (w : zCV) : zCV := (f_X3_changeRows_L10 v (zfu ((v.1 0).toNatClampNeg + 1)) 0 (0 : Int32) (0 : Int32) (0 : Int32) w).2.2.2
set_option maxRecDepth 100000 in
set_option maxHeartbeats 4000000 in
theorem m_X3_changeRows (l : Launch) (g : zG) (q : Nat → Nat) (v : zCV) (r : Nat → Nat) (w : zCV) (hl2 : vp_in (v.1 0) 61) : ZV l yX3_changeRows wsX3_changeRows rm_X3_changeRows g ((pd g q v) ++ ((ck g r w))) [.ref (q 0), .ref (r 2)] ((pd g q v) ++ ((ck g r (f_X3_changeRows v w)))) := by
  refine zopenV (cc := cX3_changeRows) (maxL := 6) (by decide +kernel) rfl (Nat.le_of_ble_eq_true rfl) ?_
  intro p e s m below meth c A Q ls hx hb hml hown hts hP hK hD hA hN hl hret
  have hS : va_S A s.heap s.heap [] := va_S.rf
  have hl : lv_has ls 6 [(0, .ref (q 0)), (1, .ref (r 2))] := hl
  have hown : s.vm.findClass RX3 = some m.cls := hown
  refine lv_iconst (v := (0 : Int32)) hx hb dX3_changeRows_0 (by decide) ?_
  refine lv_istore_n (lv' := [(2, .int (0 : Int32)), (0, .ref (q 0)), (1, .ref (r 2))]) hx hb dX3_changeRows_1 rfl hl (by decide) rfl (fun ls hl => ?_)
  refine lv_iconst (v := (0 : Int32)) hx hb dX3_changeRows_2 (by decide) ?_
  refine lv_istore_n (lv' := [(3, .int (0 : Int32)), (2, .int (0 : Int32)), (0, .ref (q 0)), (1, .ref (r 2))]) hx hb dX3_changeRows_3 rfl hl (by decide) rfl (fun ls hl => ?_)
  refine lv_iconst (v := (0 : Int32)) hx hb dX3_changeRows_4 (by decide) ?_
  refine lv_istore (lv' := [(4, .int (0 : Int32)), (3, .int (0 : Int32)), (2, .int (0 : Int32)), (0, .ref (q 0)), (1, .ref (r 2))]) hx hb dX3_changeRows_5 hl (by decide) rfl (fun ls hl => ?_)
  refine lv_iconst (v := (0 : Int32)) hx hb dX3_changeRows_7 (by decide) ?_
  refine lv_istore (lv' := [(5, .int (0 : Int32)), (4, .int (0 : Int32)), (3, .int (0 : Int32)), (2, .int (0 : Int32)), (0, .ref (q 0)), (1, .ref (r 2))]) hx hb dX3_changeRows_8 hl (by decide) rfl (fun ls hl => ?_)
  have L10 : ∀ (n10 : Nat) (i10 : Nat), i10 + n10 = ((v.1 0).toNatClampNeg + 1) → ∀ (x10_2 : Int32) (x10_3 : Int32) (x10_4 : Int32) (w10_1 : zCV) (H : Heap) (locs : List Loc) (ls : Array Slot), va_P g.1 vwCl ((pd g q v) ++ ((ck g r w10_1))) H → va_D A ((pd g q v) ++ ((ck g r w10_1))) → va_S A s.heap H locs → lv_has ls 6 [(5, .int (nI i10)), (4, .int x10_4), (3, .int x10_3), (2, .int x10_2), (0, .ref (q 0)), (1, .ref (r 2))] → (∀ (H : Heap) (locs : List Loc) (ls : Array Slot), va_P g.1 vwCl ((pd g q v) ++ ((ck g r (f_X3_changeRows_L10 v n10 i10 x10_2 x10_3 x10_4 w10_1).2.2.2))) H → va_D A ((pd g q v) ++ ((ck g r (f_X3_changeRows_L10 v n10 i10 x10_2 x10_3 x10_4 w10_1).2.2.2))) → va_S A s.heap H locs → lv_has ls 6 [(4, .int (f_X3_changeRows_L10 v n10 i10 x10_2 x10_3 x10_4 w10_1).2.2.1), (3, .int (f_X3_changeRows_L10 v n10 i10 x10_2 x10_3 x10_4 w10_1).2.1), (2, .int (f_X3_changeRows_L10 v n10 i10 x10_2 x10_3 x10_4 w10_1).1), (0, .ref (q 0)), (1, .ref (r 2))] → W p l e rm_X3_changeRows s m ([.ref (q 0), .ref (r 2)] : List Value).toArray below meth c H locs 0 0 Q (F0 m 126 ls [])) → W p l e rm_X3_changeRows s m ([.ref (q 0), .ref (r 2)] : List Value).toArray below meth c H locs 0 0 Q (F0 m 10 ls []) := by
    intro n10
    induction n10 with
    | zero =>
      intro i10 hin10 x10_2 x10_3 x10_4 w10_1 H locs ls hP hD hS hl kx
      refine lv_iload hx hb dX3_changeRows_10 (lv_at hl 0 rfl) ?_
      refine lv_aload_n hx hb dX3_changeRows_12 rfl (lv_at hl 4 rfl) ?_
      refine va_get (D := g.1) (ci := 3) (v := .int (v.1 0)) (C := RX3) (T := TX3) (N := 2) hx hb hts (zin_X3_changeRows_X3) hown hK hP 0 rfl rfl 1 (by decide) (hts (.fieldLink RX3 17 "PegClerks$Pad" "length" "I") (by decide +kernel)) (fun _ h9 => h9) rfl dX3_changeRows_13 ?_
      refine lv_icmp_gt (tgt := 126) hx hb dX3_changeRows_16 (by decide) (fun c_16 => ?_) (fun c_16 => ?_)
      rotate_left
      · exact absurd (zgt0 hl2 (by omega)) c_16
      have E : (f_X3_changeRows_L10 v 0 i10 x10_2 x10_3 x10_4 w10_1) = (x10_2, x10_3, x10_4, w10_1) := rfl
      rw [E] at kx
      exact kx _ _ _ hP hD hS (lv_sub hl [1, 2, 3, 4, 5] rfl)
    | succ n10 ih10 =>
      intro i10 hin10 x10_2 x10_3 x10_4 w10_1 H locs ls hP hD hS hl kx
      refine lv_iload hx hb dX3_changeRows_10 (lv_at hl 0 rfl) ?_
      refine lv_aload_n hx hb dX3_changeRows_12 rfl (lv_at hl 4 rfl) ?_
      refine va_get (D := g.1) (ci := 3) (v := .int (v.1 0)) (C := RX3) (T := TX3) (N := 2) hx hb hts (zin_X3_changeRows_X3) hown hK hP 0 rfl rfl 1 (by decide) (hts (.fieldLink RX3 17 "PegClerks$Pad" "length" "I") (by decide +kernel)) (fun _ h9 => h9) rfl dX3_changeRows_13 ?_
      refine lv_icmp_gt (tgt := 126) hx hb dX3_changeRows_16 (by decide) (fun c_16 => ?_) (fun c_16 => ?_)
      · exact absurd c_16 (zgt1 hl2 (by omega))
      refine lv_iload hx hb dX3_changeRows_19 (lv_at hl 0 rfl) ?_
      refine lv_aload_n hx hb dX3_changeRows_21 rfl (lv_at hl 4 rfl) ?_
      refine va_get (D := g.1) (ci := 3) (v := .int (v.1 0)) (C := RX3) (T := TX3) (N := 2) hx hb hts (zin_X3_changeRows_X3) hown hK hP 0 rfl rfl 1 (by decide) (hts (.fieldLink RX3 17 "PegClerks$Pad" "length" "I") (by decide +kernel)) (fun _ h9 => h9) rfl dX3_changeRows_22 ?_
      refine lv_icmp_eq (tgt := 40) hx hb dX3_changeRows_25 (by decide) (fun c_25 => ?_) (fun c_25 => ?_)
      · refine lv_iload_n hx hb dX3_changeRows_40 rfl (lv_at hl 3 rfl) ?_
        refine zcSNi (host := RX5) (n := 1) (As := [.int x10_2]) (rest := []) hx hb hml hown hts hN (m_X5_isRow l g x10_2) gX3_changeRows_X5_isRow_n32 rfl (by decide +kernel) (hts _ (by decide +kernel)) (hts _ (by decide +kernel)) (by decide +kernel) ⟨rfl, rfl⟩ ⟨Nat.le_of_ble_eq_true rfl, Nat.le_of_ble_eq_true rfl⟩ hK hP hD hS hA rfl hl.1 rfl (Nat.le_of_ble_eq_true rfl) dX3_changeRows_41 ⟨Nat.zero_le _, Nat.zero_le _⟩ (fun H locs hP hD hS => ?_)
        refine lv_if_eq (tgt := 53) hx hb dX3_changeRows_44 (by decide) (fun c_44 => ?_) (fun c_44 => ?_)
        · refine lv_iconst (v := (0 : Int32)) hx hb dX3_changeRows_53 (by decide) ?_
          refine lv_istore_n (lv' := [(2, .int (0 : Int32)), (5, .int (nI i10)), (4, .int x10_4), (3, .int x10_3), (0, .ref (q 0)), (1, .ref (r 2))]) hx hb dX3_changeRows_54 rfl hl (by decide) rfl (fun ls hl => ?_)
          refine lv_iconst (v := (0 : Int32)) hx hb dX3_changeRows_55 (by decide) ?_
          refine lv_istore_n (lv' := [(3, .int (0 : Int32)), (2, .int (0 : Int32)), (5, .int (nI i10)), (4, .int x10_4), (0, .ref (q 0)), (1, .ref (r 2))]) hx hb dX3_changeRows_56 rfl hl (by decide) rfl (fun ls hl => ?_)
          refine lv_iconst (v := (0 : Int32)) hx hb dX3_changeRows_57 (by decide) ?_
          refine lv_istore (lv' := [(4, .int (0 : Int32)), (3, .int (0 : Int32)), (2, .int (0 : Int32)), (5, .int (nI i10)), (0, .ref (q 0)), (1, .ref (r 2))]) hx hb dX3_changeRows_58 hl (by decide) rfl (fun ls hl => ?_)
          refine lv_goto (tgt := 120) hx hb dX3_changeRows_60 (by decide) ?_
          refine lv_iinc (v := (nI (i10 + 1))) (lv' := [(5, .int (nI (i10 + 1))), (4, .int (0 : Int32)), (3, .int (0 : Int32)), (2, .int (0 : Int32)), (0, .ref (q 0)), (1, .ref (r 2))]) hx hb dX3_changeRows_120 hl (k := 3) rfl (nI_1 i10) (by decide) rfl (fun ls hl => ?_)
          refine lv_goto (tgt := 10) hx hb dX3_changeRows_123 (by decide) ?_
          have E : (f_X3_changeRows_L10 v (n10 + 1) i10 x10_2 x10_3 x10_4 w10_1) = (f_X3_changeRows_L10 v n10 (i10 + 1) (0 : Int32) (0 : Int32) (0 : Int32) w10_1) := (if_pos c_25).trans ((if_pos c_44).trans rfl)
          rw [E] at kx
          exact ih10 (i10 + 1) (by omega) (0 : Int32) (0 : Int32) (0 : Int32) w10_1 _ _ _  hP hD hS (lv_sub hl [0, 1, 2, 3, 4, 5] rfl) kx
        · refine lv_aload_n hx hb dX3_changeRows_47 rfl (lv_at hl 5 rfl) ?_
          refine lv_iload_n hx hb dX3_changeRows_48 rfl (lv_at hl 3 rfl) ?_
          refine lv_iload_n hx hb dX3_changeRows_49 rfl (lv_at hl 2 rfl) ?_
          refine zcVv (n := 2) (As := [.int x10_2, .int x10_3]) (rest := []) (Xr := _) (Xn := ((pd g q v) ++ ((ck g r (s_X3_changeRows_50 x10_2 x10_3 w10_1))))) (ci := 1) (C := RX1) (T := TX1) (N := 4) (q0 := 2) hx hb hml hown hts hN (m_X1_giveRow l g r w10_1 x10_2 x10_3 (zrow5_iff.mp c_44)) gX3_changeRows_X1_giveRow rfl (by decide +kernel) ⟨rfl, rfl⟩ ⟨Nat.le_of_ble_eq_true rfl, Nat.le_of_ble_eq_true rfl⟩ hK hP hD hS hA (zsplit (L := [(pd g q v), (ck g r w10_1)]) (Lc := [(ck g r w10_1)]) (Lr := [(pd g q v)]) (List.Perm.swap _ _ _)) rfl rfl rfl hl.1 rfl (Nat.le_of_ble_eq_true rfl) dX3_changeRows_50 ⟨Nat.zero_le _, Nat.zero_le _⟩ (zback (L := [(pd g q v), (ck g r (s_X3_changeRows_50 x10_2 x10_3 w10_1))]) (Lc := [(ck g r (s_X3_changeRows_50 x10_2 x10_3 w10_1))]) (Lr := [(pd g q v)]) (List.Perm.swap _ _ _)) (fun H locs hP hD hS => ?_)
          refine lv_iconst (v := (0 : Int32)) hx hb dX3_changeRows_53 (by decide) ?_
          refine lv_istore_n (lv' := [(2, .int (0 : Int32)), (5, .int (nI i10)), (4, .int x10_4), (3, .int x10_3), (0, .ref (q 0)), (1, .ref (r 2))]) hx hb dX3_changeRows_54 rfl hl (by decide) rfl (fun ls hl => ?_)
          refine lv_iconst (v := (0 : Int32)) hx hb dX3_changeRows_55 (by decide) ?_
          refine lv_istore_n (lv' := [(3, .int (0 : Int32)), (2, .int (0 : Int32)), (5, .int (nI i10)), (4, .int x10_4), (0, .ref (q 0)), (1, .ref (r 2))]) hx hb dX3_changeRows_56 rfl hl (by decide) rfl (fun ls hl => ?_)
          refine lv_iconst (v := (0 : Int32)) hx hb dX3_changeRows_57 (by decide) ?_
          refine lv_istore (lv' := [(4, .int (0 : Int32)), (3, .int (0 : Int32)), (2, .int (0 : Int32)), (5, .int (nI i10)), (0, .ref (q 0)), (1, .ref (r 2))]) hx hb dX3_changeRows_58 hl (by decide) rfl (fun ls hl => ?_)
          refine lv_goto (tgt := 120) hx hb dX3_changeRows_60 (by decide) ?_
          refine lv_iinc (v := (nI (i10 + 1))) (lv' := [(5, .int (nI (i10 + 1))), (4, .int (0 : Int32)), (3, .int (0 : Int32)), (2, .int (0 : Int32)), (0, .ref (q 0)), (1, .ref (r 2))]) hx hb dX3_changeRows_120 hl (k := 3) rfl (nI_1 i10) (by decide) rfl (fun ls hl => ?_)
          refine lv_goto (tgt := 10) hx hb dX3_changeRows_123 (by decide) ?_
          have E : (f_X3_changeRows_L10 v (n10 + 1) i10 x10_2 x10_3 x10_4 w10_1) = (f_X3_changeRows_L10 v n10 (i10 + 1) (0 : Int32) (0 : Int32) (0 : Int32) (s_X3_changeRows_50 x10_2 x10_3 w10_1)) := (if_pos c_25).trans ((if_neg c_44).trans rfl)
          rw [E] at kx
          exact ih10 (i10 + 1) (by omega) (0 : Int32) (0 : Int32) (0 : Int32) (s_X3_changeRows_50 x10_2 x10_3 w10_1) _ _ _  hP hD hS (lv_sub hl [0, 1, 2, 3, 4, 5] rfl) kx
      · refine lv_aload_n hx hb dX3_changeRows_28 rfl (lv_at hl 4 rfl) ?_
        refine va_get (D := g.1) (ci := 3) (v := .ref (q 1)) (C := RX3) (T := TX3) (N := 2) hx hb hts (zin_X3_changeRows_X3) hown hK hP 0 rfl rfl 0 (by decide) (hts (.fieldLink RX3 11 "PegClerks$Pad" "signs" "[C") (by decide +kernel)) (fun _ h9 => h9) rfl dX3_changeRows_29 ?_
        refine lv_iload hx hb dX3_changeRows_32 (lv_at hl 0 rfl) ?_
        refine z_cald (f := (v.2 0)) (k := (nI i10).toNatClampNeg) hx hb hK hP 1 2 rfl rfl (zcr_in hl2 hin10 c_25) rfl dX3_changeRows_34 ?_
        refine lv_bipush (v := (59 : Int32)) hx hb dX3_changeRows_35 (by decide) ?_
        refine lv_icmp_ne (tgt := 63) hx hb dX3_changeRows_37 (by decide) (fun c_37 => ?_) (fun c_37 => ?_)
        · refine lv_aload_n hx hb dX3_changeRows_63 rfl (lv_at hl 4 rfl) ?_
          refine va_get (D := g.1) (ci := 3) (v := .ref (q 1)) (C := RX3) (T := TX3) (N := 2) hx hb hts (zin_X3_changeRows_X3) hown hK hP 0 rfl rfl 0 (by decide) (hts (.fieldLink RX3 11 "PegClerks$Pad" "signs" "[C") (by decide +kernel)) (fun _ h9 => h9) rfl dX3_changeRows_64 ?_
          refine lv_iload hx hb dX3_changeRows_67 (lv_at hl 0 rfl) ?_
          refine z_cald (f := (v.2 0)) (k := (nI i10).toNatClampNeg) hx hb hK hP 1 2 rfl rfl (zcr_in hl2 hin10 c_25) rfl dX3_changeRows_69 ?_
          refine lv_bipush (v := (58 : Int32)) hx hb dX3_changeRows_70 (by decide) ?_
          refine lv_icmp_ne (tgt := 81) hx hb dX3_changeRows_72 (by decide) (fun c_72 => ?_) (fun c_72 => ?_)
          · refine lv_iload hx hb dX3_changeRows_81 (lv_at hl 1 rfl) ?_
            refine lv_if_eq (tgt := 104) hx hb dX3_changeRows_83 (by decide) (fun c_83 => ?_) (fun c_83 => ?_)
            · refine lv_iload_n hx hb dX3_changeRows_104 rfl (lv_at hl 3 rfl) ?_
              refine lv_bipush (v := (10 : Int32)) hx hb dX3_changeRows_105 (by decide) ?_
              refine lv_imul hx hb dX3_changeRows_107 ?_
              refine lv_aload_n hx hb dX3_changeRows_108 rfl (lv_at hl 4 rfl) ?_
              refine va_get (D := g.1) (ci := 3) (v := .ref (q 1)) (C := RX3) (T := TX3) (N := 2) hx hb hts (zin_X3_changeRows_X3) hown hK hP 0 rfl rfl 0 (by decide) (hts (.fieldLink RX3 11 "PegClerks$Pad" "signs" "[C") (by decide +kernel)) (fun _ h9 => h9) rfl dX3_changeRows_109 ?_
              refine lv_iload hx hb dX3_changeRows_112 (lv_at hl 0 rfl) ?_
              refine z_cald (f := (v.2 0)) (k := (nI i10).toNatClampNeg) hx hb hK hP 1 2 rfl rfl (zcr_in hl2 hin10 c_25) rfl dX3_changeRows_114 ?_
              refine lv_iadd hx hb dX3_changeRows_115 ?_
              refine lv_bipush (v := (48 : Int32)) hx hb dX3_changeRows_116 (by decide) ?_
              refine lv_isub hx hb dX3_changeRows_118 ?_
              refine lv_istore_n (lv' := [(2, .int (((x10_2 * (10 : Int32)) + ((v.2 0) (nI i10).toNatClampNeg)) - (48 : Int32))), (5, .int (nI i10)), (4, .int x10_4), (3, .int x10_3), (0, .ref (q 0)), (1, .ref (r 2))]) hx hb dX3_changeRows_119 rfl hl (by decide) rfl (fun ls hl => ?_)
              refine lv_iinc (v := (nI (i10 + 1))) (lv' := [(5, .int (nI (i10 + 1))), (2, .int (((x10_2 * (10 : Int32)) + ((v.2 0) (nI i10).toNatClampNeg)) - (48 : Int32))), (4, .int x10_4), (3, .int x10_3), (0, .ref (q 0)), (1, .ref (r 2))]) hx hb dX3_changeRows_120 hl (k := 1) rfl (nI_1 i10) (by decide) rfl (fun ls hl => ?_)
              refine lv_goto (tgt := 10) hx hb dX3_changeRows_123 (by decide) ?_
              have E : (f_X3_changeRows_L10 v (n10 + 1) i10 x10_2 x10_3 x10_4 w10_1) = (f_X3_changeRows_L10 v n10 (i10 + 1) (((x10_2 * (10 : Int32)) + ((v.2 0) (nI i10).toNatClampNeg)) - (48 : Int32)) x10_3 x10_4 w10_1) := (if_neg c_25).trans ((if_neg c_37).trans ((if_neg c_72).trans ((if_pos c_83).trans rfl)))
              rw [E] at kx
              exact ih10 (i10 + 1) (by omega) (((x10_2 * (10 : Int32)) + ((v.2 0) (nI i10).toNatClampNeg)) - (48 : Int32)) x10_3 x10_4 w10_1 _ _ _  hP hD hS (lv_sub hl [0, 2, 3, 1, 4, 5] rfl) kx
            · refine lv_iload_n hx hb dX3_changeRows_86 rfl (lv_at hl 2 rfl) ?_
              refine lv_iconst (v := (1 : Int32)) hx hb dX3_changeRows_87 (by decide) ?_
              refine lv_aload_n hx hb dX3_changeRows_88 rfl (lv_at hl 4 rfl) ?_
              refine va_get (D := g.1) (ci := 3) (v := .ref (q 1)) (C := RX3) (T := TX3) (N := 2) hx hb hts (zin_X3_changeRows_X3) hown hK hP 0 rfl rfl 0 (by decide) (hts (.fieldLink RX3 11 "PegClerks$Pad" "signs" "[C") (by decide +kernel)) (fun _ h9 => h9) rfl dX3_changeRows_89 ?_
              refine lv_iload hx hb dX3_changeRows_92 (lv_at hl 0 rfl) ?_
              refine z_cald (f := (v.2 0)) (k := (nI i10).toNatClampNeg) hx hb hK hP 1 2 rfl rfl (zcr_in hl2 hin10 c_25) rfl dX3_changeRows_94 ?_
              refine lv_bipush (v := (48 : Int32)) hx hb dX3_changeRows_95 (by decide) ?_
              refine lv_isub hx hb dX3_changeRows_97 ?_
              refine lv_ishl hx hb dX3_changeRows_98 ?_
              refine lv_ior hx hb dX3_changeRows_99 ?_
              refine lv_istore_n (lv' := [(3, .int (x10_3 ||| ((1 : Int32) <<< ((((v.2 0) (nI i10).toNatClampNeg) - (48 : Int32)) &&& 31)))), (5, .int (nI i10)), (4, .int x10_4), (2, .int x10_2), (0, .ref (q 0)), (1, .ref (r 2))]) hx hb dX3_changeRows_100 rfl hl (by decide) rfl (fun ls hl => ?_)
              refine lv_goto (tgt := 120) hx hb dX3_changeRows_101 (by decide) ?_
              refine lv_iinc (v := (nI (i10 + 1))) (lv' := [(5, .int (nI (i10 + 1))), (3, .int (x10_3 ||| ((1 : Int32) <<< ((((v.2 0) (nI i10).toNatClampNeg) - (48 : Int32)) &&& 31)))), (4, .int x10_4), (2, .int x10_2), (0, .ref (q 0)), (1, .ref (r 2))]) hx hb dX3_changeRows_120 hl (k := 1) rfl (nI_1 i10) (by decide) rfl (fun ls hl => ?_)
              refine lv_goto (tgt := 10) hx hb dX3_changeRows_123 (by decide) ?_
              have E : (f_X3_changeRows_L10 v (n10 + 1) i10 x10_2 x10_3 x10_4 w10_1) = (f_X3_changeRows_L10 v n10 (i10 + 1) x10_2 (x10_3 ||| ((1 : Int32) <<< ((((v.2 0) (nI i10).toNatClampNeg) - (48 : Int32)) &&& 31))) x10_4 w10_1) := (if_neg c_25).trans ((if_neg c_37).trans ((if_neg c_72).trans ((if_neg c_83).trans rfl)))
              rw [E] at kx
              exact ih10 (i10 + 1) (by omega) x10_2 (x10_3 ||| ((1 : Int32) <<< ((((v.2 0) (nI i10).toNatClampNeg) - (48 : Int32)) &&& 31))) x10_4 w10_1 _ _ _  hP hD hS (lv_sub hl [0, 2, 1, 3, 4, 5] rfl) kx
          · refine lv_iconst (v := (1 : Int32)) hx hb dX3_changeRows_75 (by decide) ?_
            refine lv_istore (lv' := [(4, .int (1 : Int32)), (5, .int (nI i10)), (3, .int x10_3), (2, .int x10_2), (0, .ref (q 0)), (1, .ref (r 2))]) hx hb dX3_changeRows_76 hl (by decide) rfl (fun ls hl => ?_)
            refine lv_goto (tgt := 120) hx hb dX3_changeRows_78 (by decide) ?_
            refine lv_iinc (v := (nI (i10 + 1))) (lv' := [(5, .int (nI (i10 + 1))), (4, .int (1 : Int32)), (3, .int x10_3), (2, .int x10_2), (0, .ref (q 0)), (1, .ref (r 2))]) hx hb dX3_changeRows_120 hl (k := 1) rfl (nI_1 i10) (by decide) rfl (fun ls hl => ?_)
            refine lv_goto (tgt := 10) hx hb dX3_changeRows_123 (by decide) ?_
            have E : (f_X3_changeRows_L10 v (n10 + 1) i10 x10_2 x10_3 x10_4 w10_1) = (f_X3_changeRows_L10 v n10 (i10 + 1) x10_2 x10_3 (1 : Int32) w10_1) := (if_neg c_25).trans ((if_neg c_37).trans ((if_pos c_72).trans rfl))
            rw [E] at kx
            exact ih10 (i10 + 1) (by omega) x10_2 x10_3 (1 : Int32) w10_1 _ _ _  hP hD hS (lv_sub hl [0, 1, 2, 3, 4, 5] rfl) kx
        · refine lv_iload_n hx hb dX3_changeRows_40 rfl (lv_at hl 3 rfl) ?_
          refine zcSNi (host := RX5) (n := 1) (As := [.int x10_2]) (rest := []) hx hb hml hown hts hN (m_X5_isRow l g x10_2) gX3_changeRows_X5_isRow_n32 rfl (by decide +kernel) (hts _ (by decide +kernel)) (hts _ (by decide +kernel)) (by decide +kernel) ⟨rfl, rfl⟩ ⟨Nat.le_of_ble_eq_true rfl, Nat.le_of_ble_eq_true rfl⟩ hK hP hD hS hA rfl hl.1 rfl (Nat.le_of_ble_eq_true rfl) dX3_changeRows_41 ⟨Nat.zero_le _, Nat.zero_le _⟩ (fun H locs hP hD hS => ?_)
          refine lv_if_eq (tgt := 53) hx hb dX3_changeRows_44 (by decide) (fun c_44 => ?_) (fun c_44 => ?_)
          · refine lv_iconst (v := (0 : Int32)) hx hb dX3_changeRows_53 (by decide) ?_
            refine lv_istore_n (lv' := [(2, .int (0 : Int32)), (5, .int (nI i10)), (4, .int x10_4), (3, .int x10_3), (0, .ref (q 0)), (1, .ref (r 2))]) hx hb dX3_changeRows_54 rfl hl (by decide) rfl (fun ls hl => ?_)
            refine lv_iconst (v := (0 : Int32)) hx hb dX3_changeRows_55 (by decide) ?_
            refine lv_istore_n (lv' := [(3, .int (0 : Int32)), (2, .int (0 : Int32)), (5, .int (nI i10)), (4, .int x10_4), (0, .ref (q 0)), (1, .ref (r 2))]) hx hb dX3_changeRows_56 rfl hl (by decide) rfl (fun ls hl => ?_)
            refine lv_iconst (v := (0 : Int32)) hx hb dX3_changeRows_57 (by decide) ?_
            refine lv_istore (lv' := [(4, .int (0 : Int32)), (3, .int (0 : Int32)), (2, .int (0 : Int32)), (5, .int (nI i10)), (0, .ref (q 0)), (1, .ref (r 2))]) hx hb dX3_changeRows_58 hl (by decide) rfl (fun ls hl => ?_)
            refine lv_goto (tgt := 120) hx hb dX3_changeRows_60 (by decide) ?_
            refine lv_iinc (v := (nI (i10 + 1))) (lv' := [(5, .int (nI (i10 + 1))), (4, .int (0 : Int32)), (3, .int (0 : Int32)), (2, .int (0 : Int32)), (0, .ref (q 0)), (1, .ref (r 2))]) hx hb dX3_changeRows_120 hl (k := 3) rfl (nI_1 i10) (by decide) rfl (fun ls hl => ?_)
            refine lv_goto (tgt := 10) hx hb dX3_changeRows_123 (by decide) ?_
            have E : (f_X3_changeRows_L10 v (n10 + 1) i10 x10_2 x10_3 x10_4 w10_1) = (f_X3_changeRows_L10 v n10 (i10 + 1) (0 : Int32) (0 : Int32) (0 : Int32) w10_1) := (if_neg c_25).trans ((if_pos c_37).trans ((if_pos c_44).trans rfl))
            rw [E] at kx
            exact ih10 (i10 + 1) (by omega) (0 : Int32) (0 : Int32) (0 : Int32) w10_1 _ _ _  hP hD hS (lv_sub hl [0, 1, 2, 3, 4, 5] rfl) kx
          · refine lv_aload_n hx hb dX3_changeRows_47 rfl (lv_at hl 5 rfl) ?_
            refine lv_iload_n hx hb dX3_changeRows_48 rfl (lv_at hl 3 rfl) ?_
            refine lv_iload_n hx hb dX3_changeRows_49 rfl (lv_at hl 2 rfl) ?_
            refine zcVv (n := 2) (As := [.int x10_2, .int x10_3]) (rest := []) (Xr := _) (Xn := ((pd g q v) ++ ((ck g r (s_X3_changeRows_50 x10_2 x10_3 w10_1))))) (ci := 1) (C := RX1) (T := TX1) (N := 4) (q0 := 2) hx hb hml hown hts hN (m_X1_giveRow l g r w10_1 x10_2 x10_3 (zrow5_iff.mp c_44)) gX3_changeRows_X1_giveRow rfl (by decide +kernel) ⟨rfl, rfl⟩ ⟨Nat.le_of_ble_eq_true rfl, Nat.le_of_ble_eq_true rfl⟩ hK hP hD hS hA (zsplit (L := [(pd g q v), (ck g r w10_1)]) (Lc := [(ck g r w10_1)]) (Lr := [(pd g q v)]) (List.Perm.swap _ _ _)) rfl rfl rfl hl.1 rfl (Nat.le_of_ble_eq_true rfl) dX3_changeRows_50 ⟨Nat.zero_le _, Nat.zero_le _⟩ (zback (L := [(pd g q v), (ck g r (s_X3_changeRows_50 x10_2 x10_3 w10_1))]) (Lc := [(ck g r (s_X3_changeRows_50 x10_2 x10_3 w10_1))]) (Lr := [(pd g q v)]) (List.Perm.swap _ _ _)) (fun H locs hP hD hS => ?_)
            refine lv_iconst (v := (0 : Int32)) hx hb dX3_changeRows_53 (by decide) ?_
            refine lv_istore_n (lv' := [(2, .int (0 : Int32)), (5, .int (nI i10)), (4, .int x10_4), (3, .int x10_3), (0, .ref (q 0)), (1, .ref (r 2))]) hx hb dX3_changeRows_54 rfl hl (by decide) rfl (fun ls hl => ?_)
            refine lv_iconst (v := (0 : Int32)) hx hb dX3_changeRows_55 (by decide) ?_
            refine lv_istore_n (lv' := [(3, .int (0 : Int32)), (2, .int (0 : Int32)), (5, .int (nI i10)), (4, .int x10_4), (0, .ref (q 0)), (1, .ref (r 2))]) hx hb dX3_changeRows_56 rfl hl (by decide) rfl (fun ls hl => ?_)
            refine lv_iconst (v := (0 : Int32)) hx hb dX3_changeRows_57 (by decide) ?_
            refine lv_istore (lv' := [(4, .int (0 : Int32)), (3, .int (0 : Int32)), (2, .int (0 : Int32)), (5, .int (nI i10)), (0, .ref (q 0)), (1, .ref (r 2))]) hx hb dX3_changeRows_58 hl (by decide) rfl (fun ls hl => ?_)
            refine lv_goto (tgt := 120) hx hb dX3_changeRows_60 (by decide) ?_
            refine lv_iinc (v := (nI (i10 + 1))) (lv' := [(5, .int (nI (i10 + 1))), (4, .int (0 : Int32)), (3, .int (0 : Int32)), (2, .int (0 : Int32)), (0, .ref (q 0)), (1, .ref (r 2))]) hx hb dX3_changeRows_120 hl (k := 3) rfl (nI_1 i10) (by decide) rfl (fun ls hl => ?_)
            refine lv_goto (tgt := 10) hx hb dX3_changeRows_123 (by decide) ?_
            have E : (f_X3_changeRows_L10 v (n10 + 1) i10 x10_2 x10_3 x10_4 w10_1) = (f_X3_changeRows_L10 v n10 (i10 + 1) (0 : Int32) (0 : Int32) (0 : Int32) (s_X3_changeRows_50 x10_2 x10_3 w10_1)) := (if_neg c_25).trans ((if_pos c_37).trans ((if_neg c_44).trans rfl))
            rw [E] at kx
            exact ih10 (i10 + 1) (by omega) (0 : Int32) (0 : Int32) (0 : Int32) (s_X3_changeRows_50 x10_2 x10_3 w10_1) _ _ _  hP hD hS (lv_sub hl [0, 1, 2, 3, 4, 5] rfl) kx
  refine L10 (zfu ((v.1 0).toNatClampNeg + 1)) 0 (by rw [zfu_eq]; omega) (0 : Int32) (0 : Int32) (0 : Int32) w _ _ _  hP hD hS (lv_sub hl [0, 1, 2, 3, 4, 5] rfl) (fun H locs ls hP hD hS hl => ?_)
  have E : (f_X3_changeRows v w) = (f_X3_changeRows_L10 v (zfu ((v.1 0).toNatClampNeg + 1)) 0 (0 : Int32) (0 : Int32) (0 : Int32) w).2.2.2 := rfl
  have e2 : ((pd g q v) ++ ((ck g r (f_X3_changeRows_L10 v (zfu ((v.1 0).toNatClampNeg + 1)) 0 (0 : Int32) (0 : Int32) (0 : Int32) w).2.2.2))) = ((pd g q v) ++ ((ck g r (f_X3_changeRows v w)))) := by rw [E]
  exact hret ((pd g q v) ++ ((ck g r (f_X3_changeRows_L10 v (zfu ((v.1 0).toNatClampNeg + 1)) 0 (0 : Int32) (0 : Int32) (0 : Int32) w).2.2.2))) _ _ _ _ dX3_changeRows_126 e2 hP hD hS
