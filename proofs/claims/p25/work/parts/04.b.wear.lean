abbrev rm_X1_wearPeg : Room := { frames := 0, cells := 0, slots := 0, locals := 0 }
set_option maxRecDepth 20000 in
theorem zin_X1_wearPeg_X1 : ∀ w ∈ wsX10, w ∈ wsX1_wearPeg := by decide +kernel
def s_X1_wearPeg_18 (v : zCV) (p0 : Int32) (p1 : Int32) : zCV := zA v 2 (upd (v.2 2) ((p0 * (6 : Int32)) + p1).toNatClampNeg (((v.2 2) ((p0 * (6 : Int32)) + p1).toNatClampNeg) + (1 : Int32)))
def s_X1_wearPeg_47 (v : zCV) (p0 : Int32) (p1 : Int32) : zCV := zA (s_X1_wearPeg_18 v p0 p1) 1 (upd ((s_X1_wearPeg_18 v p0 p1).2 1) p0.toNatClampNeg ((((s_X1_wearPeg_18 v p0 p1).2 1) p0.toNatClampNeg) &&& (((1 : Int32) <<< (p1 &&& 31)) ^^^ (-1 : Int32))))
def s_X1_wearPeg_55 (v : zCV) (p0 : Int32) (p1 : Int32) : zCV := zS (s_X1_wearPeg_47 v p0 p1) 15 (((s_X1_wearPeg_47 v p0 p1).1 15) + (1 : Int32))
def f_X1_wearPeg (v : zCV) (p0 : Int32) (p1 : Int32) (p2 : Int32) : zCV := if p2 = (0 : Int32) then ((s_X1_wearPeg_18 v p0 p1)) else (if (((s_X1_wearPeg_18 v p0 p1).2 2) ((p0 * (6 : Int32)) + p1).toNatClampNeg) < p2 then ((s_X1_wearPeg_18 v p0 p1)) else ((s_X1_wearPeg_55 v p0 p1)))
set_option maxRecDepth 100000 in
set_option maxHeartbeats 4000000 in
theorem m_X1_wearPeg (l : Launch) (g : zG) (q : Nat → Nat) (v : zCV) (p0 : Int32) (p1 : Int32) (p2 : Int32) (h0 : vp_in p0 16) (h1 : vp_in p1 6) : ZV l yX1_wearPeg wsX1_wearPeg rm_X1_wearPeg g (ck g q v) [.ref (q 2), .int p0, .int p1, .int p2] (ck g q (f_X1_wearPeg v p0 p1 p2)) := by
  refine zopenV (cc := cX1_wearPeg) (maxL := 5) (by decide +kernel) rfl (Nat.le_of_ble_eq_true rfl) ?_
  intro p e s m below meth c A Q ls hx hb hml hown hts hP hK hD hA hN hl hret
  have hS : va_S A s.heap s.heap [] := va_S.rf
  have hl : lv_has ls 5 [(0, .ref (q 2)), (1, .int p0), (2, .int p1), (3, .int p2)] := hl
  have hown : s.vm.findClass RX1 = some m.cls := hown
  refine lv_iload_n hx hb dX1_wearPeg_0 rfl (lv_at hl 1 rfl) ?_
  refine lv_bipush (v := (6 : Int32)) hx hb dX1_wearPeg_1 (by decide) ?_
  refine lv_imul hx hb dX1_wearPeg_3 ?_
  refine lv_iload_n hx hb dX1_wearPeg_4 rfl (lv_at hl 2 rfl) ?_
  refine lv_iadd hx hb dX1_wearPeg_5 ?_
  refine lv_istore (lv' := [(4, .int ((p0 * (6 : Int32)) + p1)), (0, .ref (q 2)), (1, .int p0), (2, .int p1), (3, .int p2)]) hx hb dX1_wearPeg_6 hl (by decide) rfl (fun ls hl => ?_)
  refine lv_aload_n hx hb dX1_wearPeg_8 rfl (lv_at hl 1 rfl) ?_
  refine va_get (D := g.1) (ci := 1) (v := .ref (q 4)) (C := RX1) (T := TX1) (N := 4) hx hb hts (zin_X1_wearPeg_X1) hown hK hP 2 rfl rfl 1 (by decide) (hts (.fieldLink RX1 15 "PegClerks$Drum" "stampings" "[I") (by decide +kernel)) (fun _ h9 => h9) rfl dX1_wearPeg_9 ?_
  refine lv_iload hx hb dX1_wearPeg_12 (lv_at hl 0 rfl) ?_
  refine lv_dup2_11 hx hb dX1_wearPeg_14 rfl rfl ?_
  refine z_iald (f := (v.2 2)) (k := ((p0 * (6 : Int32)) + p1).toNatClampNeg) hx hb hK hP 4 0 rfl rfl (zin_rp h0 h1) rfl dX1_wearPeg_15 ?_
  refine lv_iconst (v := (1 : Int32)) hx hb dX1_wearPeg_16 (by decide) ?_
  refine lv_iadd hx hb dX1_wearPeg_17 ?_
  refine z_iast (f := (v.2 2)) (k := ((p0 * (6 : Int32)) + p1).toNatClampNeg) hx hb hK hP hD hS 4 0 rfl rfl (zin_rp h0 h1) rfl dX1_wearPeg_18 (fun H locs hP hD hS => ?_)
  have hP : va_P g.1 vwCl (ck g q (s_X1_wearPeg_18 v p0 p1)) H := (congrArg (fun z => va_P g.1 vwCl z H) (ck_A2 g q v (upd (v.2 2) ((p0 * (6 : Int32)) + p1).toNatClampNeg (((v.2 2) ((p0 * (6 : Int32)) + p1).toNatClampNeg) + (1 : Int32))))).mp hP
  have hD : va_D A (ck g q (s_X1_wearPeg_18 v p0 p1)) := (congrArg (fun z => va_D A z) (ck_A2 g q v (upd (v.2 2) ((p0 * (6 : Int32)) + p1).toNatClampNeg (((v.2 2) ((p0 * (6 : Int32)) + p1).toNatClampNeg) + (1 : Int32))))).mp hD
  refine lv_iload_n hx hb dX1_wearPeg_19 rfl (lv_at hl 4 rfl) ?_
  refine lv_if_eq (tgt := 58) hx hb dX1_wearPeg_20 (by decide) (fun c_20 => ?_) (fun c_20 => ?_)
  · have E : (f_X1_wearPeg v p0 p1 p2) = (s_X1_wearPeg_18 v p0 p1) := (if_pos c_20).trans rfl
    have e2 : (ck g q (s_X1_wearPeg_18 v p0 p1)) = (ck g q (f_X1_wearPeg v p0 p1 p2)) := by rw [E]
    exact hret (ck g q (s_X1_wearPeg_18 v p0 p1)) _ _ _ _ dX1_wearPeg_58 e2 hP hD hS
  · refine lv_aload_n hx hb dX1_wearPeg_23 rfl (lv_at hl 1 rfl) ?_
    refine va_get (D := g.1) (ci := 1) (v := .ref (q 4)) (C := RX1) (T := TX1) (N := 4) hx hb hts (zin_X1_wearPeg_X1) hown hK hP 2 rfl rfl 1 (by decide) (hts (.fieldLink RX1 15 "PegClerks$Drum" "stampings" "[I") (by decide +kernel)) (fun _ h9 => h9) rfl dX1_wearPeg_24 ?_
    refine lv_iload hx hb dX1_wearPeg_27 (lv_at hl 0 rfl) ?_
    refine z_iald (f := ((s_X1_wearPeg_18 v p0 p1).2 2)) (k := ((p0 * (6 : Int32)) + p1).toNatClampNeg) hx hb hK hP 4 0 rfl rfl (zin_rp h0 h1) rfl dX1_wearPeg_29 ?_
    refine lv_iload_n hx hb dX1_wearPeg_30 rfl (lv_at hl 4 rfl) ?_
    refine lv_icmp_lt (tgt := 58) hx hb dX1_wearPeg_31 (by decide) (fun c_31 => ?_) (fun c_31 => ?_)
    · have E : (f_X1_wearPeg v p0 p1 p2) = (s_X1_wearPeg_18 v p0 p1) := (if_neg c_20).trans ((if_pos c_31).trans rfl)
      have e2 : (ck g q (s_X1_wearPeg_18 v p0 p1)) = (ck g q (f_X1_wearPeg v p0 p1 p2)) := by rw [E]
      exact hret (ck g q (s_X1_wearPeg_18 v p0 p1)) _ _ _ _ dX1_wearPeg_58 e2 hP hD hS
    · refine lv_aload_n hx hb dX1_wearPeg_34 rfl (lv_at hl 1 rfl) ?_
      refine va_get (D := g.1) (ci := 1) (v := .ref (q 3)) (C := RX1) (T := TX1) (N := 4) hx hb hts (zin_X1_wearPeg_X1) hown hK hP 2 rfl rfl 0 (by decide) (hts (.fieldLink RX1 9 "PegClerks$Drum" "rows" "[I") (by decide +kernel)) (fun _ h9 => h9) rfl dX1_wearPeg_35 ?_
      refine lv_iload_n hx hb dX1_wearPeg_38 rfl (lv_at hl 2 rfl) ?_
      refine lv_dup2_11 hx hb dX1_wearPeg_39 rfl rfl ?_
      refine z_iald (f := ((s_X1_wearPeg_18 v p0 p1).2 1)) (k := p0.toNatClampNeg) hx hb hK hP 3 0 rfl rfl h0 rfl dX1_wearPeg_40 ?_
      refine lv_iconst (v := (1 : Int32)) hx hb dX1_wearPeg_41 (by decide) ?_
      refine lv_iload_n hx hb dX1_wearPeg_42 rfl (lv_at hl 3 rfl) ?_
      refine lv_ishl hx hb dX1_wearPeg_43 ?_
      refine lv_iconst (v := (-1 : Int32)) hx hb dX1_wearPeg_44 (by decide) ?_
      refine lv_ixor hx hb dX1_wearPeg_45 ?_
      refine lv_iand hx hb dX1_wearPeg_46 ?_
      refine z_iast (f := ((s_X1_wearPeg_18 v p0 p1).2 1)) (k := p0.toNatClampNeg) hx hb hK hP hD hS 3 0 rfl rfl h0 rfl dX1_wearPeg_47 (fun H locs hP hD hS => ?_)
      have hP : va_P g.1 vwCl (ck g q (s_X1_wearPeg_47 v p0 p1)) H := (congrArg (fun z => va_P g.1 vwCl z H) (ck_A1 g q (s_X1_wearPeg_18 v p0 p1) (upd ((s_X1_wearPeg_18 v p0 p1).2 1) p0.toNatClampNeg ((((s_X1_wearPeg_18 v p0 p1).2 1) p0.toNatClampNeg) &&& (((1 : Int32) <<< (p1 &&& 31)) ^^^ (-1 : Int32)))))).mp hP
      have hD : va_D A (ck g q (s_X1_wearPeg_47 v p0 p1)) := (congrArg (fun z => va_D A z) (ck_A1 g q (s_X1_wearPeg_18 v p0 p1) (upd ((s_X1_wearPeg_18 v p0 p1).2 1) p0.toNatClampNeg ((((s_X1_wearPeg_18 v p0 p1).2 1) p0.toNatClampNeg) &&& (((1 : Int32) <<< (p1 &&& 31)) ^^^ (-1 : Int32)))))).mp hD
      refine lv_aload_n hx hb dX1_wearPeg_48 rfl (lv_at hl 1 rfl) ?_
      refine lv_dup hx hb dX1_wearPeg_49 rfl ?_
      refine va_get (D := g.1) (ci := 1) (v := .int ((s_X1_wearPeg_47 v p0 p1).1 15)) (C := RX1) (T := TX1) (N := 4) hx hb hts (zin_X1_wearPeg_X1) hown hK hP 2 rfl rfl 3 (by decide) (hts (.fieldLink RX1 28 "PegClerks$Drum" "fallenOut" "I") (by decide +kernel)) (fun _ h9 => h9) rfl dX1_wearPeg_50 ?_
      refine lv_iconst (v := (1 : Int32)) hx hb dX1_wearPeg_53 (by decide) ?_
      refine lv_iadd hx hb dX1_wearPeg_54 ?_
      refine va_put (D := g.1) (ci := 1) (v := .int (((s_X1_wearPeg_47 v p0 p1).1 15) + (1 : Int32))) (ty := .int) (C := RX1) (T := TX1) (N := 4) hx hb hts (zin_X1_wearPeg_X1) tyX1 tyX1_ok nmX1 hown hK hP hD hS 2 rfl rfl 3 (by decide) (hts (.fieldLink RX1 28 "PegClerks$Drum" "fallenOut" "I") (by decide +kernel)) (fun _ h9 => h9) rfl (by decide +kernel) rfl rfl (Nat.le_of_ble_eq_true rfl) dX1_wearPeg_55 (fun H locs hP hD hS => ?_)
      have hP : va_P g.1 vwCl (ck g q (s_X1_wearPeg_55 v p0 p1)) H := (congrArg (fun z => va_P g.1 vwCl z H) (ck_S15 g q (s_X1_wearPeg_47 v p0 p1) (((s_X1_wearPeg_47 v p0 p1).1 15) + (1 : Int32)))).mp hP
      have hD : va_D A (ck g q (s_X1_wearPeg_55 v p0 p1)) := (congrArg (fun z => va_D A z) (ck_S15 g q (s_X1_wearPeg_47 v p0 p1) (((s_X1_wearPeg_47 v p0 p1).1 15) + (1 : Int32)))).mp hD
      have E : (f_X1_wearPeg v p0 p1 p2) = (s_X1_wearPeg_55 v p0 p1) := (if_neg c_20).trans ((if_neg c_31).trans rfl)
      have e2 : (ck g q (s_X1_wearPeg_55 v p0 p1)) = (ck g q (f_X1_wearPeg v p0 p1 p2)) := by rw [E]
      exact hret (ck g q (s_X1_wearPeg_55 v p0 p1)) _ _ _ _ dX1_wearPeg_58 e2 hP hD hS
