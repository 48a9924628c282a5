abbrev rm_X0_wouldJamAt : Room := { frames := 2, cells := 0, slots := 0, locals := 41 }
set_option maxRecDepth 20000 in
theorem zin_X0_wouldJamAt_X0 : ∀ w ∈ wsX00, w ∈ wsX0_wouldJamAt := by decide +kernel
def r_X0_wouldJamAt_5 (v : zCV) (p0 : Int32) : Int32 := (f_X1_pegsInRow v p0)
def f_X0_wouldJamAt (v : zCV) (p0 : Int32) : Int32 := if (r_X0_wouldJamAt_5 v p0) ≤ ((v.2 0) 3) then ((0 : Int32)) else ((1 : Int32))
set_option maxRecDepth 100000 in
set_option maxHeartbeats 4000000 in
theorem m_X0_wouldJamAt (l : Launch) (g : zG) (q : Nat → Nat) (v : zCV) (p0 : Int32) (h0 : vp_in p0 16) : ZI l yX0_wouldJamAt wsX0_wouldJamAt rm_X0_wouldJamAt g (ck g q v) [.ref (q 0), .int p0] (f_X0_wouldJamAt v p0) (ck g q v) := by
  refine zopenI (cc := cX0_wouldJamAt) (maxL := 2) (ret := .boolean) (by decide +kernel) rfl (Nat.le_of_ble_eq_true rfl) ?_
  intro p e s m below meth c A Q ls hx hb hml hown hts hP hK hD hA hN hl hret
  have hS : va_S A s.heap s.heap [] := va_S.rf
  have hl : lv_has ls 2 [(0, .ref (q 0)), (1, .int p0)] := hl
  have hown : s.vm.findClass RX0 = some m.cls := hown
  refine lv_aload_n hx hb dX0_wouldJamAt_0 rfl (lv_at hl 0 rfl) ?_
  refine va_get (D := g.1) (ci := 0) (v := .ref (q 2)) (C := RX0) (T := TX0) (N := 13) hx hb hts (zin_X0_wouldJamAt_X0) hown hK hP 0 rfl rfl 1 (by decide) (hts (.fieldLink RX0 18 "PegClerks$Clerk" "drum" "LPegClerks$Drum;") (by decide +kernel)) (fun _ h9 => h9) rfl dX0_wouldJamAt_1 ?_
  refine lv_iload_n hx hb dX0_wouldJamAt_4 rfl (lv_at hl 1 rfl) ?_
  refine zcVi (n := 1) (As := [.int p0]) (rest := []) (Xr := []) (Xn := (ck g q v)) (ci := 1) (C := RX1) (T := TX1) (N := 4) (q0 := 2) hx hb hml hown hts hN (m_X1_pegsInRow l g q v p0 h0) gX0_wouldJamAt_X1_pegsInRow rfl (by decide +kernel) ⟨rfl, rfl⟩ ⟨Nat.le_of_ble_eq_true rfl, Nat.le_of_ble_eq_true rfl⟩ hK hP hD hS hA (zpn _) rfl rfl rfl hl.1 rfl (Nat.le_of_ble_eq_true rfl) dX0_wouldJamAt_5 ⟨Nat.zero_le _, Nat.zero_le _⟩ (zpn' _) (fun H locs hP hD hS => ?_)
  refine lv_aload_n hx hb dX0_wouldJamAt_8 rfl (lv_at hl 0 rfl) ?_
  refine va_get (D := g.1) (ci := 0) (v := .ref (q 1)) (C := RX0) (T := TX0) (N := 13) hx hb hts (zin_X0_wouldJamAt_X0) hown hK hP 0 rfl rfl 0 (by decide) (hts (.fieldLink RX0 9 "PegClerks$Clerk" "settings" "[I") (by decide +kernel)) (fun _ h9 => h9) rfl dX0_wouldJamAt_9 ?_
  refine lv_iconst (v := (3 : Int32)) hx hb dX0_wouldJamAt_12 (by decide) ?_
  refine z_iald (f := (v.2 0)) (k := 3) hx hb hK hP 1 0 rfl rfl (zlit (3 : Int32) 4 (by decide +kernel)) (by decide +kernel) dX0_wouldJamAt_13 ?_
  refine lv_icmp_le (tgt := 21) hx hb dX0_wouldJamAt_14 (by decide) (fun c_14 => ?_) (fun c_14 => ?_)
  · refine lv_iconst (v := (0 : Int32)) hx hb dX0_wouldJamAt_21 (by decide) ?_
    have E : (f_X0_wouldJamAt v p0) = (0 : Int32) := (if_pos c_14).trans rfl
    exact hret _ _ _ _ _ _ dX0_wouldJamAt_22 E.symm (rfl) rfl hP hD hS
  · refine lv_iconst (v := (1 : Int32)) hx hb dX0_wouldJamAt_17 (by decide) ?_
    refine lv_goto (tgt := 22) hx hb dX0_wouldJamAt_18 (by decide) ?_
    have E : (f_X0_wouldJamAt v p0) = (1 : Int32) := (if_neg c_14).trans rfl
    exact hret _ _ _ _ _ _ dX0_wouldJamAt_22 E.symm (rfl) rfl hP hD hS
abbrev rm_X0_layForm : Room := { frames := 0, cells := 0, slots := 0, locals := 0 }
set_option maxRecDepth 20000 in
theorem zin_X0_layForm_X0 : ∀ w ∈ wsX00, w ∈ wsX0_layForm := by decide +kernel
def s_X0_layForm_2 (v : zCV) : zCV := zS v 7 (0 : Int32)
def s_X0_layForm_7 (v : zCV) : zCV := zS (s_X0_layForm_2 v) 8 (0 : Int32)
def s_X0_layForm_12 (v : zCV) : zCV := zS (s_X0_layForm_7 v) 9 (0 : Int32)
def f_X0_layForm (v : zCV) : zCV := (s_X0_layForm_12 v)
set_option maxRecDepth 100000 in
set_option maxHeartbeats 4000000 in
theorem m_X0_layForm (l : Launch) (g : zG) (q : Nat → Nat) (v : zCV) : ZV l yX0_layForm wsX0_layForm rm_X0_layForm g (ck g q v) [.ref (q 0)] (ck g q (f_X0_layForm v)) := by
  refine zopenV (cc := cX0_layForm) (maxL := 1) (by decide +kernel) rfl (Nat.le_of_ble_eq_true rfl) ?_
  intro p e s m below meth c A Q ls hx hb hml hown hts hP hK hD hA hN hl hret
  have hS : va_S A s.heap s.heap [] := va_S.rf
  have hl : lv_has ls 1 [(0, .ref (q 0))] := hl
  have hown : s.vm.findClass RX0 = some m.cls := hown
  refine lv_aload_n hx hb dX0_layForm_0 rfl (lv_at hl 0 rfl) ?_
  refine lv_iconst (v := (0 : Int32)) hx hb dX0_layForm_1 (by decide) ?_
  refine va_put (D := g.1) (ci := 0) (v := .int (0 : Int32)) (ty := .int) (C := RX0) (T := TX0) (N := 13) hx hb hts (zin_X0_layForm_X0) tyX0 tyX0_ok nmX0 hown hK hP hD hS 0 rfl rfl 5 (by decide) (hts (.fieldLink RX0 50 "PegClerks$Clerk" "formStamps" "I") (by decide +kernel)) (fun _ h9 => h9) rfl (by decide +kernel) rfl rfl (Nat.le_of_ble_eq_true rfl) dX0_layForm_2 (fun H locs hP hD hS => ?_)
  have hP : va_P g.1 vwCl (ck g q (s_X0_layForm_2 v)) H := (congrArg (fun z => va_P g.1 vwCl z H) (ck_S7 g q v (0 : Int32))).mp hP
  have hD : va_D A (ck g q (s_X0_layForm_2 v)) := (congrArg (fun z => va_D A z) (ck_S7 g q v (0 : Int32))).mp hD
  refine lv_aload_n hx hb dX0_layForm_5 rfl (lv_at hl 0 rfl) ?_
  refine lv_iconst (v := (0 : Int32)) hx hb dX0_layForm_6 (by decide) ?_
  refine va_put (D := g.1) (ci := 0) (v := .int (0 : Int32)) (ty := .boolean) (C := RX0) (T := TX0) (N := 13) hx hb hts (zin_X0_layForm_X0) tyX0 tyX0_ok nmX0 hown hK hP hD hS 0 rfl rfl 6 (by decide) (hts (.fieldLink RX0 53 "PegClerks$Clerk" "formSpoiled" "Z") (by decide +kernel)) (fun _ h9 => h9) rfl (by decide +kernel) rfl rfl (Nat.le_of_ble_eq_true rfl) dX0_layForm_7 (fun H locs hP hD hS => ?_)
  have hP : va_P g.1 vwCl (ck g q (s_X0_layForm_7 v)) H := (congrArg (fun z => va_P g.1 vwCl z H) (ck_S8 g q (s_X0_layForm_2 v) (0 : Int32))).mp hP
  have hD : va_D A (ck g q (s_X0_layForm_7 v)) := (congrArg (fun z => va_D A z) (ck_S8 g q (s_X0_layForm_2 v) (0 : Int32))).mp hD
  refine lv_aload_n hx hb dX0_layForm_10 rfl (lv_at hl 0 rfl) ?_
  refine lv_iconst (v := (0 : Int32)) hx hb dX0_layForm_11 (by decide) ?_
  refine va_put (D := g.1) (ci := 0) (v := .int (0 : Int32)) (ty := .int) (C := RX0) (T := TX0) (N := 13) hx hb hts (zin_X0_layForm_X0) tyX0 tyX0_ok nmX0 hown hK hP hD hS 0 rfl rfl 7 (by decide) (hts (.fieldLink RX0 56 "PegClerks$Clerk" "formSteps" "I") (by decide +kernel)) (fun _ h9 => h9) rfl (by decide +kernel) rfl rfl (Nat.le_of_ble_eq_true rfl) dX0_layForm_12 (fun H locs hP hD hS => ?_)
  have hP : va_P g.1 vwCl (ck g q (s_X0_layForm_12 v)) H := (congrArg (fun z => va_P g.1 vwCl z H) (ck_S9 g q (s_X0_layForm_7 v) (0 : Int32))).mp hP
  have hD : va_D A (ck g q (s_X0_layForm_12 v)) := (congrArg (fun z => va_D A z) (ck_S9 g q (s_X0_layForm_7 v) (0 : Int32))).mp hD
  have E : (f_X0_layForm v) = (s_X0_layForm_12 v) := rfl
  have e2 : (ck g q (s_X0_layForm_12 v)) = (ck g q (f_X0_layForm v)) := by rw [E]
  exact hret (ck g q (s_X0_layForm_12 v)) _ _ _ _ dX0_layForm_15 e2 hP hD hS
abbrev rm_X0_finishForm : Room := { frames := 1, cells := 0, slots := 0, locals := 20 }
set_option maxRecDepth 20000 in
theorem zin_X0_finishForm_X0 : ∀ w ∈ wsX00, w ∈ wsX0_finishForm := by decide +kernel
def s_X0_finishForm_51 (v : zCV) : zCV := zS v 12 ((v.1 12) + (1 : Int32))
def s_X0_finishForm_55 (v : zCV) : zCV := (f_X0_layForm (s_X0_finishForm_51 v))
def s_X0_finishForm_38 (v : zCV) : zCV := zS v 11 ((v.1 11) + (1 : Int32))
def s_X0_finishForm_55_2 (v : zCV) : zCV := (f_X0_layForm (s_X0_finishForm_38 v))
def s_X0_finishForm_14 (v : zCV) : zCV := zS v 13 ((v.1 13) + (1 : Int32))
def s_X0_finishForm_55_3 (v : zCV) : zCV := (f_X0_layForm (s_X0_finishForm_14 v))
def f_X0_finishForm (v : zCV) : zCV := if (v.1 8) = (0 : Int32) then (if (v.1 7) = (v.1 6) then ((s_X0_finishForm_55_2 v)) else ((s_X0_finishForm_55 v))) else ((s_X0_finishForm_55_3 v))
set_option maxRecDepth 100000 in
set_option maxHeartbeats 4000000 in
theorem m_X0_finishForm (l : Launch) (g : zG) (q : Nat → Nat) (v : zCV) : ZV l yX0_finishForm wsX0_finishForm rm_X0_finishForm g (ck g q v) [.ref (q 0)] (ck g q (f_X0_finishForm v)) := by
  refine zopenV (cc := cX0_finishForm) (maxL := 1) (by decide +kernel) rfl (Nat.le_of_ble_eq_true rfl) ?_
  intro p e s m below meth c A Q ls hx hb hml hown hts hP hK hD hA hN hl hret
  have hS : va_S A s.heap s.heap [] := va_S.rf
  have hl : lv_has ls 1 [(0, .ref (q 0))] := hl
  have hown : s.vm.findClass RX0 = some m.cls := hown
  refine lv_aload_n hx hb dX0_finishForm_0 rfl (lv_at hl 0 rfl) ?_
  refine va_get (D := g.1) (ci := 0) (v := .int (v.1 8)) (C := RX0) (T := TX0) (N := 13) hx hb hts (zin_X0_finishForm_X0) hown hK hP 0 rfl rfl 6 (by decide) (hts (.fieldLink RX0 53 "PegClerks$Clerk" "formSpoiled" "Z") (by decide +kernel)) (fun _ h9 => h9) rfl dX0_finishForm_1 ?_
  refine lv_if_eq (tgt := 20) hx hb dX0_finishForm_4 (by decide) (fun c_4 => ?_) (fun c_4 => ?_)
  · refine lv_aload_n hx hb dX0_finishForm_20 rfl (lv_at hl 0 rfl) ?_
    refine va_get (D := g.1) (ci := 0) (v := .int (v.1 7)) (C := RX0) (T := TX0) (N := 13) hx hb hts (zin_X0_finishForm_X0) hown hK hP 0 rfl rfl 5 (by decide) (hts (.fieldLink RX0 50 "PegClerks$Clerk" "formStamps" "I") (by decide +kernel)) (fun _ h9 => h9) rfl dX0_finishForm_21 ?_
    refine lv_aload_n hx hb dX0_finishForm_24 rfl (lv_at hl 0 rfl) ?_
    refine va_get (D := g.1) (ci := 0) (v := .int (v.1 6)) (C := RX0) (T := TX0) (N := 13) hx hb hts (zin_X0_finishForm_X0) hown hK hP 0 rfl rfl 4 (by decide) (hts (.fieldLink RX0 46 "PegClerks$Clerk" "order" "I") (by decide +kernel)) (fun _ h9 => h9) rfl dX0_finishForm_25 ?_
    refine lv_icmp_ne (tgt := 44) hx hb dX0_finishForm_28 (by decide) (fun c_28 => ?_) (fun c_28 => ?_)
    · refine lv_aload_n hx hb dX0_finishForm_44 rfl (lv_at hl 0 rfl) ?_
      refine lv_dup hx hb dX0_finishForm_45 rfl ?_
      refine va_get (D := g.1) (ci := 0) (v := .int (v.1 12)) (C := RX0) (T := TX0) (N := 13) hx hb hts (zin_X0_finishForm_X0) hown hK hP 0 rfl rfl 10 (by decide) (hts (.fieldLink RX0 65 "PegClerks$Clerk" "wrongForms" "I") (by decide +kernel)) (fun _ h9 => h9) rfl dX0_finishForm_46 ?_
      refine lv_iconst (v := (1 : Int32)) hx hb dX0_finishForm_49 (by decide) ?_
      refine lv_iadd hx hb dX0_finishForm_50 ?_
      refine va_put (D := g.1) (ci := 0) (v := .int ((v.1 12) + (1 : Int32))) (ty := .int) (C := RX0) (T := TX0) (N := 13) hx hb hts (zin_X0_finishForm_X0) tyX0 tyX0_ok nmX0 hown hK hP hD hS 0 rfl rfl 10 (by decide) (hts (.fieldLink RX0 65 "PegClerks$Clerk" "wrongForms" "I") (by decide +kernel)) (fun _ h9 => h9) rfl (by decide +kernel) rfl rfl (Nat.le_of_ble_eq_true rfl) dX0_finishForm_51 (fun H locs hP hD hS => ?_)
      have hP : va_P g.1 vwCl (ck g q (s_X0_finishForm_51 v)) H := (congrArg (fun z => va_P g.1 vwCl z H) (ck_S12 g q v ((v.1 12) + (1 : Int32)))).mp hP
      have hD : va_D A (ck g q (s_X0_finishForm_51 v)) := (congrArg (fun z => va_D A z) (ck_S12 g q v ((v.1 12) + (1 : Int32)))).mp hD
      refine lv_aload_n hx hb dX0_finishForm_54 rfl (lv_at hl 0 rfl) ?_
      refine zcVv (n := 0) (As := []) (rest := []) (Xr := []) (Xn := (ck g q (s_X0_finishForm_55 v))) (ci := 0) (C := RX0) (T := TX0) (N := 13) (q0 := 0) hx hb hml hown hts hN (m_X0_layForm l g q (s_X0_finishForm_51 v) ) gX0_finishForm_X0_layForm rfl (by decide +kernel) ⟨rfl, rfl⟩ ⟨Nat.le_of_ble_eq_true rfl, Nat.le_of_ble_eq_true rfl⟩ hK hP hD hS hA (zpn _) rfl rfl rfl hl.1 rfl (Nat.le_of_ble_eq_true rfl) dX0_finishForm_55 ⟨Nat.zero_le _, Nat.zero_le _⟩ (zpn' _) (fun H locs hP hD hS => ?_)
      have E : (f_X0_finishForm v) = (s_X0_finishForm_55 v) := (if_pos c_4).trans ((if_neg c_28).trans rfl)
      have e2 : (ck g q (s_X0_finishForm_55 v)) = (ck g q (f_X0_finishForm v)) := by rw [E]
      exact hret (ck g q (s_X0_finishForm_55 v)) _ _ _ _ dX0_finishForm_58 e2 hP hD hS
    · refine lv_aload_n hx hb dX0_finishForm_31 rfl (lv_at hl 0 rfl) ?_
      refine lv_dup hx hb dX0_finishForm_32 rfl ?_
      refine va_get (D := g.1) (ci := 0) (v := .int (v.1 11)) (C := RX0) (T := TX0) (N := 13) hx hb hts (zin_X0_finishForm_X0) hown hK hP 0 rfl rfl 9 (by decide) (hts (.fieldLink RX0 62 "PegClerks$Clerk" "rightForms" "I") (by decide +kernel)) (fun _ h9 => h9) rfl dX0_finishForm_33 ?_
      refine lv_iconst (v := (1 : Int32)) hx hb dX0_finishForm_36 (by decide) ?_
      refine lv_iadd hx hb dX0_finishForm_37 ?_
      refine va_put (D := g.1) (ci := 0) (v := .int ((v.1 11) + (1 : Int32))) (ty := .int) (C := RX0) (T := TX0) (N := 13) hx hb hts (zin_X0_finishForm_X0) tyX0 tyX0_ok nmX0 hown hK hP hD hS 0 rfl rfl 9 (by decide) (hts (.fieldLink RX0 62 "PegClerks$Clerk" "rightForms" "I") (by decide +kernel)) (fun _ h9 => h9) rfl (by decide +kernel) rfl rfl (Nat.le_of_ble_eq_true rfl) dX0_finishForm_38 (fun H locs hP hD hS => ?_)
      have hP : va_P g.1 vwCl (ck g q (s_X0_finishForm_38 v)) H := (congrArg (fun z => va_P g.1 vwCl z H) (ck_S11 g q v ((v.1 11) + (1 : Int32)))).mp hP
      have hD : va_D A (ck g q (s_X0_finishForm_38 v)) := (congrArg (fun z => va_D A z) (ck_S11 g q v ((v.1 11) + (1 : Int32)))).mp hD
      refine lv_goto (tgt := 54) hx hb dX0_finishForm_41 (by decide) ?_
      refine lv_aload_n hx hb dX0_finishForm_54 rfl (lv_at hl 0 rfl) ?_
      refine zcVv (n := 0) (As := []) (rest := []) (Xr := []) (Xn := (ck g q (s_X0_finishForm_55_2 v))) (ci := 0) (C := RX0) (T := TX0) (N := 13) (q0 := 0) hx hb hml hown hts hN (m_X0_layForm l g q (s_X0_finishForm_38 v) ) gX0_finishForm_X0_layForm rfl (by decide +kernel) ⟨rfl, rfl⟩ ⟨Nat.le_of_ble_eq_true rfl, Nat.le_of_ble_eq_true rfl⟩ hK hP hD hS hA (zpn _) rfl rfl rfl hl.1 rfl (Nat.le_of_ble_eq_true rfl) dX0_finishForm_55 ⟨Nat.zero_le _, Nat.zero_le _⟩ (zpn' _) (fun H locs hP hD hS => ?_)
      have E : (f_X0_finishForm v) = (s_X0_finishForm_55_2 v) := (if_pos c_4).trans ((if_pos c_28).trans rfl)
      have e2 : (ck g q (s_X0_finishForm_55_2 v)) = (ck g q (f_X0_finishForm v)) := by rw [E]
      exact hret (ck g q (s_X0_finishForm_55_2 v)) _ _ _ _ dX0_finishForm_58 e2 hP hD hS
  · refine lv_aload_n hx hb dX0_finishForm_7 rfl (lv_at hl 0 rfl) ?_
    refine lv_dup hx hb dX0_finishForm_8 rfl ?_
    refine va_get (D := g.1) (ci := 0) (v := .int (v.1 13)) (C := RX0) (T := TX0) (N := 13) hx hb hts (zin_X0_finishForm_X0) hown hK hP 0 rfl rfl 11 (by decide) (hts (.fieldLink RX0 68 "PegClerks$Clerk" "spoiledForms" "I") (by decide +kernel)) (fun _ h9 => h9) rfl dX0_finishForm_9 ?_
    refine lv_iconst (v := (1 : Int32)) hx hb dX0_finishForm_12 (by decide) ?_
    refine lv_iadd hx hb dX0_finishForm_13 ?_
    refine va_put (D := g.1) (ci := 0) (v := .int ((v.1 13) + (1 : Int32))) (ty := .int) (C := RX0) (T := TX0) (N := 13) hx hb hts (zin_X0_finishForm_X0) tyX0 tyX0_ok nmX0 hown hK hP hD hS 0 rfl rfl 11 (by decide) (hts (.fieldLink RX0 68 "PegClerks$Clerk" "spoiledForms" "I") (by decide +kernel)) (fun _ h9 => h9) rfl (by decide +kernel) rfl rfl (Nat.le_of_ble_eq_true rfl) dX0_finishForm_14 (fun H locs hP hD hS => ?_)
    have hP : va_P g.1 vwCl (ck g q (s_X0_finishForm_14 v)) H := (congrArg (fun z => va_P g.1 vwCl z H) (ck_S13 g q v ((v.1 13) + (1 : Int32)))).mp hP
    have hD : va_D A (ck g q (s_X0_finishForm_14 v)) := (congrArg (fun z => va_D A z) (ck_S13 g q v ((v.1 13) + (1 : Int32)))).mp hD
    refine lv_goto (tgt := 54) hx hb dX0_finishForm_17 (by decide) ?_
    refine lv_aload_n hx hb dX0_finishForm_54 rfl (lv_at hl 0 rfl) ?_
    refine zcVv (n := 0) (As := []) (rest := []) (Xr := []) (Xn := (ck g q (s_X0_finishForm_55_3 v))) (ci := 0) (C := RX0) (T := TX0) (N := 13) (q0 := 0) hx hb hml hown hts hN (m_X0_layForm l g q (s_X0_finishForm_14 v) ) gX0_finishForm_X0_layForm rfl (by decide +kernel) ⟨rfl, rfl⟩ ⟨Nat.le_of_ble_eq_true rfl, Nat.le_of_ble_eq_true rfl⟩ hK hP hD hS hA (zpn _) rfl rfl rfl hl.1 rfl (Nat.le_of_ble_eq_true rfl) dX0_finishForm_55 ⟨Nat.zero_le _, Nat.zero_le _⟩ (zpn' _) (fun H locs hP hD hS => ?_)
    have E : (f_X0_finishForm v) = (s_X0_finishForm_55_3 v) := (if_neg c_4).trans rfl
    have e2 : (ck g q (s_X0_finishForm_55_3 v)) = (ck g q (f_X0_finishForm v)) := by rw [E]
    exact hret (ck g q (s_X0_finishForm_55_3 v)) _ _ _ _ dX0_finishForm_58 e2 hP hD hS
abbrev rm_X0_letStampFall : Room := { frames := 1, cells := 0, slots := 0, locals := 22 }
set_option maxRecDepth 20000 in
theorem zin_X0_letStampFall_X0 : ∀ w ∈ wsX00, w ∈ wsX0_letStampFall := by decide +kernel
set_option maxRecDepth 20000 in
theorem zin_X0_letStampFall_X4 : ∀ w ∈ wsX40, w ∈ wsX0_letStampFall := by decide +kernel
def r_X0_letStampFall_40 (v : zCV) (p0 : Int32) : Int32 × zCV := (f_X4_leavesMark v p0 ((v.2 0) 1))
def s_X0_letStampFall_55 (v : zCV) (p0 : Int32) : zCV := zS (r_X0_letStampFall_40 v p0).2 7 (((r_X0_letStampFall_40 v p0).2.1 7) ||| ((1 : Int32) <<< (p0 &&& 31)))
def s_X0_letStampFall_13 (v : zCV) : zCV := zS v 8 (1 : Int32)
def s_X0_letStampFall_28 (v : zCV) (p0 : Int32) : zCV := zA (s_X0_letStampFall_13 v) 6 (upd ((s_X0_letStampFall_13 v).2 6) p0.toNatClampNeg ((((s_X0_letStampFall_13 v).2 6) p0.toNatClampNeg) + (1 : Int32)))
def r_X0_letStampFall_40_2 (v : zCV) (p0 : Int32) : Int32 × zCV := (f_X4_leavesMark (s_X0_letStampFall_28 v p0) p0 (((s_X0_letStampFall_28 v p0).2 0) 1))
def s_X0_letStampFall_55_2 (v : zCV) (p0 : Int32) : zCV := zS (r_X0_letStampFall_40_2 v p0).2 7 (((r_X0_letStampFall_40_2 v p0).2.1 7) ||| ((1 : Int32) <<< (p0 &&& 31)))
def f_X0_letStampFall (v : zCV) (p0 : Int32) : zCV := if (((v.1 7) >>> (p0 &&& 31)) &&& (1 : Int32)) = (0 : Int32) then (if ((r_X0_letStampFall_40 v p0).1) = (0 : Int32) then ((r_X0_letStampFall_40 v p0).2) else ((s_X0_letStampFall_55 v p0))) else (if ((r_X0_letStampFall_40_2 v p0).1) = (0 : Int32) then ((r_X0_letStampFall_40_2 v p0).2) else ((s_X0_letStampFall_55_2 v p0)))
set_option maxRecDepth 100000 in
set_option maxHeartbeats 4000000 in
theorem m_X0_letStampFall (l : Launch) (g : zG) (q : Nat → Nat) (v : zCV) (p0 : Int32) (h0 : vp_in p0 6) : ZV l yX0_letStampFall wsX0_letStampFall rm_X0_letStampFall g (ck g q v) [.ref (q 0), .int p0] (ck g q (f_X0_letStampFall v p0)) := by
  refine zopenV (cc := cX0_letStampFall) (maxL := 2) (by decide +kernel) rfl (Nat.le_of_ble_eq_true rfl) ?_
  intro p e s m below meth c A Q ls hx hb hml hown hts hP hK hD hA hN hl hret
  have hS : va_S A s.heap s.heap [] := va_S.rf
  have hl : lv_has ls 2 [(0, .ref (q 0)), (1, .int p0)] := hl
  have hown : s.vm.findClass RX0 = some m.cls := hown
  refine lv_aload_n hx hb dX0_letStampFall_0 rfl (lv_at hl 0 rfl) ?_
  refine va_get (D := g.1) (ci := 0) (v := .int (v.1 7)) (C := RX0) (T := TX0) (N := 13) hx hb hts (zin_X0_letStampFall_X0) hown hK hP 0 rfl rfl 5 (by decide) (hts (.fieldLink RX0 50 "PegClerks$Clerk" "formStamps" "I") (by decide +kernel)) (fun _ h9 => h9) rfl dX0_letStampFall_1 ?_
  refine lv_iload_n hx hb dX0_letStampFall_4 rfl (lv_at hl 1 rfl) ?_
  refine lv_ishr hx hb dX0_letStampFall_5 ?_
  refine lv_iconst (v := (1 : Int32)) hx hb dX0_letStampFall_6 (by decide) ?_
  refine lv_iand hx hb dX0_letStampFall_7 ?_
  refine lv_if_eq (tgt := 29) hx hb dX0_letStampFall_8 (by decide) (fun c_8 => ?_) (fun c_8 => ?_)
  · refine lv_aload_n hx hb dX0_letStampFall_29 rfl (lv_at hl 0 rfl) ?_
    refine va_get (D := g.1) (ci := 0) (v := .ref (q 5)) (C := RX0) (T := TX0) (N := 13) hx hb hts (zin_X0_letStampFall_X0) hown hK hP 0 rfl rfl 2 (by decide) (hts (.fieldLink RX0 25 "PegClerks$Clerk" "stamps" "LPegClerks$Stamps;") (by decide +kernel)) (fun _ h9 => h9) rfl dX0_letStampFall_30 ?_
    refine lv_iload_n hx hb dX0_letStampFall_33 rfl (lv_at hl 1 rfl) ?_
    refine lv_aload_n hx hb dX0_letStampFall_34 rfl (lv_at hl 0 rfl) ?_
    refine va_get (D := g.1) (ci := 0) (v := .ref (q 1)) (C := RX0) (T := TX0) (N := 13) hx hb hts (zin_X0_letStampFall_X0) hown hK hP 0 rfl rfl 0 (by decide) (hts (.fieldLink RX0 9 "PegClerks$Clerk" "settings" "[I") (by decide +kernel)) (fun _ h9 => h9) rfl dX0_letStampFall_35 ?_
    refine lv_iconst (v := (1 : Int32)) hx hb dX0_letStampFall_38 (by decide) ?_
    refine z_iald (f := (v.2 0)) (k := 1) hx hb hK hP 1 0 rfl rfl (zlit (1 : Int32) 4 (by decide +kernel)) (by decide +kernel) dX0_letStampFall_39 ?_
    refine zcVi (n := 2) (As := [.int p0, .int ((v.2 0) 1)]) (rest := []) (Xr := []) (Xn := (ck g q (r_X0_letStampFall_40 v p0).2)) (ci := 4) (C := RX4) (T := TX4) (N := 4) (q0 := 5) hx hb hml hown hts hN (m_X4_leavesMark l g q v p0 ((v.2 0) 1) h0) gX0_letStampFall_X4_leavesMark rfl (by decide +kernel) ⟨rfl, rfl⟩ ⟨Nat.le_of_ble_eq_true rfl, Nat.le_of_ble_eq_true rfl⟩ hK hP hD hS hA (zpn _) rfl rfl rfl hl.1 rfl (Nat.le_of_ble_eq_true rfl) dX0_letStampFall_40 ⟨Nat.zero_le _, Nat.zero_le _⟩ (zpn' _) (fun H locs hP hD hS => ?_)
    refine lv_if_eq (tgt := 58) hx hb dX0_letStampFall_43 (by decide) (fun c_43 => ?_) (fun c_43 => ?_)
    · have E : (f_X0_letStampFall v p0) = (r_X0_letStampFall_40 v p0).2 := (if_pos c_8).trans ((if_pos c_43).trans rfl)
      have e2 : (ck g q (r_X0_letStampFall_40 v p0).2) = (ck g q (f_X0_letStampFall v p0)) := by rw [E]
      exact hret (ck g q (r_X0_letStampFall_40 v p0).2) _ _ _ _ dX0_letStampFall_58 e2 hP hD hS
    · refine lv_aload_n hx hb dX0_letStampFall_46 rfl (lv_at hl 0 rfl) ?_
      refine lv_dup hx hb dX0_letStampFall_47 rfl ?_
      refine va_get (D := g.1) (ci := 0) (v := .int ((r_X0_letStampFall_40 v p0).2.1 7)) (C := RX0) (T := TX0) (N := 13) hx hb hts (zin_X0_letStampFall_X0) hown hK hP 0 rfl rfl 5 (by decide) (hts (.fieldLink RX0 50 "PegClerks$Clerk" "formStamps" "I") (by decide +kernel)) (fun _ h9 => h9) rfl dX0_letStampFall_48 ?_
      refine lv_iconst (v := (1 : Int32)) hx hb dX0_letStampFall_51 (by decide) ?_
      refine lv_iload_n hx hb dX0_letStampFall_52 rfl (lv_at hl 1 rfl) ?_
      refine lv_ishl hx hb dX0_letStampFall_53 ?_
      refine lv_ior hx hb dX0_letStampFall_54 ?_
      refine va_put (D := g.1) (ci := 0) (v := .int (((r_X0_letStampFall_40 v p0).2.1 7) ||| ((1 : Int32) <<< (p0 &&& 31)))) (ty := .int) (C := RX0) (T := TX0) (N := 13) hx hb hts (zin_X0_letStampFall_X0) tyX0 tyX0_ok nmX0 hown hK hP hD hS 0 rfl rfl 5 (by decide) (hts (.fieldLink RX0 50 "PegClerks$Clerk" "formStamps" "I") (by decide +kernel)) (fun _ h9 => h9) rfl (by decide +kernel) rfl rfl (Nat.le_of_ble_eq_true rfl) dX0_letStampFall_55 (fun H locs hP hD hS => ?_)
      have hP : va_P g.1 vwCl (ck g q (s_X0_letStampFall_55 v p0)) H := (congrArg (fun z => va_P g.1 vwCl z H) (ck_S7 g q (r_X0_letStampFall_40 v p0).2 (((r_X0_letStampFall_40 v p0).2.1 7) ||| ((1 : Int32) <<< (p0 &&& 31))))).mp hP
      have hD : va_D A (ck g q (s_X0_letStampFall_55 v p0)) := (congrArg (fun z => va_D A z) (ck_S7 g q (r_X0_letStampFall_40 v p0).2 (((r_X0_letStampFall_40 v p0).2.1 7) ||| ((1 : Int32) <<< (p0 &&& 31))))).mp hD
      have E : (f_X0_letStampFall v p0) = (s_X0_letStampFall_55 v p0) := (if_pos c_8).trans ((if_neg c_43).trans rfl)
      have e2 : (ck g q (s_X0_letStampFall_55 v p0)) = (ck g q (f_X0_letStampFall v p0)) := by rw [E]
      exact hret (ck g q (s_X0_letStampFall_55 v p0)) _ _ _ _ dX0_letStampFall_58 e2 hP hD hS
  · refine lv_aload_n hx hb dX0_letStampFall_11 rfl (lv_at hl 0 rfl) ?_
    refine lv_iconst (v := (1 : Int32)) hx hb dX0_letStampFall_12 (by decide) ?_
    refine va_put (D := g.1) (ci := 0) (v := .int (1 : Int32)) (ty := .boolean) (C := RX0) (T := TX0) (N := 13) hx hb hts (zin_X0_letStampFall_X0) tyX0 tyX0_ok nmX0 hown hK hP hD hS 0 rfl rfl 6 (by decide) (hts (.fieldLink RX0 53 "PegClerks$Clerk" "formSpoiled" "Z") (by decide +kernel)) (fun _ h9 => h9) rfl (by decide +kernel) rfl rfl (Nat.le_of_ble_eq_true rfl) dX0_letStampFall_13 (fun H locs hP hD hS => ?_)
    have hP : va_P g.1 vwCl (ck g q (s_X0_letStampFall_13 v)) H := (congrArg (fun z => va_P g.1 vwCl z H) (ck_S8 g q v (1 : Int32))).mp hP
    have hD : va_D A (ck g q (s_X0_letStampFall_13 v)) := (congrArg (fun z => va_D A z) (ck_S8 g q v (1 : Int32))).mp hD
    refine lv_aload_n hx hb dX0_letStampFall_16 rfl (lv_at hl 0 rfl) ?_
    refine va_get (D := g.1) (ci := 0) (v := .ref (q 5)) (C := RX0) (T := TX0) (N := 13) hx hb hts (zin_X0_letStampFall_X0) hown hK hP 0 rfl rfl 2 (by decide) (hts (.fieldLink RX0 25 "PegClerks$Clerk" "stamps" "LPegClerks$Stamps;") (by decide +kernel)) (fun _ h9 => h9) rfl dX0_letStampFall_17 ?_
    refine va_get (D := g.1) (ci := 4) (v := .ref (q 9)) (C := RX4) (T := TX4) (N := 4) hx hb hts (zin_X0_letStampFall_X4) hown hK hP 5 rfl rfl 3 (by decide) (hts (.fieldLink RX0 109 "PegClerks$Stamps" "spoilings" "[I") (by decide +kernel)) (fun _ h9 => h9) rfl dX0_letStampFall_20 ?_
    refine lv_iload_n hx hb dX0_letStampFall_23 rfl (lv_at hl 1 rfl) ?_
    refine lv_dup2_11 hx hb dX0_letStampFall_24 rfl rfl ?_
    refine z_iald (f := ((s_X0_letStampFall_13 v).2 6)) (k := p0.toNatClampNeg) hx hb hK hP 9 0 rfl rfl h0 rfl dX0_letStampFall_25 ?_
    refine lv_iconst (v := (1 : Int32)) hx hb dX0_letStampFall_26 (by decide) ?_
    refine lv_iadd hx hb dX0_letStampFall_27 ?_
    refine z_iast (f := ((s_X0_letStampFall_13 v).2 6)) (k := p0.toNatClampNeg) hx hb hK hP hD hS 9 0 rfl rfl h0 rfl dX0_letStampFall_28 (fun H locs hP hD hS => ?_)
    have hP : va_P g.1 vwCl (ck g q (s_X0_letStampFall_28 v p0)) H := (congrArg (fun z => va_P g.1 vwCl z H) (ck_A6 g q (s_X0_letStampFall_13 v) (upd ((s_X0_letStampFall_13 v).2 6) p0.toNatClampNeg ((((s_X0_letStampFall_13 v).2 6) p0.toNatClampNeg) + (1 : Int32))))).mp hP
    have hD : va_D A (ck g q (s_X0_letStampFall_28 v p0)) := (congrArg (fun z => va_D A z) (ck_A6 g q (s_X0_letStampFall_13 v) (upd ((s_X0_letStampFall_13 v).2 6) p0.toNatClampNeg ((((s_X0_letStampFall_13 v).2 6) p0.toNatClampNeg) + (1 : Int32))))).mp hD
    refine lv_aload_n hx hb dX0_letStampFall_29 rfl (lv_at hl 0 rfl) ?_
    refine va_get (D := g.1) (ci := 0) (v := .ref (q 5)) (C := RX0) (T := TX0) (N := 13) hx hb hts (zin_X0_letStampFall_X0) hown hK hP 0 rfl rfl 2 (by decide) (hts (.fieldLink RX0 25 "PegClerks$Clerk" "stamps" "LPegClerks$Stamps;") (by decide +kernel)) (fun _ h9 => h9) rfl dX0_letStampFall_30 ?_
    refine lv_iload_n hx hb dX0_letStampFall_33 rfl (lv_at hl 1 rfl) ?_
    refine lv_aload_n hx hb dX0_letStampFall_34 rfl (lv_at hl 0 rfl) ?_
    refine va_get (D := g.1) (ci := 0) (v := .ref (q 1)) (C := RX0) (T := TX0) (N := 13) hx hb hts (zin_X0_letStampFall_X0) hown hK hP 0 rfl rfl 0 (by decide) (hts (.fieldLink RX0 9 "PegClerks$Clerk" "settings" "[I") (by decide +kernel)) (fun _ h9 => h9) rfl dX0_letStampFall_35 ?_
    refine lv_iconst (v := (1 : Int32)) hx hb dX0_letStampFall_38 (by decide) ?_
    refine z_iald (f := ((s_X0_letStampFall_28 v p0).2 0)) (k := 1) hx hb hK hP 1 0 rfl rfl (zlit (1 : Int32) 4 (by decide +kernel)) (by decide +kernel) dX0_letStampFall_39 ?_
    refine zcVi (n := 2) (As := [.int p0, .int (((s_X0_letStampFall_28 v p0).2 0) 1)]) (rest := []) (Xr := []) (Xn := (ck g q (r_X0_letStampFall_40_2 v p0).2)) (ci := 4) (C := RX4) (T := TX4) (N := 4) (q0 := 5) hx hb hml hown hts hN (m_X4_leavesMark l g q (s_X0_letStampFall_28 v p0) p0 (((s_X0_letStampFall_28 v p0).2 0) 1) h0) gX0_letStampFall_X4_leavesMark rfl (by decide +kernel) ⟨rfl, rfl⟩ ⟨Nat.le_of_ble_eq_true rfl, Nat.le_of_ble_eq_true rfl⟩ hK hP hD hS hA (zpn _) rfl rfl rfl hl.1 rfl (Nat.le_of_ble_eq_true rfl) dX0_letStampFall_40 ⟨Nat.zero_le _, Nat.zero_le _⟩ (zpn' _) (fun H locs hP hD hS => ?_)
    refine lv_if_eq (tgt := 58) hx hb dX0_letStampFall_43 (by decide) (fun c_43 => ?_) (fun c_43 => ?_)
    · have E : (f_X0_letStampFall v p0) = (r_X0_letStampFall_40_2 v p0).2 := (if_neg c_8).trans ((if_pos c_43).trans rfl)
      have e2 : (ck g q (r_X0_letStampFall_40_2 v p0).2) = (ck g q (f_X0_letStampFall v p0)) := by rw [E]
      exact hret (ck g q (r_X0_letStampFall_40_2 v p0).2) _ _ _ _ dX0_letStampFall_58 e2 hP hD hS
    · refine lv_aload_n hx hb dX0_letStampFall_46 rfl (lv_at hl 0 rfl) ?_
      refine lv_dup hx hb dX0_letStampFall_47 rfl ?_
      refine va_get (D := g.1) (ci := 0) (v := .int ((r_X0_letStampFall_40_2 v p0).2.1 7)) (C := RX0) (T := TX0) (N := 13) hx hb hts (zin_X0_letStampFall_X0) hown hK hP 0 rfl rfl 5 (by decide) (hts (.fieldLink RX0 50 "PegClerks$Clerk" "formStamps" "I") (by decide +kernel)) (fun _ h9 => h9) rfl dX0_letStampFall_48 ?_
      refine lv_iconst (v := (1 : Int32)) hx hb dX0_letStampFall_51 (by decide) ?_
      refine lv_iload_n hx hb dX0_letStampFall_52 rfl (lv_at hl 1 rfl) ?_
      refine lv_ishl hx hb dX0_letStampFall_53 ?_
      refine lv_ior hx hb dX0_letStampFall_54 ?_
      refine va_put (D := g.1) (ci := 0) (v := .int (((r_X0_letStampFall_40_2 v p0).2.1 7) ||| ((1 : Int32) <<< (p0 &&& 31)))) (ty := .int) (C := RX0) (T := TX0) (N := 13) hx hb hts (zin_X0_letStampFall_X0) tyX0 tyX0_ok nmX0 hown hK hP hD hS 0 rfl rfl 5 (by decide) (hts (.fieldLink RX0 50 "PegClerks$Clerk" "formStamps" "I") (by decide +kernel)) (fun _ h9 => h9) rfl (by decide +kernel) rfl rfl (Nat.le_of_ble_eq_true rfl) dX0_letStampFall_55 (fun H locs hP hD hS => ?_)
      have hP : va_P g.1 vwCl (ck g q (s_X0_letStampFall_55_2 v p0)) H := (congrArg (fun z => va_P g.1 vwCl z H) (ck_S7 g q (r_X0_letStampFall_40_2 v p0).2 (((r_X0_letStampFall_40_2 v p0).2.1 7) ||| ((1 : Int32) <<< (p0 &&& 31))))).mp hP
      have hD : va_D A (ck g q (s_X0_letStampFall_55_2 v p0)) := (congrArg (fun z => va_D A z) (ck_S7 g q (r_X0_letStampFall_40_2 v p0).2 (((r_X0_letStampFall_40_2 v p0).2.1 7) ||| ((1 : Int32) <<< (p0 &&& 31))))).mp hD
      have E : (f_X0_letStampFall v p0) = (s_X0_letStampFall_55_2 v p0) := (if_neg c_8).trans ((if_neg c_43).trans rfl)
      have e2 : (ck g q (s_X0_letStampFall_55_2 v p0)) = (ck g q (f_X0_letStampFall v p0)) := by rw [E]
      exact hret (ck g q (s_X0_letStampFall_55_2 v p0)) _ _ _ _ dX0_letStampFall_58 e2 hP hD hS
theorem eat_wear (v : zCV) (a b c : Int32) : (f_X1_wearPeg v a b c).1 4 = v.1 4 := by
  unfold f_X1_wearPeg
  repeat' split
  all_goals rfl
theorem eat_lsf (v : zCV) (a : Int32) : (f_X0_letStampFall v a).1 4 = v.1 4 := by
  have e1 : (r_X0_letStampFall_40 v a).2.1 4 = v.1 4 := by
    show (f_X4_leavesMark _ _ _).2.1 4 = _
    unfold f_X4_leavesMark
    split <;> rfl
  have e2 : (r_X0_letStampFall_40_2 v a).2.1 4 = v.1 4 := by
    show (f_X4_leavesMark _ _ _).2.1 4 = _
    unfold f_X4_leavesMark
    split <;> rfl
  unfold f_X0_letStampFall
  repeat' split
  all_goals first | exact e1 | exact e2
theorem zat_wear {v : zCV} {a b c : Int32} (h : vp_in (v.1 4) 16) : vp_in ((f_X1_wearPeg v a b c).1 4) 16 := by rw [eat_wear]; exact h
theorem zat_lsf {v : zCV} {a : Int32} (h : vp_in (v.1 4) 16) : vp_in ((f_X0_letStampFall v a).1 4) 16 := by rw [eat_lsf]; exact h
abbrev rm_X0_letStampsFall : Room := { frames := 2, cells := 0, slots := 0, locals := 43 }
set_option maxRecDepth 20000 in
theorem zin_X0_letStampsFall_X0 : ∀ w ∈ wsX00, w ∈ wsX0_letStampsFall := by decide +kernel
set_option maxRecDepth 20000 in
theorem zin_X0_letStampsFall_X1 : ∀ w ∈ wsX10, w ∈ wsX0_letStampsFall := by decide +kernel
def s_X0_letStampsFall_18 (i2 : Nat) (w2_0 : zCV) : zCV := (f_X0_letStampFall w2_0 (nI i2))
def s_X0_letStampsFall_39 (i2 : Nat) (w2_0 : zCV) : zCV := (f_X1_wearPeg (s_X0_letStampsFall_18 i2 w2_0) ((s_X0_letStampsFall_18 i2 w2_0).1 4) (nI i2) (((s_X0_letStampsFall_18 i2 w2_0).2 0) 2))
def f_X0_letStampsFall_L2 (p0 : Int32) : Nat → Nat → zCV → zCV
  | 0, i2, w2_0 => w2_0
  | n2 + 1, i2, w2_0 => if ((p0 >>> ((nI i2) &&& 31)) &&& (1 : Int32)) = (0 : Int32) then ((f_X0_letStampsFall_L2 p0 n2 (i2 + 1) w2_0)) else ((f_X0_letStampsFall_L2 p0 n2 (i2 + 1) (s_X0_letStampsFall_39 i2 w2_0)))
def f_X0_letStampsFall (v : zCV) (p0 : Int32) : zCV := (f_X0_letStampsFall_L2 p0 (zfu 6) 0 v)
set_option maxRecDepth 100000 in
set_option maxHeartbeats 4000000 in
theorem m_X0_letStampsFall (l : Launch) (g : zG) (q : Nat → Nat) (v : zCV) (p0 : Int32) (hat : vp_in (v.1 4) 16) : ZV l yX0_letStampsFall wsX0_letStampsFall rm_X0_letStampsFall g (ck g q v) [.ref (q 0), .int p0] (ck g q (f_X0_letStampsFall v p0)) := by
  refine zopenV (cc := cX0_letStampsFall) (maxL := 3) (by decide +kernel) rfl (Nat.le_of_ble_eq_true rfl) ?_
  intro p e s m below meth c A Q ls hx hb hml hown hts hP hK hD hA hN hl hret
  have hS : va_S A s.heap s.heap [] := va_S.rf
  have hl : lv_has ls 3 [(0, .ref (q 0)), (1, .int p0)] := hl
  have hown : s.vm.findClass RX0 = some m.cls := hown
  refine lv_iconst (v := (0 : Int32)) hx hb dX0_letStampsFall_0 (by decide) ?_
  refine lv_istore_n (lv' := [(2, .int (0 : Int32)), (0, .ref (q 0)), (1, .int p0)]) hx hb dX0_letStampsFall_1 rfl hl (by decide) rfl (fun ls hl => ?_)
  have L2 : ∀ (n2 : Nat) (i2 : Nat), i2 + n2 = 6 → ∀ (w2_0 : zCV) (H : Heap) (locs : List Loc) (ls : Array Slot), vp_in (w2_0.1 4) 16 → va_P g.1 vwCl (ck g q w2_0) H → va_D A (ck g q w2_0) → va_S A s.heap H locs → lv_has ls 3 [(2, .int (nI i2)), (0, .ref (q 0)), (1, .int p0)] → (∀ (H : Heap) (locs : List Loc) (ls : Array Slot), va_P g.1 vwCl (ck g q (f_X0_letStampsFall_L2 p0 n2 i2 w2_0)) H → va_D A (ck g q (f_X0_letStampsFall_L2 p0 n2 i2 w2_0)) → va_S A s.heap H locs → lv_has ls 3 [(0, .ref (q 0)), (1, .int p0)] → W p l e rm_X0_letStampsFall s m ([.ref (q 0), .int p0] : List Value).toArray below meth c H locs 0 0 Q (F0 m 48 ls [])) → W p l e rm_X0_letStampsFall s m ([.ref (q 0), .int p0] : List Value).toArray below meth c H locs 0 0 Q (F0 m 2 ls []) := by
    intro n2
    induction n2 with
    | zero =>
      intro i2 hin2 w2_0 H locs ls hat hP hD hS hl kx
      refine lv_iload_n hx hb dX0_letStampsFall_2 rfl (lv_at hl 0 rfl) ?_
      refine lv_bipush (v := (6 : Int32)) hx hb dX0_letStampsFall_3 (by decide) ?_
      refine lv_icmp_ge (tgt := 48) hx hb dX0_letStampsFall_5 (by decide) (fun c_5 => ?_) (fun c_5 => ?_)
      rotate_left
      · exact absurd (by rw [show i2 = 6 by omega]; decide) c_5
      have E : (f_X0_letStampsFall_L2 p0 0 i2 w2_0) = w2_0 := rfl
      rw [E] at kx
      exact kx _ _ _ hP hD hS (lv_sub hl [1, 2] rfl)
    | succ n2 ih2 =>
      intro i2 hin2 w2_0 H locs ls hat hP hD hS hl kx
      refine lv_iload_n hx hb dX0_letStampsFall_2 rfl (lv_at hl 0 rfl) ?_
      refine lv_bipush (v := (6 : Int32)) hx hb dX0_letStampsFall_3 (by decide) ?_
      refine lv_icmp_ge (tgt := 48) hx hb dX0_letStampsFall_5 (by decide) (fun c_5 => ?_) (fun c_5 => ?_)
      · exact absurd c_5 (nI_ge (a := i2) (b := 6) (by omega) (by omega))
      refine lv_iload_n hx hb dX0_letStampsFall_8 rfl (lv_at hl 2 rfl) ?_
      refine lv_iload_n hx hb dX0_letStampsFall_9 rfl (lv_at hl 0 rfl) ?_
      refine lv_ishr hx hb dX0_letStampsFall_10 ?_
      refine lv_iconst (v := (1 : Int32)) hx hb dX0_letStampsFall_11 (by decide) ?_
      refine lv_iand hx hb dX0_letStampsFall_12 ?_
      refine lv_if_eq (tgt := 42) hx hb dX0_letStampsFall_13 (by decide) (fun c_13 => ?_) (fun c_13 => ?_)
      · refine lv_iinc (v := (nI (i2 + 1))) (lv' := [(2, .int (nI (i2 + 1))), (0, .ref (q 0)), (1, .int p0)]) hx hb dX0_letStampsFall_42 hl (k := 0) rfl (nI_1 i2) (by decide) rfl (fun ls hl => ?_)
        refine lv_goto (tgt := 2) hx hb dX0_letStampsFall_45 (by decide) ?_
        have E : (f_X0_letStampsFall_L2 p0 (n2 + 1) i2 w2_0) = (f_X0_letStampsFall_L2 p0 n2 (i2 + 1) w2_0) := (if_pos c_13).trans rfl
        rw [E] at kx
        exact ih2 (i2 + 1) (by omega) w2_0 _ _ _ hat hP hD hS (lv_sub hl [0, 1, 2] rfl) kx
      · refine lv_aload_n hx hb dX0_letStampsFall_16 rfl (lv_at hl 1 rfl) ?_
        refine lv_iload_n hx hb dX0_letStampsFall_17 rfl (lv_at hl 0 rfl) ?_
        refine zcVv (n := 1) (As := [.int (nI i2)]) (rest := []) (Xr := []) (Xn := (ck g q (s_X0_letStampsFall_18 i2 w2_0))) (ci := 0) (C := RX0) (T := TX0) (N := 13) (q0 := 0) hx hb hml hown hts hN (m_X0_letStampFall l g q w2_0 (nI i2) (vp_in_nI (by omega) (by omega))) gX0_letStampsFall_X0_letStampFall rfl (by decide +kernel) ⟨rfl, rfl⟩ ⟨Nat.le_of_ble_eq_true rfl, Nat.le_of_ble_eq_true rfl⟩ hK hP hD hS hA (zpn _) rfl rfl rfl hl.1 rfl (Nat.le_of_ble_eq_true rfl) dX0_letStampsFall_18 ⟨Nat.zero_le _, Nat.zero_le _⟩ (zpn' _) (fun H locs hP hD hS => ?_)
        refine lv_aload_n hx hb dX0_letStampsFall_21 rfl (lv_at hl 1 rfl) ?_
        refine va_get (D := g.1) (ci := 0) (v := .ref (q 2)) (C := RX0) (T := TX0) (N := 13) hx hb hts (zin_X0_letStampsFall_X0) hown hK hP 0 rfl rfl 1 (by decide) (hts (.fieldLink RX0 18 "PegClerks$Clerk" "drum" "LPegClerks$Drum;") (by decide +kernel)) (fun _ h9 => h9) rfl dX0_letStampsFall_22 ?_
        refine lv_aload_n hx hb dX0_letStampsFall_25 rfl (lv_at hl 1 rfl) ?_
        refine va_get (D := g.1) (ci := 0) (v := .ref (q 2)) (C := RX0) (T := TX0) (N := 13) hx hb hts (zin_X0_letStampsFall_X0) hown hK hP 0 rfl rfl 1 (by decide) (hts (.fieldLink RX0 18 "PegClerks$Clerk" "drum" "LPegClerks$Drum;") (by decide +kernel)) (fun _ h9 => h9) rfl dX0_letStampsFall_26 ?_
        refine va_get (D := g.1) (ci := 1) (v := .int ((s_X0_letStampsFall_18 i2 w2_0).1 4)) (C := RX1) (T := TX1) (N := 4) hx hb hts (zin_X0_letStampsFall_X1) hown hK hP 2 rfl rfl 2 (by decide) (hts (.fieldLink RX0 82 "PegClerks$Drum" "at" "I") (by decide +kernel)) (fun _ h9 => h9) rfl dX0_letStampsFall_29 ?_
        refine lv_iload_n hx hb dX0_letStampsFall_32 rfl (lv_at hl 0 rfl) ?_
        refine lv_aload_n hx hb dX0_letStampsFall_33 rfl (lv_at hl 1 rfl) ?_
        refine va_get (D := g.1) (ci := 0) (v := .ref (q 1)) (C := RX0) (T := TX0) (N := 13) hx hb hts (zin_X0_letStampsFall_X0) hown hK hP 0 rfl rfl 0 (by decide) (hts (.fieldLink RX0 9 "PegClerks$Clerk" "settings" "[I") (by decide +kernel)) (fun _ h9 => h9) rfl dX0_letStampsFall_34 ?_
        refine lv_iconst (v := (2 : Int32)) hx hb dX0_letStampsFall_37 (by decide) ?_
        refine z_iald (f := ((s_X0_letStampsFall_18 i2 w2_0).2 0)) (k := 2) hx hb hK hP 1 0 rfl rfl (zlit (2 : Int32) 4 (by decide +kernel)) (by decide +kernel) dX0_letStampsFall_38 ?_
        refine zcVv (n := 3) (As := [.int ((s_X0_letStampsFall_18 i2 w2_0).1 4), .int (nI i2), .int (((s_X0_letStampsFall_18 i2 w2_0).2 0) 2)]) (rest := []) (Xr := []) (Xn := (ck g q (s_X0_letStampsFall_39 i2 w2_0))) (ci := 1) (C := RX1) (T := TX1) (N := 4) (q0 := 2) hx hb hml hown hts hN (m_X1_wearPeg l g q (s_X0_letStampsFall_18 i2 w2_0) ((s_X0_letStampsFall_18 i2 w2_0).1 4) (nI i2) (((s_X0_letStampsFall_18 i2 w2_0).2 0) 2) (zat_lsf hat) (vp_in_nI (by omega) (by omega))) gX0_letStampsFall_X1_wearPeg rfl (by decide +kernel) ⟨rfl, rfl⟩ ⟨Nat.le_of_ble_eq_true rfl, Nat.le_of_ble_eq_true rfl⟩ hK hP hD hS hA (zpn _) rfl rfl rfl hl.1 rfl (Nat.le_of_ble_eq_true rfl) dX0_letStampsFall_39 ⟨Nat.zero_le _, Nat.zero_le _⟩ (zpn' _) (fun H locs hP hD hS => ?_)
        refine lv_iinc (v := (nI (i2 + 1))) (lv' := [(2, .int (nI (i2 + 1))), (0, .ref (q 0)), (1, .int p0)]) hx hb dX0_letStampsFall_42 hl (k := 0) rfl (nI_1 i2) (by decide) rfl (fun ls hl => ?_)
        refine lv_goto (tgt := 2) hx hb dX0_letStampsFall_45 (by decide) ?_
        have E : (f_X0_letStampsFall_L2 p0 (n2 + 1) i2 w2_0) = (f_X0_letStampsFall_L2 p0 n2 (i2 + 1) (s_X0_letStampsFall_39 i2 w2_0)) := (if_neg c_13).trans rfl
        rw [E] at kx
        exact ih2 (i2 + 1) (by omega) (s_X0_letStampsFall_39 i2 w2_0) _ _ _ (zat_wear (zat_lsf hat)) hP hD hS (lv_sub hl [0, 1, 2] rfl) kx
  refine L2 (zfu 6) 0 (by rw [zfu_eq]) v _ _ _ hat hP hD hS (lv_sub hl [0, 1, 2] rfl) (fun H locs ls hP hD hS hl => ?_)
  have E : (f_X0_letStampsFall v p0) = (f_X0_letStampsFall_L2 p0 (zfu 6) 0 v) := rfl
  have e2 : (ck g q (f_X0_letStampsFall_L2 p0 (zfu 6) 0 v)) = (ck g q (f_X0_letStampsFall v p0)) := by rw [E]
  exact hret (ck g q (f_X0_letStampsFall_L2 p0 (zfu 6) 0 v)) _ _ _ _ dX0_letStampsFall_48 e2 hP hD hS
abbrev rm_X0_makeOneStep : Room := { frames := 3, cells := 0, slots := 0, locals := 65 }
set_option maxRecDepth 20000 in
theorem zin_X0_makeOneStep_X0 : ∀ w ∈ wsX00, w ∈ wsX0_makeOneStep := by decide +kernel
set_option maxRecDepth 20000 in
theorem zin_X0_makeOneStep_X1 : ∀ w ∈ wsX10, w ∈ wsX0_makeOneStep := by decide +kernel
def r_X0_makeOneStep_17 (v : zCV) : Int32 := (f_X0_wouldJamAt v (v.1 4))
def s_X0_makeOneStep_56 (v : zCV) : zCV := (f_X0_letStampsFall v ((v.2 1) (v.1 4).toNatClampNeg))
def s_X0_makeOneStep_63 (v : zCV) : zCV := (f_X1_goOn (s_X0_makeOneStep_56 v))
def s_X0_makeOneStep_73 (v : zCV) : zCV := zS (s_X0_makeOneStep_63 v) 10 (((s_X0_makeOneStep_63 v).1 10) + (1 : Int32))
def s_X0_makeOneStep_83 (v : zCV) : zCV := zS (s_X0_makeOneStep_73 v) 9 (((s_X0_makeOneStep_73 v).1 9) + (1 : Int32))
def s_X0_makeOneStep_100 (v : zCV) : zCV := (f_X0_finishForm (s_X0_makeOneStep_83 v))
def s_X0_makeOneStep_25 (v : zCV) : zCV := zS v 5 (1 : Int32)
def s_X0_makeOneStep_35 (v : zCV) : zCV := zS (s_X0_makeOneStep_25 v) 14 (((s_X0_makeOneStep_25 v).1 14) + (1 : Int32))
def f_X0_makeOneStep (v : zCV) : Int32 × zCV := if (v.1 5) = (0 : Int32) then (if (r_X0_makeOneStep_17 v) = (0 : Int32) then (if ((s_X0_makeOneStep_83 v).1 9) < (((s_X0_makeOneStep_83 v).2 0) 0) then (((1 : Int32), (s_X0_makeOneStep_83 v))) else (((1 : Int32), (s_X0_makeOneStep_100 v)))) else (((0 : Int32), (s_X0_makeOneStep_35 v)))) else (((0 : Int32), v))
set_option maxRecDepth 100000 in
set_option maxHeartbeats 4000000 in
theorem m_X0_makeOneStep (l : Launch) (g : zG) (q : Nat → Nat) (v : zCV) (hat : vp_in (v.1 4) 16) : ZI l yX0_makeOneStep wsX0_makeOneStep rm_X0_makeOneStep g (ck g q v) [.ref (q 0)] (f_X0_makeOneStep v).1 (ck g q (f_X0_makeOneStep v).2) := by
  refine zopenI (cc := cX0_makeOneStep) (maxL := 1) (ret := .boolean) (by decide +kernel) rfl (Nat.le_of_ble_eq_true rfl) ?_
  intro p e s m below meth c A Q ls hx hb hml hown hts hP hK hD hA hN hl hret
  have hS : va_S A s.heap s.heap [] := va_S.rf
  have hl : lv_has ls 1 [(0, .ref (q 0))] := hl
  have hown : s.vm.findClass RX0 = some m.cls := hown
  refine lv_aload_n hx hb dX0_makeOneStep_0 rfl (lv_at hl 0 rfl) ?_
  refine va_get (D := g.1) (ci := 0) (v := .int (v.1 5)) (C := RX0) (T := TX0) (N := 13) hx hb hts (zin_X0_makeOneStep_X0) hown hK hP 0 rfl rfl 3 (by decide) (hts (.fieldLink RX0 42 "PegClerks$Clerk" "jammed" "Z") (by decide +kernel)) (fun _ h9 => h9) rfl dX0_makeOneStep_1 ?_
  refine lv_if_eq (tgt := 9) hx hb dX0_makeOneStep_4 (by decide) (fun c_4 => ?_) (fun c_4 => ?_)
  · refine lv_aload_n hx hb dX0_makeOneStep_9 rfl (lv_at hl 0 rfl) ?_
    refine lv_aload_n hx hb dX0_makeOneStep_10 rfl (lv_at hl 0 rfl) ?_
    refine va_get (D := g.1) (ci := 0) (v := .ref (q 2)) (C := RX0) (T := TX0) (N := 13) hx hb hts (zin_X0_makeOneStep_X0) hown hK hP 0 rfl rfl 1 (by decide) (hts (.fieldLink RX0 18 "PegClerks$Clerk" "drum" "LPegClerks$Drum;") (by decide +kernel)) (fun _ h9 => h9) rfl dX0_makeOneStep_11 ?_
    refine va_get (D := g.1) (ci := 1) (v := .int (v.1 4)) (C := RX1) (T := TX1) (N := 4) hx hb hts (zin_X0_makeOneStep_X1) hown hK hP 2 rfl rfl 2 (by decide) (hts (.fieldLink RX0 82 "PegClerks$Drum" "at" "I") (by decide +kernel)) (fun _ h9 => h9) rfl dX0_makeOneStep_14 ?_
    refine zcVi (n := 1) (As := [.int (v.1 4)]) (rest := []) (Xr := []) (Xn := (ck g q v)) (ci := 0) (C := RX0) (T := TX0) (N := 13) (q0 := 0) hx hb hml hown hts hN (m_X0_wouldJamAt l g q v (v.1 4) hat) gX0_makeOneStep_X0_wouldJamAt rfl (by decide +kernel) ⟨rfl, rfl⟩ ⟨Nat.le_of_ble_eq_true rfl, Nat.le_of_ble_eq_true rfl⟩ hK hP hD hS hA (zpn _) rfl rfl rfl hl.1 rfl (Nat.le_of_ble_eq_true rfl) dX0_makeOneStep_17 ⟨Nat.zero_le _, Nat.zero_le _⟩ (zpn' _) (fun H locs hP hD hS => ?_)
    refine lv_if_eq (tgt := 40) hx hb dX0_makeOneStep_20 (by decide) (fun c_20 => ?_) (fun c_20 => ?_)
    · refine lv_aload_n hx hb dX0_makeOneStep_40 rfl (lv_at hl 0 rfl) ?_
      refine lv_aload_n hx hb dX0_makeOneStep_41 rfl (lv_at hl 0 rfl) ?_
      refine va_get (D := g.1) (ci := 0) (v := .ref (q 2)) (C := RX0) (T := TX0) (N := 13) hx hb hts (zin_X0_makeOneStep_X0) hown hK hP 0 rfl rfl 1 (by decide) (hts (.fieldLink RX0 18 "PegClerks$Clerk" "drum" "LPegClerks$Drum;") (by decide +kernel)) (fun _ h9 => h9) rfl dX0_makeOneStep_42 ?_
      refine va_get (D := g.1) (ci := 1) (v := .ref (q 3)) (C := RX1) (T := TX1) (N := 4) hx hb hts (zin_X0_makeOneStep_X1) hown hK hP 2 rfl rfl 0 (by decide) (hts (.fieldLink RX0 89 "PegClerks$Drum" "rows" "[I") (by decide +kernel)) (fun _ h9 => h9) rfl dX0_makeOneStep_45 ?_
      refine lv_aload_n hx hb dX0_makeOneStep_48 rfl (lv_at hl 0 rfl) ?_
      refine va_get (D := g.1) (ci := 0) (v := .ref (q 2)) (C := RX0) (T := TX0) (N := 13) hx hb hts (zin_X0_makeOneStep_X0) hown hK hP 0 rfl rfl 1 (by decide) (hts (.fieldLink RX0 18 "PegClerks$Clerk" "drum" "LPegClerks$Drum;") (by decide +kernel)) (fun _ h9 => h9) rfl dX0_makeOneStep_49 ?_
      refine va_get (D := g.1) (ci := 1) (v := .int (v.1 4)) (C := RX1) (T := TX1) (N := 4) hx hb hts (zin_X0_makeOneStep_X1) hown hK hP 2 rfl rfl 2 (by decide) (hts (.fieldLink RX0 82 "PegClerks$Drum" "at" "I") (by decide +kernel)) (fun _ h9 => h9) rfl dX0_makeOneStep_52 ?_
      refine z_iald (f := (v.2 1)) (k := (v.1 4).toNatClampNeg) hx hb hK hP 3 0 rfl rfl hat rfl dX0_makeOneStep_55 ?_
      refine zcVv (n := 1) (As := [.int ((v.2 1) (v.1 4).toNatClampNeg)]) (rest := []) (Xr := []) (Xn := (ck g q (s_X0_makeOneStep_56 v))) (ci := 0) (C := RX0) (T := TX0) (N := 13) (q0 := 0) hx hb hml hown hts hN (m_X0_letStampsFall l g q v ((v.2 1) (v.1 4).toNatClampNeg) hat) gX0_makeOneStep_X0_letStampsFall rfl (by decide +kernel) ⟨rfl, rfl⟩ ⟨Nat.le_of_ble_eq_true rfl, Nat.le_of_ble_eq_true rfl⟩ hK hP hD hS hA (zpn _) rfl rfl rfl hl.1 rfl (Nat.le_of_ble_eq_true rfl) dX0_makeOneStep_56 ⟨Nat.zero_le _, Nat.zero_le _⟩ (zpn' _) (fun H locs hP hD hS => ?_)
      refine lv_aload_n hx hb dX0_makeOneStep_59 rfl (lv_at hl 0 rfl) ?_
      refine va_get (D := g.1) (ci := 0) (v := .ref (q 2)) (C := RX0) (T := TX0) (N := 13) hx hb hts (zin_X0_makeOneStep_X0) hown hK hP 0 rfl rfl 1 (by decide) (hts (.fieldLink RX0 18 "PegClerks$Clerk" "drum" "LPegClerks$Drum;") (by decide +kernel)) (fun _ h9 => h9) rfl dX0_makeOneStep_60 ?_
      refine zcVv (n := 0) (As := []) (rest := []) (Xr := []) (Xn := (ck g q (s_X0_makeOneStep_63 v))) (ci := 1) (C := RX1) (T := TX1) (N := 4) (q0 := 2) hx hb hml hown hts hN (m_X1_goOn l g q (s_X0_makeOneStep_56 v) ) gX0_makeOneStep_X1_goOn rfl (by decide +kernel) ⟨rfl, rfl⟩ ⟨Nat.le_of_ble_eq_true rfl, Nat.le_of_ble_eq_true rfl⟩ hK hP hD hS hA (zpn _) rfl rfl rfl hl.1 rfl (Nat.le_of_ble_eq_true rfl) dX0_makeOneStep_63 ⟨Nat.zero_le _, Nat.zero_le _⟩ (zpn' _) (fun H locs hP hD hS => ?_)
      refine lv_aload_n hx hb dX0_makeOneStep_66 rfl (lv_at hl 0 rfl) ?_
      refine lv_dup hx hb dX0_makeOneStep_67 rfl ?_
      refine va_get (D := g.1) (ci := 0) (v := .int ((s_X0_makeOneStep_63 v).1 10)) (C := RX0) (T := TX0) (N := 13) hx hb hts (zin_X0_makeOneStep_X0) hown hK hP 0 rfl rfl 8 (by decide) (hts (.fieldLink RX0 59 "PegClerks$Clerk" "steps" "I") (by decide +kernel)) (fun _ h9 => h9) rfl dX0_makeOneStep_68 ?_
      refine lv_iconst (v := (1 : Int32)) hx hb dX0_makeOneStep_71 (by decide) ?_
      refine lv_iadd hx hb dX0_makeOneStep_72 ?_
      refine va_put (D := g.1) (ci := 0) (v := .int (((s_X0_makeOneStep_63 v).1 10) + (1 : Int32))) (ty := .int) (C := RX0) (T := TX0) (N := 13) hx hb hts (zin_X0_makeOneStep_X0) tyX0 tyX0_ok nmX0 hown hK hP hD hS 0 rfl rfl 8 (by decide) (hts (.fieldLink RX0 59 "PegClerks$Clerk" "steps" "I") (by decide +kernel)) (fun _ h9 => h9) rfl (by decide +kernel) rfl rfl (Nat.le_of_ble_eq_true rfl) dX0_makeOneStep_73 (fun H locs hP hD hS => ?_)
      have hP : va_P g.1 vwCl (ck g q (s_X0_makeOneStep_73 v)) H := (congrArg (fun z => va_P g.1 vwCl z H) (ck_S10 g q (s_X0_makeOneStep_63 v) (((s_X0_makeOneStep_63 v).1 10) + (1 : Int32)))).mp hP
      have hD : va_D A (ck g q (s_X0_makeOneStep_73 v)) := (congrArg (fun z => va_D A z) (ck_S10 g q (s_X0_makeOneStep_63 v) (((s_X0_makeOneStep_63 v).1 10) + (1 : Int32)))).mp hD
      refine lv_aload_n hx hb dX0_makeOneStep_76 rfl (lv_at hl 0 rfl) ?_
      refine lv_dup hx hb dX0_makeOneStep_77 rfl ?_
      refine va_get (D := g.1) (ci := 0) (v := .int ((s_X0_makeOneStep_73 v).1 9)) (C := RX0) (T := TX0) (N := 13) hx hb hts (zin_X0_makeOneStep_X0) hown hK hP 0 rfl rfl 7 (by decide) (hts (.fieldLink RX0 56 "PegClerks$Clerk" "formSteps" "I") (by decide +kernel)) (fun _ h9 => h9) rfl dX0_makeOneStep_78 ?_
      refine lv_iconst (v := (1 : Int32)) hx hb dX0_makeOneStep_81 (by decide) ?_
      refine lv_iadd hx hb dX0_makeOneStep_82 ?_
      refine va_put (D := g.1) (ci := 0) (v := .int (((s_X0_makeOneStep_73 v).1 9) + (1 : Int32))) (ty := .int) (C := RX0) (T := TX0) (N := 13) hx hb hts (zin_X0_makeOneStep_X0) tyX0 tyX0_ok nmX0 hown hK hP hD hS 0 rfl rfl 7 (by decide) (hts (.fieldLink RX0 56 "PegClerks$Clerk" "formSteps" "I") (by decide +kernel)) (fun _ h9 => h9) rfl (by decide +kernel) rfl rfl (Nat.le_of_ble_eq_true rfl) dX0_makeOneStep_83 (fun H locs hP hD hS => ?_)
      have hP : va_P g.1 vwCl (ck g q (s_X0_makeOneStep_83 v)) H := (congrArg (fun z => va_P g.1 vwCl z H) (ck_S9 g q (s_X0_makeOneStep_73 v) (((s_X0_makeOneStep_73 v).1 9) + (1 : Int32)))).mp hP
      have hD : va_D A (ck g q (s_X0_makeOneStep_83 v)) := (congrArg (fun z => va_D A z) (ck_S9 g q (s_X0_makeOneStep_73 v) (((s_X0_makeOneStep_73 v).1 9) + (1 : Int32)))).mp hD
      refine lv_aload_n hx hb dX0_makeOneStep_86 rfl (lv_at hl 0 rfl) ?_
      refine va_get (D := g.1) (ci := 0) (v := .int ((s_X0_makeOneStep_83 v).1 9)) (C := RX0) (T := TX0) (N := 13) hx hb hts (zin_X0_makeOneStep_X0) hown hK hP 0 rfl rfl 7 (by decide) (hts (.fieldLink RX0 56 "PegClerks$Clerk" "formSteps" "I") (by decide +kernel)) (fun _ h9 => h9) rfl dX0_makeOneStep_87 ?_
      refine lv_aload_n hx hb dX0_makeOneStep_90 rfl (lv_at hl 0 rfl) ?_
      refine va_get (D := g.1) (ci := 0) (v := .ref (q 1)) (C := RX0) (T := TX0) (N := 13) hx hb hts (zin_X0_makeOneStep_X0) hown hK hP 0 rfl rfl 0 (by decide) (hts (.fieldLink RX0 9 "PegClerks$Clerk" "settings" "[I") (by decide +kernel)) (fun _ h9 => h9) rfl dX0_makeOneStep_91 ?_
      refine lv_iconst (v := (0 : Int32)) hx hb dX0_makeOneStep_94 (by decide) ?_
      refine z_iald (f := ((s_X0_makeOneStep_83 v).2 0)) (k := 0) hx hb hK hP 1 0 rfl rfl (zlit (0 : Int32) 4 (by decide +kernel)) (by decide +kernel) dX0_makeOneStep_95 ?_
      refine lv_icmp_lt (tgt := 103) hx hb dX0_makeOneStep_96 (by decide) (fun c_96 => ?_) (fun c_96 => ?_)
      · refine lv_iconst (v := (1 : Int32)) hx hb dX0_makeOneStep_103 (by decide) ?_
        have E : (f_X0_makeOneStep v) = ((1 : Int32), (s_X0_makeOneStep_83 v)) := (if_pos c_4).trans ((if_pos c_20).trans ((if_pos c_96).trans rfl))
        have e1 : (1 : Int32) = (f_X0_makeOneStep v).1 := by rw [E]
        have e2 : (ck g q (s_X0_makeOneStep_83 v)) = (ck g q (f_X0_makeOneStep v).2) := by rw [E]
        exact hret (1 : Int32) (ck g q (s_X0_makeOneStep_83 v)) _ _ _ _ dX0_makeOneStep_104 e1 (rfl) e2 hP hD hS
      · refine lv_aload_n hx hb dX0_makeOneStep_99 rfl (lv_at hl 0 rfl) ?_
        refine zcVv (n := 0) (As := []) (rest := []) (Xr := []) (Xn := (ck g q (s_X0_makeOneStep_100 v))) (ci := 0) (C := RX0) (T := TX0) (N := 13) (q0 := 0) hx hb hml hown hts hN (m_X0_finishForm l g q (s_X0_makeOneStep_83 v) ) gX0_makeOneStep_X0_finishForm rfl (by decide +kernel) ⟨rfl, rfl⟩ ⟨Nat.le_of_ble_eq_true rfl, Nat.le_of_ble_eq_true rfl⟩ hK hP hD hS hA (zpn _) rfl rfl rfl hl.1 rfl (Nat.le_of_ble_eq_true rfl) dX0_makeOneStep_100 ⟨Nat.zero_le _, Nat.zero_le _⟩ (zpn' _) (fun H locs hP hD hS => ?_)
        refine lv_iconst (v := (1 : Int32)) hx hb dX0_makeOneStep_103 (by decide) ?_
        have E : (f_X0_makeOneStep v) = ((1 : Int32), (s_X0_makeOneStep_100 v)) := (if_pos c_4).trans ((if_pos c_20).trans ((if_neg c_96).trans rfl))
        have e1 : (1 : Int32) = (f_X0_makeOneStep v).1 := by rw [E]
        have e2 : (ck g q (s_X0_makeOneStep_100 v)) = (ck g q (f_X0_makeOneStep v).2) := by rw [E]
        exact hret (1 : Int32) (ck g q (s_X0_makeOneStep_100 v)) _ _ _ _ dX0_makeOneStep_104 e1 (rfl) e2 hP hD hS
    · refine lv_aload_n hx hb dX0_makeOneStep_23 rfl (lv_at hl 0 rfl) ?_
      refine lv_iconst (v := (1 : Int32)) hx hb dX0_makeOneStep_24 (by decide) ?_
      refine va_put (D := g.1) (ci := 0) (v := .int (1 : Int32)) (ty := .boolean) (C := RX0) (T := TX0) (N := 13) hx hb hts (zin_X0_makeOneStep_X0) tyX0 tyX0_ok nmX0 hown hK hP hD hS 0 rfl rfl 3 (by decide) (hts (.fieldLink RX0 42 "PegClerks$Clerk" "jammed" "Z") (by decide +kernel)) (fun _ h9 => h9) rfl (by decide +kernel) rfl rfl (Nat.le_of_ble_eq_true rfl) dX0_makeOneStep_25 (fun H locs hP hD hS => ?_)
      have hP : va_P g.1 vwCl (ck g q (s_X0_makeOneStep_25 v)) H := (congrArg (fun z => va_P g.1 vwCl z H) (ck_S5 g q v (1 : Int32))).mp hP
      have hD : va_D A (ck g q (s_X0_makeOneStep_25 v)) := (congrArg (fun z => va_D A z) (ck_S5 g q v (1 : Int32))).mp hD
      refine lv_aload_n hx hb dX0_makeOneStep_28 rfl (lv_at hl 0 rfl) ?_
      refine lv_dup hx hb dX0_makeOneStep_29 rfl ?_
      refine va_get (D := g.1) (ci := 0) (v := .int ((s_X0_makeOneStep_25 v).1 14)) (C := RX0) (T := TX0) (N := 13) hx hb hts (zin_X0_makeOneStep_X0) hown hK hP 0 rfl rfl 12 (by decide) (hts (.fieldLink RX0 71 "PegClerks$Clerk" "jams" "I") (by decide +kernel)) (fun _ h9 => h9) rfl dX0_makeOneStep_30 ?_
      refine lv_iconst (v := (1 : Int32)) hx hb dX0_makeOneStep_33 (by decide) ?_
      refine lv_iadd hx hb dX0_makeOneStep_34 ?_
      refine va_put (D := g.1) (ci := 0) (v := .int (((s_X0_makeOneStep_25 v).1 14) + (1 : Int32))) (ty := .int) (C := RX0) (T := TX0) (N := 13) hx hb hts (zin_X0_makeOneStep_X0) tyX0 tyX0_ok nmX0 hown hK hP hD hS 0 rfl rfl 12 (by decide) (hts (.fieldLink RX0 71 "PegClerks$Clerk" "jams" "I") (by decide +kernel)) (fun _ h9 => h9) rfl (by decide +kernel) rfl rfl (Nat.le_of_ble_eq_true rfl) dX0_makeOneStep_35 (fun H locs hP hD hS => ?_)
      have hP : va_P g.1 vwCl (ck g q (s_X0_makeOneStep_35 v)) H := (congrArg (fun z => va_P g.1 vwCl z H) (ck_S14 g q (s_X0_makeOneStep_25 v) (((s_X0_makeOneStep_25 v).1 14) + (1 : Int32)))).mp hP
      have hD : va_D A (ck g q (s_X0_makeOneStep_35 v)) := (congrArg (fun z => va_D A z) (ck_S14 g q (s_X0_makeOneStep_25 v) (((s_X0_makeOneStep_25 v).1 14) + (1 : Int32)))).mp hD
      refine lv_iconst (v := (0 : Int32)) hx hb dX0_makeOneStep_38 (by decide) ?_
      have E : (f_X0_makeOneStep v) = ((0 : Int32), (s_X0_makeOneStep_35 v)) := (if_pos c_4).trans ((if_neg c_20).trans rfl)
      have e1 : (0 : Int32) = (f_X0_makeOneStep v).1 := by rw [E]
      have e2 : (ck g q (s_X0_makeOneStep_35 v)) = (ck g q (f_X0_makeOneStep v).2) := by rw [E]
      exact hret (0 : Int32) (ck g q (s_X0_makeOneStep_35 v)) _ _ _ _ dX0_makeOneStep_39 e1 (rfl) e2 hP hD hS
  · refine lv_iconst (v := (0 : Int32)) hx hb dX0_makeOneStep_7 (by decide) ?_
    have E : (f_X0_makeOneStep v) = ((0 : Int32), v) := (if_neg c_4).trans rfl
    have e1 : (0 : Int32) = (f_X0_makeOneStep v).1 := by rw [E]
    have e2 : (ck g q v) = (ck g q (f_X0_makeOneStep v).2) := by rw [E]
    exact hret (0 : Int32) (ck g q v) _ _ _ _ dX0_makeOneStep_8 e1 (rfl) e2 hP hD hS
theorem zat_lsfL {p : Int32} : ∀ (n i : Nat) (w : zCV), (f_X0_letStampsFall_L2 p n i w).1 4 = w.1 4
  | 0, i, w => rfl
  | n + 1, i, w => by
    have e1 : (s_X0_letStampsFall_39 i w).1 4 = w.1 4 := (eat_wear _ _ _ _).trans (eat_lsf _ _)
    unfold f_X0_letStampsFall_L2
    split
    · exact zat_lsfL n (i + 1) w
    · rw [zat_lsfL n (i + 1), e1]
theorem zin_rb {x : Int32} (h : vp_in x 16) : vp_in (f_X1_rowBehind x) 16 := by
  obtain ⟨r, hr, rfl⟩ := vp_in_of h (by omega)
  unfold f_X1_rowBehind
  split
  · rename_i c
    have h1 : r < 15 := (nI_ltI (a := r) (b := 15) (by omega) (by omega)).mp c
    exact vp_in_iff.mpr (by rw [nI_1, nI_toInt (by omega)]; omega)
  · exact zlit _ 16 (by decide +kernel)
theorem eat_fin (v : zCV) : (f_X0_finishForm v).1 4 = v.1 4 := by
  unfold f_X0_finishForm
  repeat' split
  all_goals rfl
theorem zat_one {v : zCV} (h : vp_in (v.1 4) 16) : vp_in ((f_X0_makeOneStep v).2.1 4) 16 := by
  have e0 : (s_X0_makeOneStep_56 v).1 4 = v.1 4 := zat_lsfL _ _ _
  have e1 : vp_in ((s_X0_makeOneStep_83 v).1 4) 16 := by
    show vp_in (f_X1_rowBehind ((s_X0_makeOneStep_56 v).1 4)) 16
    rw [e0]; exact zin_rb h
  unfold f_X0_makeOneStep
  repeat' split
  all_goals first | exact h | exact e1 | (show vp_in ((f_X0_finishForm (s_X0_makeOneStep_83 v)).1 4) 16; rw [eat_fin]; exact e1)

abbrev rm_X0_makeSteps : Room := { frames := 4, cells := 0, slots := 0, locals := 85 }
def r_X0_makeSteps_8 (w2_0 : zCV) : Int32 × zCV := (f_X0_makeOneStep w2_0)
def f_X0_makeSteps_L2  : Nat → Nat → zCV → Int32 × zCV
  | 0, i2, w2_0 => ((nI i2), w2_0)
  | n2 + 1, i2, w2_0 => if ((r_X0_makeSteps_8 w2_0).1) = (0 : Int32) then (((nI i2), (r_X0_makeSteps_8 w2_0).2)) else ((f_X0_makeSteps_L2 n2 (i2 + 1) (r_X0_makeSteps_8 w2_0).2))
def f_X0_makeSteps (v : zCV) (p0 : Int32) : Int32 × zCV := ((f_X0_makeSteps_L2 (zfu p0.toNatClampNeg) 0 v).1, (f_X0_makeSteps_L2 (zfu p0.toNatClampNeg) 0 v).2)
set_option maxRecDepth 100000 in
set_option maxHeartbeats 4000000 in
theorem m_X0_makeSteps (l : Launch) (g : zG) (q : Nat → Nat) (v : zCV) (p0 : Int32) (hat : vp_in (v.1 4) 16) : ZI l yX0_makeSteps wsX0_makeSteps rm_X0_makeSteps g (ck g q v) [.ref (q 0), .int p0] (f_X0_makeSteps v p0).1 (ck g q (f_X0_makeSteps v p0).2) := by
  refine zopenI (cc := cX0_makeSteps) (maxL := 3) (ret := .int) (by decide +kernel) rfl (Nat.le_of_ble_eq_true rfl) ?_
  intro p e s m below meth c A Q ls hx hb hml hown hts hP hK hD hA hN hl hret
  have hS : va_S A s.heap s.heap [] := va_S.rf
  have hl : lv_has ls 3 [(0, .ref (q 0)), (1, .int p0)] := hl
  have hown : s.vm.findClass RX0 = some m.cls := hown
  refine lv_iconst (v := (0 : Int32)) hx hb dX0_makeSteps_0 (by decide) ?_
  refine lv_istore_n (lv' := [(2, .int (0 : Int32)), (0, .ref (q 0)), (1, .int p0)]) hx hb dX0_makeSteps_1 rfl hl (by decide) rfl (fun ls hl => ?_)
  have L2 : ∀ (n2 : Nat) (i2 : Nat), i2 + n2 = p0.toNatClampNeg → ∀ (w2_0 : zCV) (H : Heap) (locs : List Loc) (ls : Array Slot), vp_in (w2_0.1 4) 16 → va_P g.1 vwCl (ck g q w2_0) H → va_D A (ck g q w2_0) → va_S A s.heap H locs → lv_has ls 3 [(2, .int (nI i2)), (0, .ref (q 0)), (1, .int p0)] → (∀ (H : Heap) (locs : List Loc) (ls : Array Slot), va_P g.1 vwCl (ck g q (f_X0_makeSteps_L2 n2 i2 w2_0).2) H → va_D A (ck g q (f_X0_makeSteps_L2 n2 i2 w2_0).2) → va_S A s.heap H locs → lv_has ls 3 [(2, .int (f_X0_makeSteps_L2 n2 i2 w2_0).1), (0, .ref (q 0)), (1, .int p0)] → W p l e rm_X0_makeSteps s m ([.ref (q 0), .int p0] : List Value).toArray below meth c H locs 0 0 Q (F0 m 20 ls [])) → W p l e rm_X0_makeSteps s m ([.ref (q 0), .int p0] : List Value).toArray below meth c H locs 0 0 Q (F0 m 2 ls []) := by
    intro n2
    induction n2 with
    | zero =>
      intro i2 hin2 w2_0 H locs ls hat hP hD hS hl kx
      refine lv_iload_n hx hb dX0_makeSteps_2 rfl (lv_at hl 0 rfl) ?_
      refine lv_iload_n hx hb dX0_makeSteps_3 rfl (lv_at hl 2 rfl) ?_
      refine lv_icmp_ge (tgt := 20) hx hb dX0_makeSteps_4 (by decide) (fun c_4 => ?_) (fun c_4 => ?_)
      rotate_left
      · exact absurd (zge0 (by omega)) c_4
      have E : (f_X0_makeSteps_L2 0 i2 w2_0) = ((nI i2), w2_0) := rfl
      rw [E] at kx
      exact kx _ _ _ hP hD hS (lv_sub hl [0, 1, 2] rfl)
    | succ n2 ih2 =>
      intro i2 hin2 w2_0 H locs ls hat hP hD hS hl kx
      refine lv_iload_n hx hb dX0_makeSteps_2 rfl (lv_at hl 0 rfl) ?_
      refine lv_iload_n hx hb dX0_makeSteps_3 rfl (lv_at hl 2 rfl) ?_
      refine lv_icmp_ge (tgt := 20) hx hb dX0_makeSteps_4 (by decide) (fun c_4 => ?_) (fun c_4 => ?_)
      · exact absurd c_4 (zge1 (by omega))
      refine lv_aload_n hx hb dX0_makeSteps_7 rfl (lv_at hl 1 rfl) ?_
      refine zcVi (n := 0) (As := []) (rest := []) (Xr := []) (Xn := (ck g q (r_X0_makeSteps_8 w2_0).2)) (ci := 0) (C := RX0) (T := TX0) (N := 13) (q0 := 0) hx hb hml hown hts hN (m_X0_makeOneStep l g q w2_0 hat) gX0_makeSteps_X0_makeOneStep rfl (by decide +kernel) ⟨rfl, rfl⟩ ⟨Nat.le_of_ble_eq_true rfl, Nat.le_of_ble_eq_true rfl⟩ hK hP hD hS hA (zpn _) rfl rfl rfl hl.1 rfl (Nat.le_of_ble_eq_true rfl) dX0_makeSteps_8 ⟨Nat.zero_le _, Nat.zero_le _⟩ (zpn' _) (fun H locs hP hD hS => ?_)
      refine lv_if_eq (tgt := 20) hx hb dX0_makeSteps_11 (by decide) (fun c_11 => ?_) (fun c_11 => ?_)
      · have E : (f_X0_makeSteps_L2 (n2 + 1) i2 w2_0) = ((nI i2), (r_X0_makeSteps_8 w2_0).2) := (if_pos c_11).trans rfl
        rw [E] at kx
        exact kx _ _ _ hP hD hS (lv_sub hl [0, 1, 2] rfl)
      · refine lv_iinc (v := (nI (i2 + 1))) (lv' := [(2, .int (nI (i2 + 1))), (0, .ref (q 0)), (1, .int p0)]) hx hb dX0_makeSteps_14 hl (k := 0) rfl (nI_1 i2) (by decide) rfl (fun ls hl => ?_)
        refine lv_goto (tgt := 2) hx hb dX0_makeSteps_17 (by decide) ?_
        have E : (f_X0_makeSteps_L2 (n2 + 1) i2 w2_0) = (f_X0_makeSteps_L2 n2 (i2 + 1) (r_X0_makeSteps_8 w2_0).2) := (if_neg c_11).trans rfl
        rw [E] at kx
        exact ih2 (i2 + 1) (by omega) (r_X0_makeSteps_8 w2_0).2 _ _ _ (zat_one hat) hP hD hS (lv_sub hl [0, 1, 2] rfl) kx
  refine L2 (zfu p0.toNatClampNeg) 0 (by rw [zfu_eq]; omega) v _ _ _ hat hP hD hS (lv_sub hl [0, 1, 2] rfl) (fun H locs ls hP hD hS hl => ?_)
  refine lv_iload_n hx hb dX0_makeSteps_20 rfl (lv_at hl 0 rfl) ?_
  have E : (f_X0_makeSteps v p0) = ((f_X0_makeSteps_L2 (zfu p0.toNatClampNeg) 0 v).1, (f_X0_makeSteps_L2 (zfu p0.toNatClampNeg) 0 v).2) := rfl
  have e1 : (f_X0_makeSteps_L2 (zfu p0.toNatClampNeg) 0 v).1 = (f_X0_makeSteps v p0).1 := by rw [E]
  have e2 : (ck g q (f_X0_makeSteps_L2 (zfu p0.toNatClampNeg) 0 v).2) = (ck g q (f_X0_makeSteps v p0).2) := by rw [E]
  exact hret (f_X0_makeSteps_L2 (zfu p0.toNatClampNeg) 0 v).1 (ck g q (f_X0_makeSteps_L2 (zfu p0.toNatClampNeg) 0 v).2) _ _ _ _ dX0_makeSteps_21 e1 (rfl) e2 hP hD hS
