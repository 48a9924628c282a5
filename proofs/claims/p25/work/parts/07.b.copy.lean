abbrev rm_X1_copyFrom : Room := { frames := 1, cells := 0, slots := 0, locals := 22 }
set_option maxRecDepth 20000 in
theorem zin_X1_copyFrom_X1 : ∀ w ∈ wsX10, w ∈ wsX1_copyFrom := by decide +kernel
def s_X1_copyFrom_12 (v : zCV) (w : zCV) : zCV := zA v 1 (va_cpy (w.2 1) (v.2 1) 0 0 16)
def s_X1_copyFrom_27 (v : zCV) (w : zCV) : zCV := zA (s_X1_copyFrom_12 v w) 2 (va_cpy (w.2 2) ((s_X1_copyFrom_12 v w).2 2) 0 0 96)
def s_X1_copyFrom_35 (v : zCV) (w : zCV) : zCV := zS (s_X1_copyFrom_27 v w) 4 (w.1 4)
def s_X1_copyFrom_43 (v : zCV) (w : zCV) : zCV := zS (s_X1_copyFrom_35 v w) 15 (w.1 15)
def f_X1_copyFrom (v : zCV) (w : zCV) : zCV := (s_X1_copyFrom_43 v w)
set_option maxRecDepth 100000 in
set_option maxHeartbeats 4000000 in
theorem m_X1_copyFrom (l : Launch) (g : zG) (q : Nat → Nat) (v : zCV) (r : Nat → Nat) (w : zCV) : ZV l yX1_copyFrom wsX1_copyFrom rm_X1_copyFrom g ((ck g q v) ++ ((ck g r w))) [.ref (q 2), .ref (r 2)] ((ck g q (f_X1_copyFrom v w)) ++ ((ck g r w))) := by
  refine zopenV (cc := cX1_copyFrom) (maxL := 2) (by decide +kernel) rfl (Nat.le_of_ble_eq_true rfl) ?_
  intro p e s m below meth c A Q ls hx hb hml hown hts hP hK hD hA hN hl hret
  have hS : va_S A s.heap s.heap [] := va_S.rf
  have hl : lv_has ls 2 [(0, .ref (q 2)), (1, .ref (r 2))] := hl
  have hown : s.vm.findClass RX1 = some m.cls := hown
  refine lv_aload_n hx hb dX1_copyFrom_0 rfl (lv_at hl 1 rfl) ?_
  refine va_get (D := g.1) (ci := 1) (v := .ref (r 3)) (C := RX1) (T := TX1) (N := 4) hx hb hts (zin_X1_copyFrom_X1) hown hK hP 12 rfl rfl 0 (by decide) (hts (.fieldLink RX1 9 "PegClerks$Drum" "rows" "[I") (by decide +kernel)) (fun _ h9 => h9) rfl dX1_copyFrom_1 ?_
  refine lv_iconst (v := (0 : Int32)) hx hb dX1_copyFrom_4 (by decide) ?_
  refine lv_aload_n hx hb dX1_copyFrom_5 rfl (lv_at hl 0 rfl) ?_
  refine va_get (D := g.1) (ci := 1) (v := .ref (q 3)) (C := RX1) (T := TX1) (N := 4) hx hb hts (zin_X1_copyFrom_X1) hown hK hP 2 rfl rfl 0 (by decide) (hts (.fieldLink RX1 9 "PegClerks$Drum" "rows" "[I") (by decide +kernel)) (fun _ h9 => h9) rfl dX1_copyFrom_6 ?_
  refine lv_iconst (v := (0 : Int32)) hx hb dX1_copyFrom_9 (by decide) ?_
  refine lv_bipush (v := (16 : Int32)) hx hb dX1_copyFrom_10 (by decide) ?_
  refine z_copyi (N := 16) (f := (w.2 1)) (g := (v.2 1)) hx hb (hml.trans hl.1.symm) hown (hts (.methodLink RX1 18 arraycopyName) (by decide +kernel)) (hts (.native arraycopyName) (by decide +kernel)) (hts (.static arraycopyName) (by decide +kernel)) (hts (.initialized "java/lang/System") (by decide +kernel)) hK hP hD hS 13 3 0 rfl rfl rfl (by decide +kernel) (by decide) (Nat.le_of_ble_eq_true rfl) (Nat.le_of_ble_eq_true rfl) dX1_copyFrom_12 (fun H locs hP hD hS => ?_)
  have hP : va_P g.1 vwCl ((ck g q (s_X1_copyFrom_12 v w)) ++ ((ck g r w))) H := (congrArg (fun z => va_P g.1 vwCl z H) ((zsetL (n := 10) rfl (by decide)).trans (congrArg (fun z => z ++ (ck g r w)) (ck_A1 g q v (va_cpy (w.2 1) (v.2 1) 0 0 16))))).mp hP
  have hD : va_D A ((ck g q (s_X1_copyFrom_12 v w)) ++ ((ck g r w))) := (congrArg (fun z => va_D A z) ((zsetL (n := 10) rfl (by decide)).trans (congrArg (fun z => z ++ (ck g r w)) (ck_A1 g q v (va_cpy (w.2 1) (v.2 1) 0 0 16))))).mp hD
  refine lv_aload_n hx hb dX1_copyFrom_15 rfl (lv_at hl 1 rfl) ?_
  refine va_get (D := g.1) (ci := 1) (v := .ref (r 4)) (C := RX1) (T := TX1) (N := 4) hx hb hts (zin_X1_copyFrom_X1) hown hK hP 12 rfl rfl 1 (by decide) (hts (.fieldLink RX1 15 "PegClerks$Drum" "stampings" "[I") (by decide +kernel)) (fun _ h9 => h9) rfl dX1_copyFrom_16 ?_
  refine lv_iconst (v := (0 : Int32)) hx hb dX1_copyFrom_19 (by decide) ?_
  refine lv_aload_n hx hb dX1_copyFrom_20 rfl (lv_at hl 0 rfl) ?_
  refine va_get (D := g.1) (ci := 1) (v := .ref (q 4)) (C := RX1) (T := TX1) (N := 4) hx hb hts (zin_X1_copyFrom_X1) hown hK hP 2 rfl rfl 1 (by decide) (hts (.fieldLink RX1 15 "PegClerks$Drum" "stampings" "[I") (by decide +kernel)) (fun _ h9 => h9) rfl dX1_copyFrom_21 ?_
  refine lv_iconst (v := (0 : Int32)) hx hb dX1_copyFrom_24 (by decide) ?_
  refine lv_bipush (v := (96 : Int32)) hx hb dX1_copyFrom_25 (by decide) ?_
  refine z_copyi (N := 96) (f := (w.2 2)) (g := ((s_X1_copyFrom_12 v w).2 2)) hx hb (hml.trans hl.1.symm) hown (hts (.methodLink RX1 18 arraycopyName) (by decide +kernel)) (hts (.native arraycopyName) (by decide +kernel)) (hts (.static arraycopyName) (by decide +kernel)) (hts (.initialized "java/lang/System") (by decide +kernel)) hK hP hD hS 14 4 0 rfl rfl rfl (by decide +kernel) (by decide) (Nat.le_of_ble_eq_true rfl) (Nat.le_of_ble_eq_true rfl) dX1_copyFrom_27 (fun H locs hP hD hS => ?_)
  have hP : va_P g.1 vwCl ((ck g q (s_X1_copyFrom_27 v w)) ++ ((ck g r w))) H := (congrArg (fun z => va_P g.1 vwCl z H) ((zsetL (n := 10) rfl (by decide)).trans (congrArg (fun z => z ++ (ck g r w)) (ck_A2 g q (s_X1_copyFrom_12 v w) (va_cpy (w.2 2) ((s_X1_copyFrom_12 v w).2 2) 0 0 96))))).mp hP
  have hD : va_D A ((ck g q (s_X1_copyFrom_27 v w)) ++ ((ck g r w))) := (congrArg (fun z => va_D A z) ((zsetL (n := 10) rfl (by decide)).trans (congrArg (fun z => z ++ (ck g r w)) (ck_A2 g q (s_X1_copyFrom_12 v w) (va_cpy (w.2 2) ((s_X1_copyFrom_12 v w).2 2) 0 0 96))))).mp hD
  refine lv_aload_n hx hb dX1_copyFrom_30 rfl (lv_at hl 0 rfl) ?_
  refine lv_aload_n hx hb dX1_copyFrom_31 rfl (lv_at hl 1 rfl) ?_
  refine va_get (D := g.1) (ci := 1) (v := .int (w.1 4)) (C := RX1) (T := TX1) (N := 4) hx hb hts (zin_X1_copyFrom_X1) hown hK hP 12 rfl rfl 2 (by decide) (hts (.fieldLink RX1 24 "PegClerks$Drum" "at" "I") (by decide +kernel)) (fun _ h9 => h9) rfl dX1_copyFrom_32 ?_
  refine va_put (D := g.1) (ci := 1) (v := .int (w.1 4)) (ty := .int) (C := RX1) (T := TX1) (N := 4) hx hb hts (zin_X1_copyFrom_X1) tyX1 tyX1_ok nmX1 hown hK hP hD hS 2 rfl rfl 2 (by decide) (hts (.fieldLink RX1 24 "PegClerks$Drum" "at" "I") (by decide +kernel)) (fun _ h9 => h9) rfl (by decide +kernel) rfl rfl (Nat.le_of_ble_eq_true rfl) dX1_copyFrom_35 (fun H locs hP hD hS => ?_)
  have hP : va_P g.1 vwCl ((ck g q (s_X1_copyFrom_35 v w)) ++ ((ck g r w))) H := (congrArg (fun z => va_P g.1 vwCl z H) ((zsetL (n := 10) rfl (by decide)).trans (congrArg (fun z => z ++ (ck g r w)) (ck_S4 g q (s_X1_copyFrom_27 v w) (w.1 4))))).mp hP
  have hD : va_D A ((ck g q (s_X1_copyFrom_35 v w)) ++ ((ck g r w))) := (congrArg (fun z => va_D A z) ((zsetL (n := 10) rfl (by decide)).trans (congrArg (fun z => z ++ (ck g r w)) (ck_S4 g q (s_X1_copyFrom_27 v w) (w.1 4))))).mp hD
  refine lv_aload_n hx hb dX1_copyFrom_38 rfl (lv_at hl 0 rfl) ?_
  refine lv_aload_n hx hb dX1_copyFrom_39 rfl (lv_at hl 1 rfl) ?_
  refine va_get (D := g.1) (ci := 1) (v := .int (w.1 15)) (C := RX1) (T := TX1) (N := 4) hx hb hts (zin_X1_copyFrom_X1) hown hK hP 12 rfl rfl 3 (by decide) (hts (.fieldLink RX1 28 "PegClerks$Drum" "fallenOut" "I") (by decide +kernel)) (fun _ h9 => h9) rfl dX1_copyFrom_40 ?_
  refine va_put (D := g.1) (ci := 1) (v := .int (w.1 15)) (ty := .int) (C := RX1) (T := TX1) (N := 4) hx hb hts (zin_X1_copyFrom_X1) tyX1 tyX1_ok nmX1 hown hK hP hD hS 2 rfl rfl 3 (by decide) (hts (.fieldLink RX1 28 "PegClerks$Drum" "fallenOut" "I") (by decide +kernel)) (fun _ h9 => h9) rfl (by decide +kernel) rfl rfl (Nat.le_of_ble_eq_true rfl) dX1_copyFrom_43 (fun H locs hP hD hS => ?_)
  have hP : va_P g.1 vwCl ((ck g q (s_X1_copyFrom_43 v w)) ++ ((ck g r w))) H := (congrArg (fun z => va_P g.1 vwCl z H) ((zsetL (n := 10) rfl (by decide)).trans (congrArg (fun z => z ++ (ck g r w)) (ck_S15 g q (s_X1_copyFrom_35 v w) (w.1 15))))).mp hP
  have hD : va_D A ((ck g q (s_X1_copyFrom_43 v w)) ++ ((ck g r w))) := (congrArg (fun z => va_D A z) ((zsetL (n := 10) rfl (by decide)).trans (congrArg (fun z => z ++ (ck g r w)) (ck_S15 g q (s_X1_copyFrom_35 v w) (w.1 15))))).mp hD
  have E : (f_X1_copyFrom v w) = (s_X1_copyFrom_43 v w) := rfl
  have e2 : ((ck g q (s_X1_copyFrom_43 v w)) ++ ((ck g r w))) = ((ck g q (f_X1_copyFrom v w)) ++ ((ck g r w))) := by rw [E]
  exact hret ((ck g q (s_X1_copyFrom_43 v w)) ++ ((ck g r w))) _ _ _ _ dX1_copyFrom_46 e2 hP hD hS
abbrev rm_X4_copyFrom : Room := { frames := 1, cells := 0, slots := 0, locals := 22 }
set_option maxRecDepth 20000 in
theorem zin_X4_copyFrom_X4 : ∀ w ∈ wsX40, w ∈ wsX4_copyFrom := by decide +kernel
def s_X4_copyFrom_12 (v : zCV) (w : zCV) : zCV := zA v 3 (va_cpy (w.2 3) (v.2 3) 0 0 6)
def s_X4_copyFrom_27 (v : zCV) (w : zCV) : zCV := zA (s_X4_copyFrom_12 v w) 4 (va_cpy (w.2 4) ((s_X4_copyFrom_12 v w).2 4) 0 0 6)
def s_X4_copyFrom_42 (v : zCV) (w : zCV) : zCV := zA (s_X4_copyFrom_27 v w) 5 (va_cpy (w.2 5) ((s_X4_copyFrom_27 v w).2 5) 0 0 6)
def s_X4_copyFrom_57 (v : zCV) (w : zCV) : zCV := zA (s_X4_copyFrom_42 v w) 6 (va_cpy (w.2 6) ((s_X4_copyFrom_42 v w).2 6) 0 0 6)
def f_X4_copyFrom (v : zCV) (w : zCV) : zCV := (s_X4_copyFrom_57 v w)
set_option maxRecDepth 100000 in
set_option maxHeartbeats 4000000 in
theorem m_X4_copyFrom (l : Launch) (g : zG) (q : Nat → Nat) (v : zCV) (r : Nat → Nat) (w : zCV) : ZV l yX4_copyFrom wsX4_copyFrom rm_X4_copyFrom g ((ck g q v) ++ ((ck g r w))) [.ref (q 5), .ref (r 5)] ((ck g q (f_X4_copyFrom v w)) ++ ((ck g r w))) := by
  refine zopenV (cc := cX4_copyFrom) (maxL := 2) (by decide +kernel) rfl (Nat.le_of_ble_eq_true rfl) ?_
  intro p e s m below meth c A Q ls hx hb hml hown hts hP hK hD hA hN hl hret
  have hS : va_S A s.heap s.heap [] := va_S.rf
  have hl : lv_has ls 2 [(0, .ref (q 5)), (1, .ref (r 5))] := hl
  have hown : s.vm.findClass RX4 = some m.cls := hown
  refine lv_aload_n hx hb dX4_copyFrom_0 rfl (lv_at hl 1 rfl) ?_
  refine va_get (D := g.1) (ci := 4) (v := .ref (r 6)) (C := RX4) (T := TX4) (N := 4) hx hb hts (zin_X4_copyFrom_X4) hown hK hP 15 rfl rfl 0 (by decide) (hts (.fieldLink RX4 9 "PegClerks$Stamps" "inks" "[I") (by decide +kernel)) (fun _ h9 => h9) rfl dX4_copyFrom_1 ?_
  refine lv_iconst (v := (0 : Int32)) hx hb dX4_copyFrom_4 (by decide) ?_
  refine lv_aload_n hx hb dX4_copyFrom_5 rfl (lv_at hl 0 rfl) ?_
  refine va_get (D := g.1) (ci := 4) (v := .ref (q 6)) (C := RX4) (T := TX4) (N := 4) hx hb hts (zin_X4_copyFrom_X4) hown hK hP 5 rfl rfl 0 (by decide) (hts (.fieldLink RX4 9 "PegClerks$Stamps" "inks" "[I") (by decide +kernel)) (fun _ h9 => h9) rfl dX4_copyFrom_6 ?_
  refine lv_iconst (v := (0 : Int32)) hx hb dX4_copyFrom_9 (by decide) ?_
  refine lv_bipush (v := (6 : Int32)) hx hb dX4_copyFrom_10 (by decide) ?_
  refine z_copyi (N := 6) (f := (w.2 3)) (g := (v.2 3)) hx hb (hml.trans hl.1.symm) hown (hts (.methodLink RX4 24 arraycopyName) (by decide +kernel)) (hts (.native arraycopyName) (by decide +kernel)) (hts (.static arraycopyName) (by decide +kernel)) (hts (.initialized "java/lang/System") (by decide +kernel)) hK hP hD hS 16 6 0 rfl rfl rfl (by decide +kernel) (by decide) (Nat.le_of_ble_eq_true rfl) (Nat.le_of_ble_eq_true rfl) dX4_copyFrom_12 (fun H locs hP hD hS => ?_)
  have hP : va_P g.1 vwCl ((ck g q (s_X4_copyFrom_12 v w)) ++ ((ck g r w))) H := (congrArg (fun z => va_P g.1 vwCl z H) ((zsetL (n := 10) rfl (by decide)).trans (congrArg (fun z => z ++ (ck g r w)) (ck_A3 g q v (va_cpy (w.2 3) (v.2 3) 0 0 6))))).mp hP
  have hD : va_D A ((ck g q (s_X4_copyFrom_12 v w)) ++ ((ck g r w))) := (congrArg (fun z => va_D A z) ((zsetL (n := 10) rfl (by decide)).trans (congrArg (fun z => z ++ (ck g r w)) (ck_A3 g q v (va_cpy (w.2 3) (v.2 3) 0 0 6))))).mp hD
  refine lv_aload_n hx hb dX4_copyFrom_15 rfl (lv_at hl 1 rfl) ?_
  refine va_get (D := g.1) (ci := 4) (v := .ref (r 7)) (C := RX4) (T := TX4) (N := 4) hx hb hts (zin_X4_copyFrom_X4) hown hK hP 15 rfl rfl 1 (by decide) (hts (.fieldLink RX4 15 "PegClerks$Stamps" "marks" "[I") (by decide +kernel)) (fun _ h9 => h9) rfl dX4_copyFrom_16 ?_
  refine lv_iconst (v := (0 : Int32)) hx hb dX4_copyFrom_19 (by decide) ?_
  refine lv_aload_n hx hb dX4_copyFrom_20 rfl (lv_at hl 0 rfl) ?_
  refine va_get (D := g.1) (ci := 4) (v := .ref (q 7)) (C := RX4) (T := TX4) (N := 4) hx hb hts (zin_X4_copyFrom_X4) hown hK hP 5 rfl rfl 1 (by decide) (hts (.fieldLink RX4 15 "PegClerks$Stamps" "marks" "[I") (by decide +kernel)) (fun _ h9 => h9) rfl dX4_copyFrom_21 ?_
  refine lv_iconst (v := (0 : Int32)) hx hb dX4_copyFrom_24 (by decide) ?_
  refine lv_bipush (v := (6 : Int32)) hx hb dX4_copyFrom_25 (by decide) ?_
  refine z_copyi (N := 6) (f := (w.2 4)) (g := ((s_X4_copyFrom_12 v w).2 4)) hx hb (hml.trans hl.1.symm) hown (hts (.methodLink RX4 24 arraycopyName) (by decide +kernel)) (hts (.native arraycopyName) (by decide +kernel)) (hts (.static arraycopyName) (by decide +kernel)) (hts (.initialized "java/lang/System") (by decide +kernel)) hK hP hD hS 17 7 0 rfl rfl rfl (by decide +kernel) (by decide) (Nat.le_of_ble_eq_true rfl) (Nat.le_of_ble_eq_true rfl) dX4_copyFrom_27 (fun H locs hP hD hS => ?_)
  have hP : va_P g.1 vwCl ((ck g q (s_X4_copyFrom_27 v w)) ++ ((ck g r w))) H := (congrArg (fun z => va_P g.1 vwCl z H) ((zsetL (n := 10) rfl (by decide)).trans (congrArg (fun z => z ++ (ck g r w)) (ck_A4 g q (s_X4_copyFrom_12 v w) (va_cpy (w.2 4) ((s_X4_copyFrom_12 v w).2 4) 0 0 6))))).mp hP
  have hD : va_D A ((ck g q (s_X4_copyFrom_27 v w)) ++ ((ck g r w))) := (congrArg (fun z => va_D A z) ((zsetL (n := 10) rfl (by decide)).trans (congrArg (fun z => z ++ (ck g r w)) (ck_A4 g q (s_X4_copyFrom_12 v w) (va_cpy (w.2 4) ((s_X4_copyFrom_12 v w).2 4) 0 0 6))))).mp hD
  refine lv_aload_n hx hb dX4_copyFrom_30 rfl (lv_at hl 1 rfl) ?_
  refine va_get (D := g.1) (ci := 4) (v := .ref (r 8)) (C := RX4) (T := TX4) (N := 4) hx hb hts (zin_X4_copyFrom_X4) hown hK hP 15 rfl rfl 2 (by decide) (hts (.fieldLink RX4 18 "PegClerks$Stamps" "dryFalls" "[I") (by decide +kernel)) (fun _ h9 => h9) rfl dX4_copyFrom_31 ?_
  refine lv_iconst (v := (0 : Int32)) hx hb dX4_copyFrom_34 (by decide) ?_
  refine lv_aload_n hx hb dX4_copyFrom_35 rfl (lv_at hl 0 rfl) ?_
  refine va_get (D := g.1) (ci := 4) (v := .ref (q 8)) (C := RX4) (T := TX4) (N := 4) hx hb hts (zin_X4_copyFrom_X4) hown hK hP 5 rfl rfl 2 (by decide) (hts (.fieldLink RX4 18 "PegClerks$Stamps" "dryFalls" "[I") (by decide +kernel)) (fun _ h9 => h9) rfl dX4_copyFrom_36 ?_
  refine lv_iconst (v := (0 : Int32)) hx hb dX4_copyFrom_39 (by decide) ?_
  refine lv_bipush (v := (6 : Int32)) hx hb dX4_copyFrom_40 (by decide) ?_
  refine z_copyi (N := 6) (f := (w.2 5)) (g := ((s_X4_copyFrom_27 v w).2 5)) hx hb (hml.trans hl.1.symm) hown (hts (.methodLink RX4 24 arraycopyName) (by decide +kernel)) (hts (.native arraycopyName) (by decide +kernel)) (hts (.static arraycopyName) (by decide +kernel)) (hts (.initialized "java/lang/System") (by decide +kernel)) hK hP hD hS 18 8 0 rfl rfl rfl (by decide +kernel) (by decide) (Nat.le_of_ble_eq_true rfl) (Nat.le_of_ble_eq_true rfl) dX4_copyFrom_42 (fun H locs hP hD hS => ?_)
  have hP : va_P g.1 vwCl ((ck g q (s_X4_copyFrom_42 v w)) ++ ((ck g r w))) H := (congrArg (fun z => va_P g.1 vwCl z H) ((zsetL (n := 10) rfl (by decide)).trans (congrArg (fun z => z ++ (ck g r w)) (ck_A5 g q (s_X4_copyFrom_27 v w) (va_cpy (w.2 5) ((s_X4_copyFrom_27 v w).2 5) 0 0 6))))).mp hP
  have hD : va_D A ((ck g q (s_X4_copyFrom_42 v w)) ++ ((ck g r w))) := (congrArg (fun z => va_D A z) ((zsetL (n := 10) rfl (by decide)).trans (congrArg (fun z => z ++ (ck g r w)) (ck_A5 g q (s_X4_copyFrom_27 v w) (va_cpy (w.2 5) ((s_X4_copyFrom_27 v w).2 5) 0 0 6))))).mp hD
  refine lv_aload_n hx hb dX4_copyFrom_45 rfl (lv_at hl 1 rfl) ?_
  refine va_get (D := g.1) (ci := 4) (v := .ref (r 9)) (C := RX4) (T := TX4) (N := 4) hx hb hts (zin_X4_copyFrom_X4) hown hK hP 15 rfl rfl 3 (by decide) (hts (.fieldLink RX4 21 "PegClerks$Stamps" "spoilings" "[I") (by decide +kernel)) (fun _ h9 => h9) rfl dX4_copyFrom_46 ?_
  refine lv_iconst (v := (0 : Int32)) hx hb dX4_copyFrom_49 (by decide) ?_
  refine lv_aload_n hx hb dX4_copyFrom_50 rfl (lv_at hl 0 rfl) ?_
  refine va_get (D := g.1) (ci := 4) (v := .ref (q 9)) (C := RX4) (T := TX4) (N := 4) hx hb hts (zin_X4_copyFrom_X4) hown hK hP 5 rfl rfl 3 (by decide) (hts (.fieldLink RX4 21 "PegClerks$Stamps" "spoilings" "[I") (by decide +kernel)) (fun _ h9 => h9) rfl dX4_copyFrom_51 ?_
  refine lv_iconst (v := (0 : Int32)) hx hb dX4_copyFrom_54 (by decide) ?_
  refine lv_bipush (v := (6 : Int32)) hx hb dX4_copyFrom_55 (by decide) ?_
  refine z_copyi (N := 6) (f := (w.2 6)) (g := ((s_X4_copyFrom_42 v w).2 6)) hx hb (hml.trans hl.1.symm) hown (hts (.methodLink RX4 24 arraycopyName) (by decide +kernel)) (hts (.native arraycopyName) (by decide +kernel)) (hts (.static arraycopyName) (by decide +kernel)) (hts (.initialized "java/lang/System") (by decide +kernel)) hK hP hD hS 19 9 0 rfl rfl rfl (by decide +kernel) (by decide) (Nat.le_of_ble_eq_true rfl) (Nat.le_of_ble_eq_true rfl) dX4_copyFrom_57 (fun H locs hP hD hS => ?_)
  have hP : va_P g.1 vwCl ((ck g q (s_X4_copyFrom_57 v w)) ++ ((ck g r w))) H := (congrArg (fun z => va_P g.1 vwCl z H) ((zsetL (n := 10) rfl (by decide)).trans (congrArg (fun z => z ++ (ck g r w)) (ck_A6 g q (s_X4_copyFrom_42 v w) (va_cpy (w.2 6) ((s_X4_copyFrom_42 v w).2 6) 0 0 6))))).mp hP
  have hD : va_D A ((ck g q (s_X4_copyFrom_57 v w)) ++ ((ck g r w))) := (congrArg (fun z => va_D A z) ((zsetL (n := 10) rfl (by decide)).trans (congrArg (fun z => z ++ (ck g r w)) (ck_A6 g q (s_X4_copyFrom_42 v w) (va_cpy (w.2 6) ((s_X4_copyFrom_42 v w).2 6) 0 0 6))))).mp hD
  have E : (f_X4_copyFrom v w) = (s_X4_copyFrom_57 v w) := rfl
  have e2 : ((ck g q (s_X4_copyFrom_57 v w)) ++ ((ck g r w))) = ((ck g q (f_X4_copyFrom v w)) ++ ((ck g r w))) := by rw [E]
  exact hret ((ck g q (s_X4_copyFrom_57 v w)) ++ ((ck g r w))) _ _ _ _ dX4_copyFrom_60 e2 hP hD hS
theorem znarb {x : Int32} (h : x = 0 ∨ x = 1) : narrow .boolean (.int x) = .int x := by rcases h with rfl | rfl <;> rfl
theorem zfitb {x : Int32} (h : x = 0 ∨ x = 1) : fits .boolean (.int x) = true := by rcases h with rfl | rfl <;> rfl
abbrev rm_X0_copyFrom : Room := { frames := 2, cells := 0, slots := 0, locals := 43 }
set_option maxRecDepth 20000 in
theorem zin_X0_copyFrom_X0 : ∀ w ∈ wsX00, w ∈ wsX0_copyFrom := by decide +kernel
def s_X0_copyFrom_11 (v : zCV) (w : zCV) : zCV := zA v 0 (va_cpy (w.2 0) (v.2 0) 0 0 4)
def s_X0_copyFrom_22 (v : zCV) (w : zCV) : zCV := (f_X1_copyFrom (s_X0_copyFrom_11 v w) w)
def s_X0_copyFrom_33 (v : zCV) (w : zCV) : zCV := (f_X4_copyFrom (s_X0_copyFrom_22 v w) w)
def s_X0_copyFrom_41 (v : zCV) (w : zCV) : zCV := zS (s_X0_copyFrom_33 v w) 5 (w.1 5)
def s_X0_copyFrom_49 (v : zCV) (w : zCV) : zCV := zS (s_X0_copyFrom_41 v w) 6 (w.1 6)
def s_X0_copyFrom_57 (v : zCV) (w : zCV) : zCV := zS (s_X0_copyFrom_49 v w) 7 (w.1 7)
def s_X0_copyFrom_65 (v : zCV) (w : zCV) : zCV := zS (s_X0_copyFrom_57 v w) 8 (w.1 8)
def s_X0_copyFrom_73 (v : zCV) (w : zCV) : zCV := zS (s_X0_copyFrom_65 v w) 9 (w.1 9)
def s_X0_copyFrom_81 (v : zCV) (w : zCV) : zCV := zS (s_X0_copyFrom_73 v w) 10 (w.1 10)
def s_X0_copyFrom_89 (v : zCV) (w : zCV) : zCV := zS (s_X0_copyFrom_81 v w) 11 (w.1 11)
def s_X0_copyFrom_97 (v : zCV) (w : zCV) : zCV := zS (s_X0_copyFrom_89 v w) 12 (w.1 12)
def s_X0_copyFrom_105 (v : zCV) (w : zCV) : zCV := zS (s_X0_copyFrom_97 v w) 13 (w.1 13)
def s_X0_copyFrom_113 (v : zCV) (w : zCV) : zCV := zS (s_X0_copyFrom_105 v w) 14 (w.1 14)
def f_X0_copyFrom (v : zCV) (w : zCV) : zCV := (s_X0_copyFrom_113 v w)
set_option maxRecDepth 100000 in
set_option maxHeartbeats 4000000 in
theorem m_X0_copyFrom (l : Launch) (g : zG) (q : Nat → Nat) (v : zCV) (r : Nat → Nat) (w : zCV) (hj : w.1 5 = 0 ∨ w.1 5 = 1) (hf : w.1 8 = 0 ∨ w.1 8 = 1) : ZV l yX0_copyFrom wsX0_copyFrom rm_X0_copyFrom g ((ck g q v) ++ ((ck g r w))) [.ref (q 0), .ref (r 0)] ((ck g q (f_X0_copyFrom v w)) ++ ((ck g r w))) := by
  refine zopenV (cc := cX0_copyFrom) (maxL := 2) (by decide +kernel) rfl (Nat.le_of_ble_eq_true rfl) ?_
  intro p e s m below meth c A Q ls hx hb hml hown hts hP hK hD hA hN hl hret
  have hS : va_S A s.heap s.heap [] := va_S.rf
  have hl : lv_has ls 2 [(0, .ref (q 0)), (1, .ref (r 0))] := hl
  have hown : s.vm.findClass RX0 = some m.cls := hown
  refine lv_aload_n hx hb dX0_copyFrom_0 rfl (lv_at hl 1 rfl) ?_
  refine va_get (D := g.1) (ci := 0) (v := .ref (r 1)) (C := RX0) (T := TX0) (N := 13) hx hb hts (zin_X0_copyFrom_X0) hown hK hP 10 rfl rfl 0 (by decide) (hts (.fieldLink RX0 9 "PegClerks$Clerk" "settings" "[I") (by decide +kernel)) (fun _ h9 => h9) rfl dX0_copyFrom_1 ?_
  refine lv_iconst (v := (0 : Int32)) hx hb dX0_copyFrom_4 (by decide) ?_
  refine lv_aload_n hx hb dX0_copyFrom_5 rfl (lv_at hl 0 rfl) ?_
  refine va_get (D := g.1) (ci := 0) (v := .ref (q 1)) (C := RX0) (T := TX0) (N := 13) hx hb hts (zin_X0_copyFrom_X0) hown hK hP 0 rfl rfl 0 (by decide) (hts (.fieldLink RX0 9 "PegClerks$Clerk" "settings" "[I") (by decide +kernel)) (fun _ h9 => h9) rfl dX0_copyFrom_6 ?_
  refine lv_iconst (v := (0 : Int32)) hx hb dX0_copyFrom_9 (by decide) ?_
  refine lv_iconst (v := (4 : Int32)) hx hb dX0_copyFrom_10 (by decide) ?_
  refine z_copyi (N := 4) (f := (w.2 0)) (g := (v.2 0)) hx hb (hml.trans hl.1.symm) hown (hts (.methodLink RX0 29 arraycopyName) (by decide +kernel)) (hts (.native arraycopyName) (by decide +kernel)) (hts (.static arraycopyName) (by decide +kernel)) (hts (.initialized "java/lang/System") (by decide +kernel)) hK hP hD hS 11 1 0 rfl rfl rfl (by decide +kernel) (by decide) (Nat.le_of_ble_eq_true rfl) (Nat.le_of_ble_eq_true rfl) dX0_copyFrom_11 (fun H locs hP hD hS => ?_)
  have hP : va_P g.1 vwCl ((ck g q (s_X0_copyFrom_11 v w)) ++ ((ck g r w))) H := (congrArg (fun z => va_P g.1 vwCl z H) ((zsetL (n := 10) rfl (by decide)).trans (congrArg (fun z => z ++ (ck g r w)) (ck_A0 g q v (va_cpy (w.2 0) (v.2 0) 0 0 4))))).mp hP
  have hD : va_D A ((ck g q (s_X0_copyFrom_11 v w)) ++ ((ck g r w))) := (congrArg (fun z => va_D A z) ((zsetL (n := 10) rfl (by decide)).trans (congrArg (fun z => z ++ (ck g r w)) (ck_A0 g q v (va_cpy (w.2 0) (v.2 0) 0 0 4))))).mp hD
  refine lv_aload_n hx hb dX0_copyFrom_14 rfl (lv_at hl 0 rfl) ?_
  refine va_get (D := g.1) (ci := 0) (v := .ref (q 2)) (C := RX0) (T := TX0) (N := 13) hx hb hts (zin_X0_copyFrom_X0) hown hK hP 0 rfl rfl 1 (by decide) (hts (.fieldLink RX0 18 "PegClerks$Clerk" "drum" "LPegClerks$Drum;") (by decide +kernel)) (fun _ h9 => h9) rfl dX0_copyFrom_15 ?_
  refine lv_aload_n hx hb dX0_copyFrom_18 rfl (lv_at hl 1 rfl) ?_
  refine va_get (D := g.1) (ci := 0) (v := .ref (r 2)) (C := RX0) (T := TX0) (N := 13) hx hb hts (zin_X0_copyFrom_X0) hown hK hP 10 rfl rfl 1 (by decide) (hts (.fieldLink RX0 18 "PegClerks$Clerk" "drum" "LPegClerks$Drum;") (by decide +kernel)) (fun _ h9 => h9) rfl dX0_copyFrom_19 ?_
  refine zcVv (n := 1) (As := [.ref (r 2)]) (rest := []) (Xr := _) (Xn := ((ck g q (s_X0_copyFrom_22 v w)) ++ ((ck g r w)))) (ci := 1) (C := RX1) (T := TX1) (N := 4) (q0 := 2) hx hb hml hown hts hN (m_X1_copyFrom l g q (s_X0_copyFrom_11 v w) r w ) gX0_copyFrom_X1_copyFrom rfl (by decide +kernel) ⟨rfl, rfl⟩ ⟨Nat.le_of_ble_eq_true rfl, Nat.le_of_ble_eq_true rfl⟩ hK hP hD hS hA (zsplit (L := [(ck g q (s_X0_copyFrom_11 v w)), (ck g r w)]) (Lc := [(ck g q (s_X0_copyFrom_11 v w)), (ck g r w)]) (Lr := []) (List.Perm.refl _)) rfl rfl rfl hl.1 rfl (Nat.le_of_ble_eq_true rfl) dX0_copyFrom_22 ⟨Nat.zero_le _, Nat.zero_le _⟩ (zback (L := [(ck g q (s_X0_copyFrom_22 v w)), (ck g r w)]) (Lc := [(ck g q (s_X0_copyFrom_22 v w)), (ck g r w)]) (Lr := []) (List.Perm.refl _)) (fun H locs hP hD hS => ?_)
  refine lv_aload_n hx hb dX0_copyFrom_25 rfl (lv_at hl 0 rfl) ?_
  refine va_get (D := g.1) (ci := 0) (v := .ref (q 5)) (C := RX0) (T := TX0) (N := 13) hx hb hts (zin_X0_copyFrom_X0) hown hK hP 0 rfl rfl 2 (by decide) (hts (.fieldLink RX0 25 "PegClerks$Clerk" "stamps" "LPegClerks$Stamps;") (by decide +kernel)) (fun _ h9 => h9) rfl dX0_copyFrom_26 ?_
  refine lv_aload_n hx hb dX0_copyFrom_29 rfl (lv_at hl 1 rfl) ?_
  refine va_get (D := g.1) (ci := 0) (v := .ref (r 5)) (C := RX0) (T := TX0) (N := 13) hx hb hts (zin_X0_copyFrom_X0) hown hK hP 10 rfl rfl 2 (by decide) (hts (.fieldLink RX0 25 "PegClerks$Clerk" "stamps" "LPegClerks$Stamps;") (by decide +kernel)) (fun _ h9 => h9) rfl dX0_copyFrom_30 ?_
  refine zcVv (n := 1) (As := [.ref (r 5)]) (rest := []) (Xr := _) (Xn := ((ck g q (s_X0_copyFrom_33 v w)) ++ ((ck g r w)))) (ci := 4) (C := RX4) (T := TX4) (N := 4) (q0 := 5) hx hb hml hown hts hN (m_X4_copyFrom l g q (s_X0_copyFrom_22 v w) r w ) gX0_copyFrom_X4_copyFrom rfl (by decide +kernel) ⟨rfl, rfl⟩ ⟨Nat.le_of_ble_eq_true rfl, Nat.le_of_ble_eq_true rfl⟩ hK hP hD hS hA (zsplit (L := [(ck g q (s_X0_copyFrom_22 v w)), (ck g r w)]) (Lc := [(ck g q (s_X0_copyFrom_22 v w)), (ck g r w)]) (Lr := []) (List.Perm.refl _)) rfl rfl rfl hl.1 rfl (Nat.le_of_ble_eq_true rfl) dX0_copyFrom_33 ⟨Nat.zero_le _, Nat.zero_le _⟩ (zback (L := [(ck g q (s_X0_copyFrom_33 v w)), (ck g r w)]) (Lc := [(ck g q (s_X0_copyFrom_33 v w)), (ck g r w)]) (Lr := []) (List.Perm.refl _)) (fun H locs hP hD hS => ?_)
  refine lv_aload_n hx hb dX0_copyFrom_36 rfl (lv_at hl 0 rfl) ?_
  refine lv_aload_n hx hb dX0_copyFrom_37 rfl (lv_at hl 1 rfl) ?_
  refine va_get (D := g.1) (ci := 0) (v := .int (w.1 5)) (C := RX0) (T := TX0) (N := 13) hx hb hts (zin_X0_copyFrom_X0) hown hK hP 10 rfl rfl 3 (by decide) (hts (.fieldLink RX0 42 "PegClerks$Clerk" "jammed" "Z") (by decide +kernel)) (fun _ h9 => h9) rfl dX0_copyFrom_38 ?_
  refine va_put (D := g.1) (ci := 0) (v := .int (w.1 5)) (ty := .boolean) (C := RX0) (T := TX0) (N := 13) hx hb hts (zin_X0_copyFrom_X0) tyX0 tyX0_ok nmX0 hown hK hP hD hS 0 rfl rfl 3 (by decide) (hts (.fieldLink RX0 42 "PegClerks$Clerk" "jammed" "Z") (by decide +kernel)) (fun _ h9 => h9) rfl (by decide +kernel) (znarb hj) (zfitb hj) (Nat.le_of_ble_eq_true rfl) dX0_copyFrom_41 (fun H locs hP hD hS => ?_)
  have hP : va_P g.1 vwCl ((ck g q (s_X0_copyFrom_41 v w)) ++ ((ck g r w))) H := (congrArg (fun z => va_P g.1 vwCl z H) ((zsetL (n := 10) rfl (by decide)).trans (congrArg (fun z => z ++ (ck g r w)) (ck_S5 g q (s_X0_copyFrom_33 v w) (w.1 5))))).mp hP
  have hD : va_D A ((ck g q (s_X0_copyFrom_41 v w)) ++ ((ck g r w))) := (congrArg (fun z => va_D A z) ((zsetL (n := 10) rfl (by decide)).trans (congrArg (fun z => z ++ (ck g r w)) (ck_S5 g q (s_X0_copyFrom_33 v w) (w.1 5))))).mp hD
  refine lv_aload_n hx hb dX0_copyFrom_44 rfl (lv_at hl 0 rfl) ?_
  refine lv_aload_n hx hb dX0_copyFrom_45 rfl (lv_at hl 1 rfl) ?_
  refine va_get (D := g.1) (ci := 0) (v := .int (w.1 6)) (C := RX0) (T := TX0) (N := 13) hx hb hts (zin_X0_copyFrom_X0) hown hK hP 10 rfl rfl 4 (by decide) (hts (.fieldLink RX0 46 "PegClerks$Clerk" "order" "I") (by decide +kernel)) (fun _ h9 => h9) rfl dX0_copyFrom_46 ?_
  refine va_put (D := g.1) (ci := 0) (v := .int (w.1 6)) (ty := .int) (C := RX0) (T := TX0) (N := 13) hx hb hts (zin_X0_copyFrom_X0) tyX0 tyX0_ok nmX0 hown hK hP hD hS 0 rfl rfl 4 (by decide) (hts (.fieldLink RX0 46 "PegClerks$Clerk" "order" "I") (by decide +kernel)) (fun _ h9 => h9) rfl (by decide +kernel) rfl rfl (Nat.le_of_ble_eq_true rfl) dX0_copyFrom_49 (fun H locs hP hD hS => ?_)
  have hP : va_P g.1 vwCl ((ck g q (s_X0_copyFrom_49 v w)) ++ ((ck g r w))) H := (congrArg (fun z => va_P g.1 vwCl z H) ((zsetL (n := 10) rfl (by decide)).trans (congrArg (fun z => z ++ (ck g r w)) (ck_S6 g q (s_X0_copyFrom_41 v w) (w.1 6))))).mp hP
  have hD : va_D A ((ck g q (s_X0_copyFrom_49 v w)) ++ ((ck g r w))) := (congrArg (fun z => va_D A z) ((zsetL (n := 10) rfl (by decide)).trans (congrArg (fun z => z ++ (ck g r w)) (ck_S6 g q (s_X0_copyFrom_41 v w) (w.1 6))))).mp hD
  refine lv_aload_n hx hb dX0_copyFrom_52 rfl (lv_at hl 0 rfl) ?_
  refine lv_aload_n hx hb dX0_copyFrom_53 rfl (lv_at hl 1 rfl) ?_
  refine va_get (D := g.1) (ci := 0) (v := .int (w.1 7)) (C := RX0) (T := TX0) (N := 13) hx hb hts (zin_X0_copyFrom_X0) hown hK hP 10 rfl rfl 5 (by decide) (hts (.fieldLink RX0 50 "PegClerks$Clerk" "formStamps" "I") (by decide +kernel)) (fun _ h9 => h9) rfl dX0_copyFrom_54 ?_
  refine va_put (D := g.1) (ci := 0) (v := .int (w.1 7)) (ty := .int) (C := RX0) (T := TX0) (N := 13) hx hb hts (zin_X0_copyFrom_X0) tyX0 tyX0_ok nmX0 hown hK hP hD hS 0 rfl rfl 5 (by decide) (hts (.fieldLink RX0 50 "PegClerks$Clerk" "formStamps" "I") (by decide +kernel)) (fun _ h9 => h9) rfl (by decide +kernel) rfl rfl (Nat.le_of_ble_eq_true rfl) dX0_copyFrom_57 (fun H locs hP hD hS => ?_)
  have hP : va_P g.1 vwCl ((ck g q (s_X0_copyFrom_57 v w)) ++ ((ck g r w))) H := (congrArg (fun z => va_P g.1 vwCl z H) ((zsetL (n := 10) rfl (by decide)).trans (congrArg (fun z => z ++ (ck g r w)) (ck_S7 g q (s_X0_copyFrom_49 v w) (w.1 7))))).mp hP
  have hD : va_D A ((ck g q (s_X0_copyFrom_57 v w)) ++ ((ck g r w))) := (congrArg (fun z => va_D A z) ((zsetL (n := 10) rfl (by decide)).trans (congrArg (fun z => z ++ (ck g r w)) (ck_S7 g q (s_X0_copyFrom_49 v w) (w.1 7))))).mp hD
  refine lv_aload_n hx hb dX0_copyFrom_60 rfl (lv_at hl 0 rfl) ?_
  refine lv_aload_n hx hb dX0_copyFrom_61 rfl (lv_at hl 1 rfl) ?_
  refine va_get (D := g.1) (ci := 0) (v := .int (w.1 8)) (C := RX0) (T := TX0) (N := 13) hx hb hts (zin_X0_copyFrom_X0) hown hK hP 10 rfl rfl 6 (by decide) (hts (.fieldLink RX0 53 "PegClerks$Clerk" "formSpoiled" "Z") (by decide +kernel)) (fun _ h9 => h9) rfl dX0_copyFrom_62 ?_
  refine va_put (D := g.1) (ci := 0) (v := .int (w.1 8)) (ty := .boolean) (C := RX0) (T := TX0) (N := 13) hx hb hts (zin_X0_copyFrom_X0) tyX0 tyX0_ok nmX0 hown hK hP hD hS 0 rfl rfl 6 (by decide) (hts (.fieldLink RX0 53 "PegClerks$Clerk" "formSpoiled" "Z") (by decide +kernel)) (fun _ h9 => h9) rfl (by decide +kernel) (znarb hf) (zfitb hf) (Nat.le_of_ble_eq_true rfl) dX0_copyFrom_65 (fun H locs hP hD hS => ?_)
  have hP : va_P g.1 vwCl ((ck g q (s_X0_copyFrom_65 v w)) ++ ((ck g r w))) H := (congrArg (fun z => va_P g.1 vwCl z H) ((zsetL (n := 10) rfl (by decide)).trans (congrArg (fun z => z ++ (ck g r w)) (ck_S8 g q (s_X0_copyFrom_57 v w) (w.1 8))))).mp hP
  have hD : va_D A ((ck g q (s_X0_copyFrom_65 v w)) ++ ((ck g r w))) := (congrArg (fun z => va_D A z) ((zsetL (n := 10) rfl (by decide)).trans (congrArg (fun z => z ++ (ck g r w)) (ck_S8 g q (s_X0_copyFrom_57 v w) (w.1 8))))).mp hD
  refine lv_aload_n hx hb dX0_copyFrom_68 rfl (lv_at hl 0 rfl) ?_
  refine lv_aload_n hx hb dX0_copyFrom_69 rfl (lv_at hl 1 rfl) ?_
  refine va_get (D := g.1) (ci := 0) (v := .int (w.1 9)) (C := RX0) (T := TX0) (N := 13) hx hb hts (zin_X0_copyFrom_X0) hown hK hP 10 rfl rfl 7 (by decide) (hts (.fieldLink RX0 56 "PegClerks$Clerk" "formSteps" "I") (by decide +kernel)) (fun _ h9 => h9) rfl dX0_copyFrom_70 ?_
  refine va_put (D := g.1) (ci := 0) (v := .int (w.1 9)) (ty := .int) (C := RX0) (T := TX0) (N := 13) hx hb hts (zin_X0_copyFrom_X0) tyX0 tyX0_ok nmX0 hown hK hP hD hS 0 rfl rfl 7 (by decide) (hts (.fieldLink RX0 56 "PegClerks$Clerk" "formSteps" "I") (by decide +kernel)) (fun _ h9 => h9) rfl (by decide +kernel) rfl rfl (Nat.le_of_ble_eq_true rfl) dX0_copyFrom_73 (fun H locs hP hD hS => ?_)
  have hP : va_P g.1 vwCl ((ck g q (s_X0_copyFrom_73 v w)) ++ ((ck g r w))) H := (congrArg (fun z => va_P g.1 vwCl z H) ((zsetL (n := 10) rfl (by decide)).trans (congrArg (fun z => z ++ (ck g r w)) (ck_S9 g q (s_X0_copyFrom_65 v w) (w.1 9))))).mp hP
  have hD : va_D A ((ck g q (s_X0_copyFrom_73 v w)) ++ ((ck g r w))) := (congrArg (fun z => va_D A z) ((zsetL (n := 10) rfl (by decide)).trans (congrArg (fun z => z ++ (ck g r w)) (ck_S9 g q (s_X0_copyFrom_65 v w) (w.1 9))))).mp hD
  refine lv_aload_n hx hb dX0_copyFrom_76 rfl (lv_at hl 0 rfl) ?_
  refine lv_aload_n hx hb dX0_copyFrom_77 rfl (lv_at hl 1 rfl) ?_
  refine va_get (D := g.1) (ci := 0) (v := .int (w.1 10)) (C := RX0) (T := TX0) (N := 13) hx hb hts (zin_X0_copyFrom_X0) hown hK hP 10 rfl rfl 8 (by decide) (hts (.fieldLink RX0 59 "PegClerks$Clerk" "steps" "I") (by decide +kernel)) (fun _ h9 => h9) rfl dX0_copyFrom_78 ?_
  refine va_put (D := g.1) (ci := 0) (v := .int (w.1 10)) (ty := .int) (C := RX0) (T := TX0) (N := 13) hx hb hts (zin_X0_copyFrom_X0) tyX0 tyX0_ok nmX0 hown hK hP hD hS 0 rfl rfl 8 (by decide) (hts (.fieldLink RX0 59 "PegClerks$Clerk" "steps" "I") (by decide +kernel)) (fun _ h9 => h9) rfl (by decide +kernel) rfl rfl (Nat.le_of_ble_eq_true rfl) dX0_copyFrom_81 (fun H locs hP hD hS => ?_)
  have hP : va_P g.1 vwCl ((ck g q (s_X0_copyFrom_81 v w)) ++ ((ck g r w))) H := (congrArg (fun z => va_P g.1 vwCl z H) ((zsetL (n := 10) rfl (by decide)).trans (congrArg (fun z => z ++ (ck g r w)) (ck_S10 g q (s_X0_copyFrom_73 v w) (w.1 10))))).mp hP
  have hD : va_D A ((ck g q (s_X0_copyFrom_81 v w)) ++ ((ck g r w))) := (congrArg (fun z => va_D A z) ((zsetL (n := 10) rfl (by decide)).trans (congrArg (fun z => z ++ (ck g r w)) (ck_S10 g q (s_X0_copyFrom_73 v w) (w.1 10))))).mp hD
  refine lv_aload_n hx hb dX0_copyFrom_84 rfl (lv_at hl 0 rfl) ?_
  refine lv_aload_n hx hb dX0_copyFrom_85 rfl (lv_at hl 1 rfl) ?_
  refine va_get (D := g.1) (ci := 0) (v := .int (w.1 11)) (C := RX0) (T := TX0) (N := 13) hx hb hts (zin_X0_copyFrom_X0) hown hK hP 10 rfl rfl 9 (by decide) (hts (.fieldLink RX0 62 "PegClerks$Clerk" "rightForms" "I") (by decide +kernel)) (fun _ h9 => h9) rfl dX0_copyFrom_86 ?_
  refine va_put (D := g.1) (ci := 0) (v := .int (w.1 11)) (ty := .int) (C := RX0) (T := TX0) (N := 13) hx hb hts (zin_X0_copyFrom_X0) tyX0 tyX0_ok nmX0 hown hK hP hD hS 0 rfl rfl 9 (by decide) (hts (.fieldLink RX0 62 "PegClerks$Clerk" "rightForms" "I") (by decide +kernel)) (fun _ h9 => h9) rfl (by decide +kernel) rfl rfl (Nat.le_of_ble_eq_true rfl) dX0_copyFrom_89 (fun H locs hP hD hS => ?_)
  have hP : va_P g.1 vwCl ((ck g q (s_X0_copyFrom_89 v w)) ++ ((ck g r w))) H := (congrArg (fun z => va_P g.1 vwCl z H) ((zsetL (n := 10) rfl (by decide)).trans (congrArg (fun z => z ++ (ck g r w)) (ck_S11 g q (s_X0_copyFrom_81 v w) (w.1 11))))).mp hP
  have hD : va_D A ((ck g q (s_X0_copyFrom_89 v w)) ++ ((ck g r w))) := (congrArg (fun z => va_D A z) ((zsetL (n := 10) rfl (by decide)).trans (congrArg (fun z => z ++ (ck g r w)) (ck_S11 g q (s_X0_copyFrom_81 v w) (w.1 11))))).mp hD
  refine lv_aload_n hx hb dX0_copyFrom_92 rfl (lv_at hl 0 rfl) ?_
  refine lv_aload_n hx hb dX0_copyFrom_93 rfl (lv_at hl 1 rfl) ?_
  refine va_get (D := g.1) (ci := 0) (v := .int (w.1 12)) (C := RX0) (T := TX0) (N := 13) hx hb hts (zin_X0_copyFrom_X0) hown hK hP 10 rfl rfl 10 (by decide) (hts (.fieldLink RX0 65 "PegClerks$Clerk" "wrongForms" "I") (by decide +kernel)) (fun _ h9 => h9) rfl dX0_copyFrom_94 ?_
  refine va_put (D := g.1) (ci := 0) (v := .int (w.1 12)) (ty := .int) (C := RX0) (T := TX0) (N := 13) hx hb hts (zin_X0_copyFrom_X0) tyX0 tyX0_ok nmX0 hown hK hP hD hS 0 rfl rfl 10 (by decide) (hts (.fieldLink RX0 65 "PegClerks$Clerk" "wrongForms" "I") (by decide +kernel)) (fun _ h9 => h9) rfl (by decide +kernel) rfl rfl (Nat.le_of_ble_eq_true rfl) dX0_copyFrom_97 (fun H locs hP hD hS => ?_)
  have hP : va_P g.1 vwCl ((ck g q (s_X0_copyFrom_97 v w)) ++ ((ck g r w))) H := (congrArg (fun z => va_P g.1 vwCl z H) ((zsetL (n := 10) rfl (by decide)).trans (congrArg (fun z => z ++ (ck g r w)) (ck_S12 g q (s_X0_copyFrom_89 v w) (w.1 12))))).mp hP
  have hD : va_D A ((ck g q (s_X0_copyFrom_97 v w)) ++ ((ck g r w))) := (congrArg (fun z => va_D A z) ((zsetL (n := 10) rfl (by decide)).trans (congrArg (fun z => z ++ (ck g r w)) (ck_S12 g q (s_X0_copyFrom_89 v w) (w.1 12))))).mp hD
  refine lv_aload_n hx hb dX0_copyFrom_100 rfl (lv_at hl 0 rfl) ?_
  refine lv_aload_n hx hb dX0_copyFrom_101 rfl (lv_at hl 1 rfl) ?_
  refine va_get (D := g.1) (ci := 0) (v := .int (w.1 13)) (C := RX0) (T := TX0) (N := 13) hx hb hts (zin_X0_copyFrom_X0) hown hK hP 10 rfl rfl 11 (by decide) (hts (.fieldLink RX0 68 "PegClerks$Clerk" "spoiledForms" "I") (by decide +kernel)) (fun _ h9 => h9) rfl dX0_copyFrom_102 ?_
  refine va_put (D := g.1) (ci := 0) (v := .int (w.1 13)) (ty := .int) (C := RX0) (T := TX0) (N := 13) hx hb hts (zin_X0_copyFrom_X0) tyX0 tyX0_ok nmX0 hown hK hP hD hS 0 rfl rfl 11 (by decide) (hts (.fieldLink RX0 68 "PegClerks$Clerk" "spoiledForms" "I") (by decide +kernel)) (fun _ h9 => h9) rfl (by decide +kernel) rfl rfl (Nat.le_of_ble_eq_true rfl) dX0_copyFrom_105 (fun H locs hP hD hS => ?_)
  have hP : va_P g.1 vwCl ((ck g q (s_X0_copyFrom_105 v w)) ++ ((ck g r w))) H := (congrArg (fun z => va_P g.1 vwCl z H) ((zsetL (n := 10) rfl (by decide)).trans (congrArg (fun z => z ++ (ck g r w)) (ck_S13 g q (s_X0_copyFrom_97 v w) (w.1 13))))).mp hP
  have hD : va_D A ((ck g q (s_X0_copyFrom_105 v w)) ++ ((ck g r w))) := (congrArg (fun z => va_D A z) ((zsetL (n := 10) rfl (by decide)).trans (congrArg (fun z => z ++ (ck g r w)) (ck_S13 g q (s_X0_copyFrom_97 v w) (w.1 13))))).mp hD
  refine lv_aload_n hx hb dX0_copyFrom_108 rfl (lv_at hl 0 rfl) ?_
  refine lv_aload_n hx hb dX0_copyFrom_109 rfl (lv_at hl 1 rfl) ?_
  refine va_get (D := g.1) (ci := 0) (v := .int (w.1 14)) (C := RX0) (T := TX0) (N := 13) hx hb hts (zin_X0_copyFrom_X0) hown hK hP 10 rfl rfl 12 (by decide) (hts (.fieldLink RX0 71 "PegClerks$Clerk" "jams" "I") (by decide +kernel)) (fun _ h9 => h9) rfl dX0_copyFrom_110 ?_
  refine va_put (D := g.1) (ci := 0) (v := .int (w.1 14)) (ty := .int) (C := RX0) (T := TX0) (N := 13) hx hb hts (zin_X0_copyFrom_X0) tyX0 tyX0_ok nmX0 hown hK hP hD hS 0 rfl rfl 12 (by decide) (hts (.fieldLink RX0 71 "PegClerks$Clerk" "jams" "I") (by decide +kernel)) (fun _ h9 => h9) rfl (by decide +kernel) rfl rfl (Nat.le_of_ble_eq_true rfl) dX0_copyFrom_113 (fun H locs hP hD hS => ?_)
  have hP : va_P g.1 vwCl ((ck g q (s_X0_copyFrom_113 v w)) ++ ((ck g r w))) H := (congrArg (fun z => va_P g.1 vwCl z H) ((zsetL (n := 10) rfl (by decide)).trans (congrArg (fun z => z ++ (ck g r w)) (ck_S14 g q (s_X0_copyFrom_105 v w) (w.1 14))))).mp hP
  have hD : va_D A ((ck g q (s_X0_copyFrom_113 v w)) ++ ((ck g r w))) := (congrArg (fun z => va_D A z) ((zsetL (n := 10) rfl (by decide)).trans (congrArg (fun z => z ++ (ck g r w)) (ck_S14 g q (s_X0_copyFrom_105 v w) (w.1 14))))).mp hD
  have E : (f_X0_copyFrom v w) = (s_X0_copyFrom_113 v w) := rfl
  have e2 : ((ck g q (s_X0_copyFrom_113 v w)) ++ ((ck g r w))) = ((ck g q (f_X0_copyFrom v w)) ++ ((ck g r w))) := by rw [E]
  exact hret ((ck g q (s_X0_copyFrom_113 v w)) ++ ((ck g r w))) _ _ _ _ dX0_copyFrom_116 e2 hP hD hS
abbrev rm_X2_keep : Room := { frames := 3, cells := 0, slots := 0, locals := 64 }
set_option maxRecDepth 20000 in
theorem zin_X2_keep_X2 : ∀ w ∈ wsX20, w ∈ wsX2_keep := by decide +kernel
def s_X2_keep_10 (w : zCV) (u : zCV) : zCV := (f_X0_copyFrom w u)
def s_X2_keep_32 (v : zCV) : zCV := zS v 0 ((v.1 0) + (1 : Int32))
def s_X2_keep_47 (v : zCV) : zCV := zS (s_X2_keep_32 v) 1 (if (6 : Int32) < (((s_X2_keep_32 v).1 1) + (1 : Int32)) then (6 : Int32) else (((s_X2_keep_32 v).1 1) + (1 : Int32)))
def s_X2_keep_32_2 (v : zCV) : zCV := zS v 0 (0 : Int32)
def s_X2_keep_47_2 (v : zCV) : zCV := zS (s_X2_keep_32_2 v) 1 (if (6 : Int32) < (((s_X2_keep_32_2 v).1 1) + (1 : Int32)) then (6 : Int32) else (((s_X2_keep_32_2 v).1 1) + (1 : Int32)))
def f_X2_keep (v : zCV) (w : zCV) (u : zCV) : zCV × zCV := if (v.1 0) < (5 : Int32) then (((s_X2_keep_47 v), (s_X2_keep_10 w u))) else (((s_X2_keep_47_2 v), (s_X2_keep_10 w u)))
set_option maxRecDepth 100000 in
set_option maxHeartbeats 4000000 in
theorem m_X2_keep (l : Launch) (g : zG) (q : Nat → Nat) (F : Nat → Nat) (v : zCV) (r : Nat → Nat) (w : zCV) (t : Nat → Nat) (u : zCV) (hn : vp_in (v.1 0) 6) (hF : F (v.1 0).toNatClampNeg = r 0) (hj : u.1 5 = 0 ∨ u.1 5 = 1) (hf : u.1 8 = 0 ∨ u.1 8 = 1) : ZV l yX2_keep wsX2_keep rm_X2_keep g ((hi g q (fun j => some (F j)) v) ++ ((ck g r w) ++ ((ck g t u)))) [.ref (q 0), .ref (t 0)] ((hi g q (fun j => some (F j)) (f_X2_keep v w u).1) ++ ((ck g r (f_X2_keep v w u).2) ++ ((ck g t u)))) := by
  refine zopenV (cc := cX2_keep) (maxL := 2) (by decide +kernel) rfl (Nat.le_of_ble_eq_true rfl) ?_
  intro p e s m below meth c A Q ls hx hb hml hown hts hP hK hD hA hN hl hret
  have hS : va_S A s.heap s.heap [] := va_S.rf
  have hl : lv_has ls 2 [(0, .ref (q 0)), (1, .ref (t 0))] := hl
  have hown : s.vm.findClass RX2 = some m.cls := hown
  refine lv_aload_n hx hb dX2_keep_0 rfl (lv_at hl 0 rfl) ?_
  refine va_get (D := g.1) (ci := 2) (v := .ref (q 1)) (C := RX2) (T := TX2) (N := 3) hx hb hts (zin_X2_keep_X2) hown hK hP 0 rfl rfl 0 (by decide) (hts (.fieldLink RX2 10 "PegClerks$History" "states" "[LPegClerks$Clerk;") (by decide +kernel)) (fun _ h9 => h9) rfl dX2_keep_1 ?_
  refine lv_aload_n hx hb dX2_keep_4 rfl (lv_at hl 0 rfl) ?_
  refine va_get (D := g.1) (ci := 2) (v := .int (v.1 0)) (C := RX2) (T := TX2) (N := 3) hx hb hts (zin_X2_keep_X2) hown hK hP 0 rfl rfl 1 (by decide) (hts (.fieldLink RX2 16 "PegClerks$History" "next" "I") (by decide +kernel)) (fun _ h9 => h9) rfl dX2_keep_5 ?_
  refine z_aald (f := fun j => (F j)) (k := (v.1 0).toNatClampNeg) hx hb hK hP 1 3 rfl rfl hn rfl dX2_keep_8 ?_
  rw [hF]
  refine lv_aload_n hx hb dX2_keep_9 rfl (lv_at hl 1 rfl) ?_
  refine zcVv (n := 1) (As := [.ref (t 0)]) (rest := []) (Xr := _) (Xn := ((hi g q (fun j => some (F j)) v) ++ ((ck g r (s_X2_keep_10 w u)) ++ ((ck g t u))))) (ci := 0) (C := RX0) (T := TX0) (N := 13) (q0 := 0) hx hb hml hown hts hN (m_X0_copyFrom l g r w t u hj hf) gX2_keep_X0_copyFrom rfl (by decide +kernel) ⟨rfl, rfl⟩ ⟨Nat.le_of_ble_eq_true rfl, Nat.le_of_ble_eq_true rfl⟩ hK hP hD hS hA (zsplit (L := [(hi g q (fun j => some (F j)) v), (ck g r w), (ck g t u)]) (Lc := [(ck g r w), (ck g t u)]) (Lr := [(hi g q (fun j => some (F j)) v)]) ((List.Perm.swap _ _ _).trans (List.Perm.cons _ (List.Perm.swap _ _ _)))) rfl rfl rfl hl.1 rfl (Nat.le_of_ble_eq_true rfl) dX2_keep_10 ⟨Nat.zero_le _, Nat.zero_le _⟩ (zback (L := [(hi g q (fun j => some (F j)) v), (ck g r (s_X2_keep_10 w u)), (ck g t u)]) (Lc := [(ck g r (s_X2_keep_10 w u)), (ck g t u)]) (Lr := [(hi g q (fun j => some (F j)) v)]) ((List.Perm.swap _ _ _).trans (List.Perm.cons _ (List.Perm.swap _ _ _)))) (fun H locs hP hD hS => ?_)
  refine lv_aload_n hx hb dX2_keep_13 rfl (lv_at hl 0 rfl) ?_
  refine lv_aload_n hx hb dX2_keep_14 rfl (lv_at hl 0 rfl) ?_
  refine va_get (D := g.1) (ci := 2) (v := .int (v.1 0)) (C := RX2) (T := TX2) (N := 3) hx hb hts (zin_X2_keep_X2) hown hK hP 0 rfl rfl 1 (by decide) (hts (.fieldLink RX2 16 "PegClerks$History" "next" "I") (by decide +kernel)) (fun _ h9 => h9) rfl dX2_keep_15 ?_
  refine lv_iconst (v := (5 : Int32)) hx hb dX2_keep_18 (by decide) ?_
  refine lv_icmp_lt (tgt := 26) hx hb dX2_keep_19 (by decide) (fun c_19 => ?_) (fun c_19 => ?_)
  · refine lv_aload_n hx hb dX2_keep_26 rfl (lv_at hl 0 rfl) ?_
    refine va_get (D := g.1) (ci := 2) (v := .int (v.1 0)) (C := RX2) (T := TX2) (N := 3) hx hb hts (zin_X2_keep_X2) hown hK hP 0 rfl rfl 1 (by decide) (hts (.fieldLink RX2 16 "PegClerks$History" "next" "I") (by decide +kernel)) (fun _ h9 => h9) rfl dX2_keep_27 ?_
    refine lv_iconst (v := (1 : Int32)) hx hb dX2_keep_30 (by decide) ?_
    refine lv_iadd hx hb dX2_keep_31 ?_
    refine va_put (D := g.1) (ci := 2) (v := .int ((v.1 0) + (1 : Int32))) (ty := .int) (C := RX2) (T := TX2) (N := 3) hx hb hts (zin_X2_keep_X2) tyX2 tyX2_ok nmX2 hown hK hP hD hS 0 rfl rfl 1 (by decide) (hts (.fieldLink RX2 16 "PegClerks$History" "next" "I") (by decide +kernel)) (fun _ h9 => h9) rfl (by decide +kernel) rfl rfl (Nat.le_of_ble_eq_true rfl) dX2_keep_32 (fun H locs hP hD hS => ?_)
    have hP : va_P g.1 vwCl ((hi g q (fun j => some (F j)) (s_X2_keep_32 v)) ++ ((ck g r (s_X2_keep_10 w u)) ++ ((ck g t u)))) H := (congrArg (fun z => va_P g.1 vwCl z H) ((zsetL (n := 2) rfl (by decide)).trans (congrArg (fun z => z ++ ((ck g r (s_X2_keep_10 w u)) ++ ((ck g t u)))) (hi_S0 g q (fun j => some (F j)) v ((v.1 0) + (1 : Int32)))))).mp hP
    have hD : va_D A ((hi g q (fun j => some (F j)) (s_X2_keep_32 v)) ++ ((ck g r (s_X2_keep_10 w u)) ++ ((ck g t u)))) := (congrArg (fun z => va_D A z) ((zsetL (n := 2) rfl (by decide)).trans (congrArg (fun z => z ++ ((ck g r (s_X2_keep_10 w u)) ++ ((ck g t u)))) (hi_S0 g q (fun j => some (F j)) v ((v.1 0) + (1 : Int32)))))).mp hD
    refine lv_aload_n hx hb dX2_keep_35 rfl (lv_at hl 0 rfl) ?_
    refine lv_aload_n hx hb dX2_keep_36 rfl (lv_at hl 0 rfl) ?_
    refine va_get (D := g.1) (ci := 2) (v := .int ((s_X2_keep_32 v).1 1)) (C := RX2) (T := TX2) (N := 3) hx hb hts (zin_X2_keep_X2) hown hK hP 0 rfl rfl 2 (by decide) (hts (.fieldLink RX2 24 "PegClerks$History" "kept" "I") (by decide +kernel)) (fun _ h9 => h9) rfl dX2_keep_37 ?_
    refine lv_iconst (v := (1 : Int32)) hx hb dX2_keep_40 (by decide) ?_
    refine lv_iadd hx hb dX2_keep_41 ?_
    refine lv_bipush (v := (6 : Int32)) hx hb dX2_keep_42 (by decide) ?_
    refine va_mmin hx hb (hml.trans hl.1.symm) hown (hts (.methodLink RX2 27 Lib.Math.min.name) (by decide +kernel)) (hts (.static Lib.Math.min.name) (by decide +kernel)) (hts (.initialized "java/lang/Math") (by decide +kernel)) (hts (.code Lib.Math.min.name Lib.Math.min.code 2 (some .int)) (by decide +kernel)) (Nat.le_of_ble_eq_true rfl) (Nat.le_of_ble_eq_true rfl) (Nat.zero_le _) (Nat.zero_le _) dX2_keep_44 ?_
    refine va_put (D := g.1) (ci := 2) (v := .int (if (6 : Int32) < (((s_X2_keep_32 v).1 1) + (1 : Int32)) then (6 : Int32) else (((s_X2_keep_32 v).1 1) + (1 : Int32)))) (ty := .int) (C := RX2) (T := TX2) (N := 3) hx hb hts (zin_X2_keep_X2) tyX2 tyX2_ok nmX2 hown hK hP hD hS 0 rfl rfl 2 (by decide) (hts (.fieldLink RX2 24 "PegClerks$History" "kept" "I") (by decide +kernel)) (fun _ h9 => h9) rfl (by decide +kernel) rfl rfl (Nat.le_of_ble_eq_true rfl) dX2_keep_47 (fun H locs hP hD hS => ?_)
    have hP : va_P g.1 vwCl ((hi g q (fun j => some (F j)) (s_X2_keep_47 v)) ++ ((ck g r (s_X2_keep_10 w u)) ++ ((ck g t u)))) H := (congrArg (fun z => va_P g.1 vwCl z H) ((zsetL (n := 2) rfl (by decide)).trans (congrArg (fun z => z ++ ((ck g r (s_X2_keep_10 w u)) ++ ((ck g t u)))) (hi_S1 g q (fun j => some (F j)) (s_X2_keep_32 v) (if (6 : Int32) < (((s_X2_keep_32 v).1 1) + (1 : Int32)) then (6 : Int32) else (((s_X2_keep_32 v).1 1) + (1 : Int32))))))).mp hP
    have hD : va_D A ((hi g q (fun j => some (F j)) (s_X2_keep_47 v)) ++ ((ck g r (s_X2_keep_10 w u)) ++ ((ck g t u)))) := (congrArg (fun z => va_D A z) ((zsetL (n := 2) rfl (by decide)).trans (congrArg (fun z => z ++ ((ck g r (s_X2_keep_10 w u)) ++ ((ck g t u)))) (hi_S1 g q (fun j => some (F j)) (s_X2_keep_32 v) (if (6 : Int32) < (((s_X2_keep_32 v).1 1) + (1 : Int32)) then (6 : Int32) else (((s_X2_keep_32 v).1 1) + (1 : Int32))))))).mp hD
    have E : (f_X2_keep v w u) = ((s_X2_keep_47 v), (s_X2_keep_10 w u)) := (if_pos c_19).trans rfl
    have e2 : ((hi g q (fun j => some (F j)) (s_X2_keep_47 v)) ++ ((ck g r (s_X2_keep_10 w u)) ++ ((ck g t u)))) = ((hi g q (fun j => some (F j)) (f_X2_keep v w u).1) ++ ((ck g r (f_X2_keep v w u).2) ++ ((ck g t u)))) := by rw [E]
    exact hret ((hi g q (fun j => some (F j)) (s_X2_keep_47 v)) ++ ((ck g r (s_X2_keep_10 w u)) ++ ((ck g t u)))) _ _ _ _ dX2_keep_50 e2 hP hD hS
  · refine lv_iconst (v := (0 : Int32)) hx hb dX2_keep_22 (by decide) ?_
    refine lv_goto (tgt := 32) hx hb dX2_keep_23 (by decide) ?_
    refine va_put (D := g.1) (ci := 2) (v := .int (0 : Int32)) (ty := .int) (C := RX2) (T := TX2) (N := 3) hx hb hts (zin_X2_keep_X2) tyX2 tyX2_ok nmX2 hown hK hP hD hS 0 rfl rfl 1 (by decide) (hts (.fieldLink RX2 16 "PegClerks$History" "next" "I") (by decide +kernel)) (fun _ h9 => h9) rfl (by decide +kernel) rfl rfl (Nat.le_of_ble_eq_true rfl) dX2_keep_32 (fun H locs hP hD hS => ?_)
    have hP : va_P g.1 vwCl ((hi g q (fun j => some (F j)) (s_X2_keep_32_2 v)) ++ ((ck g r (s_X2_keep_10 w u)) ++ ((ck g t u)))) H := (congrArg (fun z => va_P g.1 vwCl z H) ((zsetL (n := 2) rfl (by decide)).trans (congrArg (fun z => z ++ ((ck g r (s_X2_keep_10 w u)) ++ ((ck g t u)))) (hi_S0 g q (fun j => some (F j)) v (0 : Int32))))).mp hP
    have hD : va_D A ((hi g q (fun j => some (F j)) (s_X2_keep_32_2 v)) ++ ((ck g r (s_X2_keep_10 w u)) ++ ((ck g t u)))) := (congrArg (fun z => va_D A z) ((zsetL (n := 2) rfl (by decide)).trans (congrArg (fun z => z ++ ((ck g r (s_X2_keep_10 w u)) ++ ((ck g t u)))) (hi_S0 g q (fun j => some (F j)) v (0 : Int32))))).mp hD
    refine lv_aload_n hx hb dX2_keep_35 rfl (lv_at hl 0 rfl) ?_
    refine lv_aload_n hx hb dX2_keep_36 rfl (lv_at hl 0 rfl) ?_
    refine va_get (D := g.1) (ci := 2) (v := .int ((s_X2_keep_32_2 v).1 1)) (C := RX2) (T := TX2) (N := 3) hx hb hts (zin_X2_keep_X2) hown hK hP 0 rfl rfl 2 (by decide) (hts (.fieldLink RX2 24 "PegClerks$History" "kept" "I") (by decide +kernel)) (fun _ h9 => h9) rfl dX2_keep_37 ?_
    refine lv_iconst (v := (1 : Int32)) hx hb dX2_keep_40 (by decide) ?_
    refine lv_iadd hx hb dX2_keep_41 ?_
    refine lv_bipush (v := (6 : Int32)) hx hb dX2_keep_42 (by decide) ?_
    refine va_mmin hx hb (hml.trans hl.1.symm) hown (hts (.methodLink RX2 27 Lib.Math.min.name) (by decide +kernel)) (hts (.static Lib.Math.min.name) (by decide +kernel)) (hts (.initialized "java/lang/Math") (by decide +kernel)) (hts (.code Lib.Math.min.name Lib.Math.min.code 2 (some .int)) (by decide +kernel)) (Nat.le_of_ble_eq_true rfl) (Nat.le_of_ble_eq_true rfl) (Nat.zero_le _) (Nat.zero_le _) dX2_keep_44 ?_
    refine va_put (D := g.1) (ci := 2) (v := .int (if (6 : Int32) < (((s_X2_keep_32_2 v).1 1) + (1 : Int32)) then (6 : Int32) else (((s_X2_keep_32_2 v).1 1) + (1 : Int32)))) (ty := .int) (C := RX2) (T := TX2) (N := 3) hx hb hts (zin_X2_keep_X2) tyX2 tyX2_ok nmX2 hown hK hP hD hS 0 rfl rfl 2 (by decide) (hts (.fieldLink RX2 24 "PegClerks$History" "kept" "I") (by decide +kernel)) (fun _ h9 => h9) rfl (by decide +kernel) rfl rfl (Nat.le_of_ble_eq_true rfl) dX2_keep_47 (fun H locs hP hD hS => ?_)
    have hP : va_P g.1 vwCl ((hi g q (fun j => some (F j)) (s_X2_keep_47_2 v)) ++ ((ck g r (s_X2_keep_10 w u)) ++ ((ck g t u)))) H := (congrArg (fun z => va_P g.1 vwCl z H) ((zsetL (n := 2) rfl (by decide)).trans (congrArg (fun z => z ++ ((ck g r (s_X2_keep_10 w u)) ++ ((ck g t u)))) (hi_S1 g q (fun j => some (F j)) (s_X2_keep_32_2 v) (if (6 : Int32) < (((s_X2_keep_32_2 v).1 1) + (1 : Int32)) then (6 : Int32) else (((s_X2_keep_32_2 v).1 1) + (1 : Int32))))))).mp hP
    have hD : va_D A ((hi g q (fun j => some (F j)) (s_X2_keep_47_2 v)) ++ ((ck g r (s_X2_keep_10 w u)) ++ ((ck g t u)))) := (congrArg (fun z => va_D A z) ((zsetL (n := 2) rfl (by decide)).trans (congrArg (fun z => z ++ ((ck g r (s_X2_keep_10 w u)) ++ ((ck g t u)))) (hi_S1 g q (fun j => some (F j)) (s_X2_keep_32_2 v) (if (6 : Int32) < (((s_X2_keep_32_2 v).1 1) + (1 : Int32)) then (6 : Int32) else (((s_X2_keep_32_2 v).1 1) + (1 : Int32))))))).mp hD
    have E : (f_X2_keep v w u) = ((s_X2_keep_47_2 v), (s_X2_keep_10 w u)) := (if_neg c_19).trans rfl
    have e2 : ((hi g q (fun j => some (F j)) (s_X2_keep_47_2 v)) ++ ((ck g r (s_X2_keep_10 w u)) ++ ((ck g t u)))) = ((hi g q (fun j => some (F j)) (f_X2_keep v w u).1) ++ ((ck g r (f_X2_keep v w u).2) ++ ((ck g t u)))) := by rw [E]
    exact hret ((hi g q (fun j => some (F j)) (s_X2_keep_47_2 v)) ++ ((ck g r (s_X2_keep_10 w u)) ++ ((ck g t u)))) _ _ _ _ dX2_keep_50 e2 hP hD hS
