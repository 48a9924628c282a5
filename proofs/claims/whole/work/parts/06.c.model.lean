theorem zFr_keepsL : ∀ (n i : Nat) (w : zCV), zFr 1 w (f_X6_keeps_L2 n i w)
  | 0, i, w => zFr.rf
  | n + 1, i, w => by
    unfold f_X6_keeps_L2
    exact zFr.wr.tr (zFr_keepsL n (i + 1) _)
theorem zFr_keeps (v : zCV) : zFr 1 v (f_X6_keeps v) := zFr_keepsL _ _ _
theorem zFr_backL : ∀ (n i : Nat) (w : zCV), zFr 0 w (f_X6_comesBack_L2 n i w)
  | 0, i, w => zFr.rf
  | n + 1, i, w => by
    unfold f_X6_comesBack_L2
    exact zFr.wr.tr (zFr_backL n (i + 1) _)
theorem zFr_back (v : zCV) : zFr 0 v (f_X6_comesBack v) := zFr_backL _ _ _
theorem zA_eq (v : zCV) (j : Nat) (f : Nat → Int32) : (zA v j f).2 j = f := if_pos rfl
theorem zA_ne (v : zCV) {j i : Nat} (f : Nat → Int32) (h : i ≠ j) : (zA v j f).2 i = v.2 i := if_neg h
theorem e_keepsL : ∀ (n i : Nat) (w : zCV), i + n ≤ 136 → ∀ j : Nat, (f_X6_keeps_L2 n i w).2 1 j = if i ≤ j ∧ j < i + n then w.2 0 j else w.2 1 j
  | 0, i, w, h, j => by rw [if_neg (by omega)]; rfl
  | n + 1, i, w, h, j => by
    unfold f_X6_keeps_L2
    rw [e_keepsL n (i + 1) _ (by omega) j]
    simp only [s_X6_keeps_20]
    rw [zA_eq, zA_ne _ _ (by decide), nI_clamp (by omega)]
    by_cases h1 : j = i
    · subst h1
      rw [if_neg (by omega), pk_us, if_pos (by omega)]
    · rw [pk_un h1]
      by_cases h2 : i ≤ j ∧ j < i + (n + 1)
      · rw [if_pos (by omega), if_pos h2]
      · rw [if_neg (by omega), if_neg h2]
theorem e_keeps (v : zCV) {j : Nat} (h : j < 136) : (f_X6_keeps v).2 1 j = v.2 0 j := by
  have := e_keepsL (zfu 136) 0 v (by rw [zfu_eq]; omega) j
  rw [zfu_eq, if_pos (by omega), ← zfu_eq 136] at this
  exact this
theorem e_backL : ∀ (n i : Nat) (w : zCV), i + n ≤ 136 → ∀ j : Nat, (f_X6_comesBack_L2 n i w).2 0 j = if i ≤ j ∧ j < i + n then w.2 1 j else w.2 0 j
  | 0, i, w, h, j => by rw [if_neg (by omega)]; rfl
  | n + 1, i, w, h, j => by
    unfold f_X6_comesBack_L2
    rw [e_backL n (i + 1) _ (by omega) j]
    simp only [s_X6_comesBack_20]
    rw [zA_eq, zA_ne _ _ (by decide), nI_clamp (by omega)]
    by_cases h1 : j = i
    · subst h1
      rw [if_neg (by omega), pk_us, if_pos (by omega)]
    · rw [pk_un h1]
      by_cases h2 : i ≤ j ∧ j < i + (n + 1)
      · rw [if_pos (by omega), if_pos h2]
      · rw [if_neg (by omega), if_neg h2]
theorem e_back (v : zCV) {j : Nat} (h : j < 136) : (f_X6_comesBack v).2 0 j = v.2 1 j := by
  have := e_backL (zfu 136) 0 v (by rw [zfu_eq]; omega) j
  rw [zfu_eq, if_pos (by omega), ← zfu_eq 136] at this
  exact this
theorem zrow_keeps {v : zCV} (h : vp_in (v.2 0 4) 16) : vp_in ((f_X6_keeps v).2 0 4) 16 := by rw [(zFr_keeps v).2 0 (by decide)]; exact h
/-- what steps would bring is taken back -/
theorem e_took (v : zCV) (p : Int32) {j : Nat} (h : j < 136) : (f_X6_comesBack (f_X6_stepsUpTo (f_X6_keeps v) p).2).2 0 j = v.2 0 j := by
  rw [e_back _ h, (zFr_stepsUpTo _ _).2 1 (by decide), e_keeps _ h]
theorem zin_if {x : Int32} (h : ¬ f_X6_in x.toInt64 0 4 = (0 : Int32)) : vp_in (((11 : Int32) + x) - (1 : Int32)) 136 := by
  have h1 := (zin_i (A := 0) (B := 4) rfl rfl).mp h
  have h2 : vp_in x 5 := vp_in_iff.mpr (by omega)
  obtain ⟨k, hk, rfl⟩ := vp_in_of h2 (by omega)
  rw [show (11 : Int32) = nI 11 from rfl, show (1 : Int32) = nI 1 from rfl, nI_add, pk_sub (by omega)]
  exact vp_in_nI (by omega) (by omega)
abbrev rm_X6_untilJam : Room := { frames := 6, cells := 0, slots := 0, locals := 131 }
def s_X6_untilJam_1 (v : zCV) : zCV := (f_X6_keeps v)
def r_X6_untilJam_8 (v : zCV) : Int32 × zCV := (f_X6_stepsUpTo (s_X6_untilJam_1 v) (501 : Int32))
def s_X6_untilJam_13 (v : zCV) : zCV := (f_X6_comesBack (r_X6_untilJam_8 v).2)
def f_X6_untilJam (v : zCV) : Int32 × zCV := if ((r_X6_untilJam_8 v).1) ≤ (500 : Int32) then ((((r_X6_untilJam_8 v).1), (s_X6_untilJam_13 v))) else (((-6 : Int32), (s_X6_untilJam_13 v)))
set_option maxRecDepth 100000 in
set_option maxHeartbeats 4000000 in
theorem m_X6_untilJam (l : Launch) (g : zG) (q : Nat → Nat) (v : zCV) (hat : vp_in (v.2 0 4) 16) : ZI l yX6_untilJam wsX6_untilJam rm_X6_untilJam g (mo g q v) [.ref (q 0)] (f_X6_untilJam v).1 (mo g q (f_X6_untilJam v).2) := by
  refine zopenI (cc := cX6_untilJam) (maxL := 2) (ret := .int) (by decide +kernel) rfl (Nat.le_of_ble_eq_true rfl) ?_
  intro p e s m below meth c A Q ls hx hb hml hown hts hP hK hD hA hN hl hret
  have hS : va_S A s.heap s.heap [] := va_S.rf
  have hl : lv_has ls 2 [(0, .ref (q 0))] := hl
  have hown : s.vm.findClass RX6 = some m.cls := hown
  refine lv_aload_n hx hb dX6_untilJam_0 rfl (lv_at hl 0 rfl) ?_
  refine zcVv (n := 0) (As := []) (rest := []) (Xr := []) (Xn := (mo g q (s_X6_untilJam_1 v))) (ci := 6) (C := RX6) (T := TX6) (N := 12) (q0 := 0) hx hb hml hown hts hN (m_X6_keeps l g q v ) gX6_untilJam_X6_keeps rfl (by decide +kernel) ⟨rfl, rfl⟩ ⟨Nat.le_of_ble_eq_true rfl, Nat.le_of_ble_eq_true rfl⟩ hK hP hD hS hA (zpn _) rfl rfl rfl hl.1 rfl (Nat.le_of_ble_eq_true rfl) dX6_untilJam_1 ⟨Nat.zero_le _, Nat.zero_le _⟩ (zpn' _) (fun H locs hP hD hS => ?_)
  refine lv_aload_n hx hb dX6_untilJam_4 rfl (lv_at hl 0 rfl) ?_
  refine lv_sipush (v := (501 : Int32)) hx hb dX6_untilJam_5 (by decide) ?_
  refine zcVi (n := 1) (As := [.int (501 : Int32)]) (rest := []) (Xr := []) (Xn := (mo g q (r_X6_untilJam_8 v).2)) (ci := 6) (C := RX6) (T := TX6) (N := 12) (q0 := 0) hx hb hml hown hts hN (m_X6_stepsUpTo l g q (s_X6_untilJam_1 v) (501 : Int32) (zrow_keeps hat)) gX6_untilJam_X6_stepsUpTo rfl (by decide +kernel) ⟨rfl, rfl⟩ ⟨Nat.le_of_ble_eq_true rfl, Nat.le_of_ble_eq_true rfl⟩ hK hP hD hS hA (zpn _) rfl rfl rfl hl.1 rfl (Nat.le_of_ble_eq_true rfl) dX6_untilJam_8 ⟨Nat.zero_le _, Nat.zero_le _⟩ (zpn' _) (fun H locs hP hD hS => ?_)
  refine lv_istore_n (lv' := [(1, .int ((r_X6_untilJam_8 v).1)), (0, .ref (q 0))]) hx hb dX6_untilJam_11 rfl hl (by decide) rfl (fun ls hl => ?_)
  refine lv_aload_n hx hb dX6_untilJam_12 rfl (lv_at hl 1 rfl) ?_
  refine zcVv (n := 0) (As := []) (rest := []) (Xr := []) (Xn := (mo g q (s_X6_untilJam_13 v))) (ci := 6) (C := RX6) (T := TX6) (N := 12) (q0 := 0) hx hb hml hown hts hN (m_X6_comesBack l g q (r_X6_untilJam_8 v).2 ) gX6_untilJam_X6_comesBack rfl (by decide +kernel) ⟨rfl, rfl⟩ ⟨Nat.le_of_ble_eq_true rfl, Nat.le_of_ble_eq_true rfl⟩ hK hP hD hS hA (zpn _) rfl rfl rfl hl.1 rfl (Nat.le_of_ble_eq_true rfl) dX6_untilJam_13 ⟨Nat.zero_le _, Nat.zero_le _⟩ (zpn' _) (fun H locs hP hD hS => ?_)
  refine lv_iload_n hx hb dX6_untilJam_16 rfl (lv_at hl 0 rfl) ?_
  refine lv_sipush (v := (500 : Int32)) hx hb dX6_untilJam_17 (by decide) ?_
  refine lv_icmp_le (tgt := 28) hx hb dX6_untilJam_20 (by decide) (fun c_20 => ?_) (fun c_20 => ?_)
  · refine lv_iload_n hx hb dX6_untilJam_28 rfl (lv_at hl 0 rfl) ?_
    have E : (f_X6_untilJam v) = (((r_X6_untilJam_8 v).1), (s_X6_untilJam_13 v)) := (if_pos c_20).trans rfl
    have e1 : ((r_X6_untilJam_8 v).1) = (f_X6_untilJam v).1 := by rw [E]
    have e2 : (mo g q (s_X6_untilJam_13 v)) = (mo g q (f_X6_untilJam v).2) := by rw [E]
    exact hret ((r_X6_untilJam_8 v).1) (mo g q (s_X6_untilJam_13 v)) _ _ _ _ dX6_untilJam_29 e1 (rfl) e2 hP hD hS
  · refine lv_bipush (v := (-6 : Int32)) hx hb dX6_untilJam_23 (by decide) ?_
    refine lv_goto (tgt := 29) hx hb dX6_untilJam_25 (by decide) ?_
    have E : (f_X6_untilJam v) = ((-6 : Int32), (s_X6_untilJam_13 v)) := (if_neg c_20).trans rfl
    have e1 : (-6 : Int32) = (f_X6_untilJam v).1 := by rw [E]
    have e2 : (mo g q (s_X6_untilJam_13 v)) = (mo g q (f_X6_untilJam v).2) := by rw [E]
    exact hret (-6 : Int32) (mo g q (s_X6_untilJam_13 v)) _ _ _ _ dX6_untilJam_29 e1 (rfl) e2 hP hD hS
abbrev rm_X6_ifStepped : Room := { frames := 6, cells := 0, slots := 0, locals := 131 }
set_option maxRecDepth 20000 in
theorem zin_X6_ifStepped_X6 : ∀ w ∈ wsX60, w ∈ wsX6_ifStepped := by decide +kernel
def r_X6_ifStepped_28 (v : zCV) : Int32 := (f_X6_marks v)
def s_X6_ifStepped_33 (v : zCV) : zCV := (f_X6_keeps v)
def r_X6_ifStepped_38 (v : zCV) (p0 : Int32) : Int32 × zCV := (f_X6_stepsUpTo (s_X6_ifStepped_33 v) p0)
def s_X6_ifStepped_92 (v : zCV) (p0 : Int32) : zCV := (f_X6_comesBack (r_X6_ifStepped_38 v p0).2)
def r_X6_ifStepped_58 (v : zCV) (p0 : Int32) : Int32 := (f_X6_marks (r_X6_ifStepped_38 v p0).2)
def f_X6_ifStepped (v : zCV) (p0 : Int32) (p1 : Int32) : Int32 × zCV := if (f_X6_in (p0.toInt64) (1 : Int64) (500 : Int64)) = (0 : Int32) then (((-2 : Int32), v)) else (if (f_X6_in (p1.toInt64) (0 : Int64) (4 : Int64)) = (0 : Int32) then (((-2 : Int32), v)) else (if p1 = (0 : Int32) then ((((r_X6_ifStepped_38 v p0).1), (s_X6_ifStepped_92 v p0))) else (if p1 = (4 : Int32) then ((((r_X6_ifStepped_58 v p0) - (r_X6_ifStepped_28 v)), (s_X6_ifStepped_92 v p0))) else ((((((r_X6_ifStepped_38 v p0).2.2 0) (((11 : Int32) + p1) - (1 : Int32)).toNatClampNeg) - (((r_X6_ifStepped_38 v p0).2.2 1) (((11 : Int32) + p1) - (1 : Int32)).toNatClampNeg)), (s_X6_ifStepped_92 v p0))))))
set_option maxRecDepth 100000 in
set_option maxHeartbeats 4000000 in
theorem m_X6_ifStepped (l : Launch) (g : zG) (q : Nat → Nat) (v : zCV) (p0 : Int32) (p1 : Int32) (hat : vp_in (v.2 0 4) 16) : ZI l yX6_ifStepped wsX6_ifStepped rm_X6_ifStepped g (mo g q v) [.ref (q 0), .int p0, .int p1] (f_X6_ifStepped v p0 p1).1 (mo g q (f_X6_ifStepped v p0 p1).2) := by
  refine zopenI (cc := cX6_ifStepped) (maxL := 6) (ret := .int) (by decide +kernel) rfl (Nat.le_of_ble_eq_true rfl) ?_
  intro p e s m below meth c A Q ls hx hb hml hown hts hP hK hD hA hN hl hret
  have hS : va_S A s.heap s.heap [] := va_S.rf
  have hl : lv_has ls 6 [(0, .ref (q 0)), (1, .int p0), (2, .int p1)] := hl
  have hown : s.vm.findClass RX6 = some m.cls := hown
  refine lv_iload_n hx hb dX6_ifStepped_0 rfl (lv_at hl 1 rfl) ?_
  refine lv_i2l hx hb dX6_ifStepped_1 rfl ?_
  refine lv_lconst (v := (1 : Int64)) hx hb dX6_ifStepped_2 (by decide) ?_
  refine lv_ldc2 (v := (500 : Int64)) hx hb hown (hts (.constantLong RX6 132 (500)) (by decide +kernel)) dX6_ifStepped_3 ?_
  refine zcSi (n := 3) (As := [.long (p0.toInt64), .long (1 : Int64), .long (500 : Int64)]) (rest := []) hx hb hml hown hts hN (m_X6_in l g (p0.toInt64) (1 : Int64) (500 : Int64)) gX6_ifStepped_X6_in rfl (by decide +kernel) ⟨rfl, rfl⟩ ⟨Nat.le_of_ble_eq_true rfl, Nat.le_of_ble_eq_true rfl⟩ hK hP hD hS hA rfl hl.1 rfl (Nat.le_of_ble_eq_true rfl) dX6_ifStepped_6 ⟨Nat.zero_le _, Nat.zero_le _⟩ (fun H locs hP hD hS => ?_)
  refine lv_if_eq (tgt := 24) hx hb dX6_ifStepped_9 (by decide) (fun c_9 => ?_) (fun c_9 => ?_)
  · refine lv_bipush (v := (-2 : Int32)) hx hb dX6_ifStepped_24 (by decide) ?_
    have E : (f_X6_ifStepped v p0 p1) = ((-2 : Int32), v) := (if_pos c_9).trans rfl
    have e1 : (-2 : Int32) = (f_X6_ifStepped v p0 p1).1 := by rw [E]
    have e2 : (mo g q v) = (mo g q (f_X6_ifStepped v p0 p1).2) := by rw [E]
    exact hret (-2 : Int32) (mo g q v) _ _ _ _ dX6_ifStepped_26 e1 (rfl) e2 hP hD hS
  · refine lv_iload_n hx hb dX6_ifStepped_12 rfl (lv_at hl 2 rfl) ?_
    refine lv_i2l hx hb dX6_ifStepped_13 rfl ?_
    refine lv_lconst (v := (0 : Int64)) hx hb dX6_ifStepped_14 (by decide) ?_
    refine lv_ldc2 (v := (4 : Int64)) hx hb hown (hts (.constantLong RX6 86 (4)) (by decide +kernel)) dX6_ifStepped_15 ?_
    refine zcSi (n := 3) (As := [.long (p1.toInt64), .long (0 : Int64), .long (4 : Int64)]) (rest := []) hx hb hml hown hts hN (m_X6_in l g (p1.toInt64) (0 : Int64) (4 : Int64)) gX6_ifStepped_X6_in rfl (by decide +kernel) ⟨rfl, rfl⟩ ⟨Nat.le_of_ble_eq_true rfl, Nat.le_of_ble_eq_true rfl⟩ hK hP hD hS hA rfl hl.1 rfl (Nat.le_of_ble_eq_true rfl) dX6_ifStepped_18 ⟨Nat.zero_le _, Nat.zero_le _⟩ (fun H locs hP hD hS => ?_)
    refine lv_if_ne (tgt := 27) hx hb dX6_ifStepped_21 (by decide) (fun c_21 => ?_) (fun c_21 => ?_)
    · refine lv_aload_n hx hb dX6_ifStepped_27 rfl (lv_at hl 0 rfl) ?_
      refine zcVi (n := 0) (As := []) (rest := []) (Xr := []) (Xn := (mo g q v)) (ci := 6) (C := RX6) (T := TX6) (N := 12) (q0 := 0) hx hb hml hown hts hN (m_X6_marks l g q v ) gX6_ifStepped_X6_marks rfl (by decide +kernel) ⟨rfl, rfl⟩ ⟨Nat.le_of_ble_eq_true rfl, Nat.le_of_ble_eq_true rfl⟩ hK hP hD hS hA (zpn _) rfl rfl rfl hl.1 rfl (Nat.le_of_ble_eq_true rfl) dX6_ifStepped_28 ⟨Nat.zero_le _, Nat.zero_le _⟩ (zpn' _) (fun H locs hP hD hS => ?_)
      refine lv_istore_n (lv' := [(3, .int (r_X6_ifStepped_28 v)), (0, .ref (q 0)), (1, .int p0), (2, .int p1)]) hx hb dX6_ifStepped_31 rfl hl (by decide) rfl (fun ls hl => ?_)
      refine lv_aload_n hx hb dX6_ifStepped_32 rfl (lv_at hl 1 rfl) ?_
      refine zcVv (n := 0) (As := []) (rest := []) (Xr := []) (Xn := (mo g q (s_X6_ifStepped_33 v))) (ci := 6) (C := RX6) (T := TX6) (N := 12) (q0 := 0) hx hb hml hown hts hN (m_X6_keeps l g q v ) gX6_ifStepped_X6_keeps rfl (by decide +kernel) ⟨rfl, rfl⟩ ⟨Nat.le_of_ble_eq_true rfl, Nat.le_of_ble_eq_true rfl⟩ hK hP hD hS hA (zpn _) rfl rfl rfl hl.1 rfl (Nat.le_of_ble_eq_true rfl) dX6_ifStepped_33 ⟨Nat.zero_le _, Nat.zero_le _⟩ (zpn' _) (fun H locs hP hD hS => ?_)
      refine lv_aload_n hx hb dX6_ifStepped_36 rfl (lv_at hl 1 rfl) ?_
      refine lv_iload_n hx hb dX6_ifStepped_37 rfl (lv_at hl 2 rfl) ?_
      refine zcVi (n := 1) (As := [.int p0]) (rest := []) (Xr := []) (Xn := (mo g q (r_X6_ifStepped_38 v p0).2)) (ci := 6) (C := RX6) (T := TX6) (N := 12) (q0 := 0) hx hb hml hown hts hN (m_X6_stepsUpTo l g q (s_X6_ifStepped_33 v) p0 (zrow_keeps hat)) gX6_ifStepped_X6_stepsUpTo rfl (by decide +kernel) ⟨rfl, rfl⟩ ⟨Nat.le_of_ble_eq_true rfl, Nat.le_of_ble_eq_true rfl⟩ hK hP hD hS hA (zpn _) rfl rfl rfl hl.1 rfl (Nat.le_of_ble_eq_true rfl) dX6_ifStepped_38 ⟨Nat.zero_le _, Nat.zero_le _⟩ (zpn' _) (fun H locs hP hD hS => ?_)
      refine lv_istore (lv' := [(4, .int ((r_X6_ifStepped_38 v p0).1)), (3, .int (r_X6_ifStepped_28 v)), (0, .ref (q 0)), (1, .int p0), (2, .int p1)]) hx hb dX6_ifStepped_41 hl (by decide) rfl (fun ls hl => ?_)
      refine lv_iload_n hx hb dX6_ifStepped_43 rfl (lv_at hl 4 rfl) ?_
      refine lv_if_ne (tgt := 52) hx hb dX6_ifStepped_44 (by decide) (fun c_44 => ?_) (fun c_44 => ?_)
      · refine lv_iload_n hx hb dX6_ifStepped_52 rfl (lv_at hl 4 rfl) ?_
        refine lv_iconst (v := (4 : Int32)) hx hb dX6_ifStepped_53 (by decide) ?_
        refine lv_icmp_ne (tgt := 66) hx hb dX6_ifStepped_54 (by decide) (fun c_54 => ?_) (fun c_54 => ?_)
        · refine lv_aload_n hx hb dX6_ifStepped_66 rfl (lv_at hl 2 rfl) ?_
          refine va_get (D := g.1) (ci := 6) (v := .ref (q 1)) (C := RX6) (T := TX6) (N := 12) hx hb hts (zin_X6_ifStepped_X6) hown hK hP 0 rfl rfl 0 (by decide) (hts (.fieldLink RX6 7 "PegClerksModel" "all" "[I") (by decide +kernel)) (fun _ h9 => h9) rfl dX6_ifStepped_67 ?_
          refine lv_bipush (v := (11 : Int32)) hx hb dX6_ifStepped_70 (by decide) ?_
          refine lv_iload_n hx hb dX6_ifStepped_72 rfl (lv_at hl 4 rfl) ?_
          refine lv_iadd hx hb dX6_ifStepped_73 ?_
          refine lv_iconst (v := (1 : Int32)) hx hb dX6_ifStepped_74 (by decide) ?_
          refine lv_isub hx hb dX6_ifStepped_75 ?_
          refine z_iald (f := ((r_X6_ifStepped_38 v p0).2.2 0)) (k := (((11 : Int32) + p1) - (1 : Int32)).toNatClampNeg) hx hb hK hP 1 0 rfl rfl (zin_if c_21) rfl dX6_ifStepped_76 ?_
          refine lv_aload_n hx hb dX6_ifStepped_77 rfl (lv_at hl 2 rfl) ?_
          refine va_get (D := g.1) (ci := 6) (v := .ref (q 2)) (C := RX6) (T := TX6) (N := 12) hx hb hts (zin_X6_ifStepped_X6) hown hK hP 0 rfl rfl 1 (by decide) (hts (.fieldLink RX6 13 "PegClerksModel" "kept" "[I") (by decide +kernel)) (fun _ h9 => h9) rfl dX6_ifStepped_78 ?_
          refine lv_bipush (v := (11 : Int32)) hx hb dX6_ifStepped_81 (by decide) ?_
          refine lv_iload_n hx hb dX6_ifStepped_83 rfl (lv_at hl 4 rfl) ?_
          refine lv_iadd hx hb dX6_ifStepped_84 ?_
          refine lv_iconst (v := (1 : Int32)) hx hb dX6_ifStepped_85 (by decide) ?_
          refine lv_isub hx hb dX6_ifStepped_86 ?_
          refine z_iald (f := ((r_X6_ifStepped_38 v p0).2.2 1)) (k := (((11 : Int32) + p1) - (1 : Int32)).toNatClampNeg) hx hb hK hP 2 0 rfl rfl (zin_if c_21) rfl dX6_ifStepped_87 ?_
          refine lv_isub hx hb dX6_ifStepped_88 ?_
          refine lv_istore (lv' := [(5, .int ((((r_X6_ifStepped_38 v p0).2.2 0) (((11 : Int32) + p1) - (1 : Int32)).toNatClampNeg) - (((r_X6_ifStepped_38 v p0).2.2 1) (((11 : Int32) + p1) - (1 : Int32)).toNatClampNeg))), (4, .int ((r_X6_ifStepped_38 v p0).1)), (3, .int (r_X6_ifStepped_28 v)), (0, .ref (q 0)), (1, .int p0), (2, .int p1)]) hx hb dX6_ifStepped_89 hl (by decide) rfl (fun ls hl => ?_)
          refine lv_aload_n hx hb dX6_ifStepped_91 rfl (lv_at hl 3 rfl) ?_
          refine zcVv (n := 0) (As := []) (rest := []) (Xr := []) (Xn := (mo g q (s_X6_ifStepped_92 v p0))) (ci := 6) (C := RX6) (T := TX6) (N := 12) (q0 := 0) hx hb hml hown hts hN (m_X6_comesBack l g q (r_X6_ifStepped_38 v p0).2 ) gX6_ifStepped_X6_comesBack rfl (by decide +kernel) ⟨rfl, rfl⟩ ⟨Nat.le_of_ble_eq_true rfl, Nat.le_of_ble_eq_true rfl⟩ hK hP hD hS hA (zpn _) rfl rfl rfl hl.1 rfl (Nat.le_of_ble_eq_true rfl) dX6_ifStepped_92 ⟨Nat.zero_le _, Nat.zero_le _⟩ (zpn' _) (fun H locs hP hD hS => ?_)
          refine lv_iload hx hb dX6_ifStepped_95 (lv_at hl 0 rfl) ?_
          have E : (f_X6_ifStepped v p0 p1) = (((((r_X6_ifStepped_38 v p0).2.2 0) (((11 : Int32) + p1) - (1 : Int32)).toNatClampNeg) - (((r_X6_ifStepped_38 v p0).2.2 1) (((11 : Int32) + p1) - (1 : Int32)).toNatClampNeg)), (s_X6_ifStepped_92 v p0)) := (if_neg c_9).trans ((if_neg c_21).trans ((if_neg c_44).trans ((if_neg c_54).trans rfl)))
          have e1 : ((((r_X6_ifStepped_38 v p0).2.2 0) (((11 : Int32) + p1) - (1 : Int32)).toNatClampNeg) - (((r_X6_ifStepped_38 v p0).2.2 1) (((11 : Int32) + p1) - (1 : Int32)).toNatClampNeg)) = (f_X6_ifStepped v p0 p1).1 := by rw [E]
          have e2 : (mo g q (s_X6_ifStepped_92 v p0)) = (mo g q (f_X6_ifStepped v p0 p1).2) := by rw [E]
          exact hret ((((r_X6_ifStepped_38 v p0).2.2 0) (((11 : Int32) + p1) - (1 : Int32)).toNatClampNeg) - (((r_X6_ifStepped_38 v p0).2.2 1) (((11 : Int32) + p1) - (1 : Int32)).toNatClampNeg)) (mo g q (s_X6_ifStepped_92 v p0)) _ _ _ _ dX6_ifStepped_97 e1 (rfl) e2 hP hD hS
        · refine lv_aload_n hx hb dX6_ifStepped_57 rfl (lv_at hl 2 rfl) ?_
          refine zcVi (n := 0) (As := []) (rest := []) (Xr := []) (Xn := (mo g q (r_X6_ifStepped_38 v p0).2)) (ci := 6) (C := RX6) (T := TX6) (N := 12) (q0 := 0) hx hb hml hown hts hN (m_X6_marks l g q (r_X6_ifStepped_38 v p0).2 ) gX6_ifStepped_X6_marks rfl (by decide +kernel) ⟨rfl, rfl⟩ ⟨Nat.le_of_ble_eq_true rfl, Nat.le_of_ble_eq_true rfl⟩ hK hP hD hS hA (zpn _) rfl rfl rfl hl.1 rfl (Nat.le_of_ble_eq_true rfl) dX6_ifStepped_58 ⟨Nat.zero_le _, Nat.zero_le _⟩ (zpn' _) (fun H locs hP hD hS => ?_)
          refine lv_iload_n hx hb dX6_ifStepped_61 rfl (lv_at hl 1 rfl) ?_
          refine lv_isub hx hb dX6_ifStepped_62 ?_
          refine lv_goto (tgt := 89) hx hb dX6_ifStepped_63 (by decide) ?_
          refine lv_istore (lv' := [(5, .int ((r_X6_ifStepped_58 v p0) - (r_X6_ifStepped_28 v))), (4, .int ((r_X6_ifStepped_38 v p0).1)), (3, .int (r_X6_ifStepped_28 v)), (0, .ref (q 0)), (1, .int p0), (2, .int p1)]) hx hb dX6_ifStepped_89 hl (by decide) rfl (fun ls hl => ?_)
          refine lv_aload_n hx hb dX6_ifStepped_91 rfl (lv_at hl 3 rfl) ?_
          refine zcVv (n := 0) (As := []) (rest := []) (Xr := []) (Xn := (mo g q (s_X6_ifStepped_92 v p0))) (ci := 6) (C := RX6) (T := TX6) (N := 12) (q0 := 0) hx hb hml hown hts hN (m_X6_comesBack l g q (r_X6_ifStepped_38 v p0).2 ) gX6_ifStepped_X6_comesBack rfl (by decide +kernel) ⟨rfl, rfl⟩ ⟨Nat.le_of_ble_eq_true rfl, Nat.le_of_ble_eq_true rfl⟩ hK hP hD hS hA (zpn _) rfl rfl rfl hl.1 rfl (Nat.le_of_ble_eq_true rfl) dX6_ifStepped_92 ⟨Nat.zero_le _, Nat.zero_le _⟩ (zpn' _) (fun H locs hP hD hS => ?_)
          refine lv_iload hx hb dX6_ifStepped_95 (lv_at hl 0 rfl) ?_
          have E : (f_X6_ifStepped v p0 p1) = (((r_X6_ifStepped_58 v p0) - (r_X6_ifStepped_28 v)), (s_X6_ifStepped_92 v p0)) := (if_neg c_9).trans ((if_neg c_21).trans ((if_neg c_44).trans ((if_pos c_54).trans rfl)))
          have e1 : ((r_X6_ifStepped_58 v p0) - (r_X6_ifStepped_28 v)) = (f_X6_ifStepped v p0 p1).1 := by rw [E]
          have e2 : (mo g q (s_X6_ifStepped_92 v p0)) = (mo g q (f_X6_ifStepped v p0 p1).2) := by rw [E]
          exact hret ((r_X6_ifStepped_58 v p0) - (r_X6_ifStepped_28 v)) (mo g q (s_X6_ifStepped_92 v p0)) _ _ _ _ dX6_ifStepped_97 e1 (rfl) e2 hP hD hS
      · refine lv_iload hx hb dX6_ifStepped_47 (lv_at hl 0 rfl) ?_
        refine lv_goto (tgt := 89) hx hb dX6_ifStepped_49 (by decide) ?_
        refine lv_istore (lv' := [(5, .int ((r_X6_ifStepped_38 v p0).1)), (4, .int ((r_X6_ifStepped_38 v p0).1)), (3, .int (r_X6_ifStepped_28 v)), (0, .ref (q 0)), (1, .int p0), (2, .int p1)]) hx hb dX6_ifStepped_89 hl (by decide) rfl (fun ls hl => ?_)
        refine lv_aload_n hx hb dX6_ifStepped_91 rfl (lv_at hl 3 rfl) ?_
        refine zcVv (n := 0) (As := []) (rest := []) (Xr := []) (Xn := (mo g q (s_X6_ifStepped_92 v p0))) (ci := 6) (C := RX6) (T := TX6) (N := 12) (q0 := 0) hx hb hml hown hts hN (m_X6_comesBack l g q (r_X6_ifStepped_38 v p0).2 ) gX6_ifStepped_X6_comesBack rfl (by decide +kernel) ⟨rfl, rfl⟩ ⟨Nat.le_of_ble_eq_true rfl, Nat.le_of_ble_eq_true rfl⟩ hK hP hD hS hA (zpn _) rfl rfl rfl hl.1 rfl (Nat.le_of_ble_eq_true rfl) dX6_ifStepped_92 ⟨Nat.zero_le _, Nat.zero_le _⟩ (zpn' _) (fun H locs hP hD hS => ?_)
        refine lv_iload hx hb dX6_ifStepped_95 (lv_at hl 0 rfl) ?_
        have E : (f_X6_ifStepped v p0 p1) = (((r_X6_ifStepped_38 v p0).1), (s_X6_ifStepped_92 v p0)) := (if_neg c_9).trans ((if_neg c_21).trans ((if_pos c_44).trans rfl))
        have e1 : ((r_X6_ifStepped_38 v p0).1) = (f_X6_ifStepped v p0 p1).1 := by rw [E]
        have e2 : (mo g q (s_X6_ifStepped_92 v p0)) = (mo g q (f_X6_ifStepped v p0 p1).2) := by rw [E]
        exact hret ((r_X6_ifStepped_38 v p0).1) (mo g q (s_X6_ifStepped_92 v p0)) _ _ _ _ dX6_ifStepped_97 e1 (rfl) e2 hP hD hS
    · refine lv_bipush (v := (-2 : Int32)) hx hb dX6_ifStepped_24 (by decide) ?_
      have E : (f_X6_ifStepped v p0 p1) = ((-2 : Int32), v) := (if_neg c_9).trans ((if_pos c_21).trans rfl)
      have e1 : (-2 : Int32) = (f_X6_ifStepped v p0 p1).1 := by rw [E]
      have e2 : (mo g q v) = (mo g q (f_X6_ifStepped v p0 p1).2) := by rw [E]
      exact hret (-2 : Int32) (mo g q v) _ _ _ _ dX6_ifStepped_26 e1 (rfl) e2 hP hD hS
theorem e_if (v : zCV) (a b : Int32) {j : Nat} (h : j < 136) : (f_X6_ifStepped v a b).2.2 0 j = v.2 0 j := by
  unfold f_X6_ifStepped
  split
  · rfl
  · split
    · rfl
    · split
      · exact e_took v a h
      · split
        · exact e_took v a h
        · exact e_took v a h
theorem zrow_if {v : zCV} {a b : Int32} (h : vp_in (v.2 0 4) 16) : vp_in ((f_X6_ifStepped v a b).2.2 0 4) 16 := by rw [e_if v a b (by omega)]; exact h
theorem zrow_put {w : zCV} {i : Nat} {x : Int32} (h : vp_in (w.2 0 4) 16) (hi : i < 96) : vp_in ((zA w 0 (upd (w.2 0) ((40 : Int32) + (nI i)).toNatClampNeg x)).2 0 4) 16 := by
  rw [zA_eq, show (40 : Int32) = nI 40 from rfl, nI_add, nI_clamp (by omega), pk_un (by omega)]
  exact h
abbrev rm_X6_bestOut : Room := { frames := 7, cells := 0, slots := 0, locals := 156 }
set_option maxRecDepth 20000 in
theorem zin_X6_bestOut_X6 : ∀ w ∈ wsX60, w ∈ wsX6_bestOut := by decide +kernel
def r_X6_bestOut_7 (v : zCV) : Int32 × zCV := (f_X6_ifStepped v (64 : Int32) (1 : Int32))
def s_X6_bestOut_47 (i13 : Nat) (w13_0 : zCV) : zCV := zA w13_0 0 (upd (w13_0.2 0) ((40 : Int32) + (nI i13)).toNatClampNeg (-6 : Int32))
def r_X6_bestOut_52 (i13 : Nat) (w13_0 : zCV) : Int32 × zCV := (f_X6_ifStepped (s_X6_bestOut_47 i13 w13_0) (64 : Int32) (1 : Int32))
def s_X6_bestOut_67 (i13 : Nat) (w13_0 : zCV) : zCV := zA (r_X6_bestOut_52 i13 w13_0).2 0 (upd ((r_X6_bestOut_52 i13 w13_0).2.2 0) ((40 : Int32) + (nI i13)).toNatClampNeg ((w13_0.2 0) ((40 : Int32) + (nI i13)).toNatClampNeg))
def f_X6_bestOut_L13  : Nat → Nat → Int32 → Int32 → zCV → Int32 × Int32 × zCV
  | 0, i13, x13_1, x13_2, w13_0 => (x13_1, x13_2, w13_0)
  | n13 + 1, i13, x13_1, x13_2, w13_0 => if ((w13_0.2 0) ((40 : Int32) + (nI i13)).toNatClampNeg) = (-6 : Int32) then ((f_X6_bestOut_L13 n13 (i13 + 1) x13_1 x13_2 w13_0)) else (if ((r_X6_bestOut_52 i13 w13_0).1) ≤ x13_2 then (if ((r_X6_bestOut_52 i13 w13_0).1) ≤ x13_2 then ((f_X6_bestOut_L13 n13 (i13 + 1) x13_1 x13_2 (s_X6_bestOut_67 i13 w13_0))) else ((f_X6_bestOut_L13 n13 (i13 + 1) x13_1 ((r_X6_bestOut_52 i13 w13_0).1) (s_X6_bestOut_67 i13 w13_0)))) else (if ((r_X6_bestOut_52 i13 w13_0).1) ≤ x13_2 then ((f_X6_bestOut_L13 n13 (i13 + 1) (nI i13) x13_2 (s_X6_bestOut_67 i13 w13_0))) else ((f_X6_bestOut_L13 n13 (i13 + 1) (nI i13) ((r_X6_bestOut_52 i13 w13_0).1) (s_X6_bestOut_67 i13 w13_0)))))
def f_X6_bestOut (v : zCV) : Int32 × zCV := ((f_X6_bestOut_L13 (zfu 96) 0 (-6 : Int32) ((r_X6_bestOut_7 v).1) (r_X6_bestOut_7 v).2).1, (f_X6_bestOut_L13 (zfu 96) 0 (-6 : Int32) ((r_X6_bestOut_7 v).1) (r_X6_bestOut_7 v).2).2.2)
set_option maxRecDepth 100000 in
set_option maxHeartbeats 4000000 in
theorem m_X6_bestOut (l : Launch) (g : zG) (q : Nat → Nat) (v : zCV) (hat : vp_in (v.2 0 4) 16) : ZI l yX6_bestOut wsX6_bestOut rm_X6_bestOut g (mo g q v) [.ref (q 0)] (f_X6_bestOut v).1 (mo g q (f_X6_bestOut v).2) := by
  refine zopenI (cc := cX6_bestOut) (maxL := 6) (ret := .int) (by decide +kernel) rfl (Nat.le_of_ble_eq_true rfl) ?_
  intro p e s m below meth c A Q ls hx hb hml hown hts hP hK hD hA hN hl hret
  have hS : va_S A s.heap s.heap [] := va_S.rf
  have hl : lv_has ls 6 [(0, .ref (q 0))] := hl
  have hown : s.vm.findClass RX6 = some m.cls := hown
  refine lv_bipush (v := (-6 : Int32)) hx hb dX6_bestOut_0 (by decide) ?_
  refine lv_istore_n (lv' := [(1, .int (-6 : Int32)), (0, .ref (q 0))]) hx hb dX6_bestOut_2 rfl hl (by decide) rfl (fun ls hl => ?_)
  refine lv_aload_n hx hb dX6_bestOut_3 rfl (lv_at hl 1 rfl) ?_
  refine lv_bipush (v := (64 : Int32)) hx hb dX6_bestOut_4 (by decide) ?_
  refine lv_iconst (v := (1 : Int32)) hx hb dX6_bestOut_6 (by decide) ?_
  refine zcVi (n := 2) (As := [.int (64 : Int32), .int (1 : Int32)]) (rest := []) (Xr := []) (Xn := (mo g q (r_X6_bestOut_7 v).2)) (ci := 6) (C := RX6) (T := TX6) (N := 12) (q0 := 0) hx hb hml hown hts hN (m_X6_ifStepped l g q v (64 : Int32) (1 : Int32) hat) gX6_bestOut_X6_ifStepped rfl (by decide +kernel) ⟨rfl, rfl⟩ ⟨Nat.le_of_ble_eq_true rfl, Nat.le_of_ble_eq_true rfl⟩ hK hP hD hS hA (zpn _) rfl rfl rfl hl.1 rfl (Nat.le_of_ble_eq_true rfl) dX6_bestOut_7 ⟨Nat.zero_le _, Nat.zero_le _⟩ (zpn' _) (fun H locs hP hD hS => ?_)
  refine lv_istore_n (lv' := [(2, .int ((r_X6_bestOut_7 v).1)), (1, .int (-6 : Int32)), (0, .ref (q 0))]) hx hb dX6_bestOut_10 rfl hl (by decide) rfl (fun ls hl => ?_)
  refine lv_iconst (v := (0 : Int32)) hx hb dX6_bestOut_11 (by decide) ?_
  refine lv_istore_n (lv' := [(3, .int (0 : Int32)), (2, .int ((r_X6_bestOut_7 v).1)), (1, .int (-6 : Int32)), (0, .ref (q 0))]) hx hb dX6_bestOut_12 rfl hl (by decide) rfl (fun ls hl => ?_)
  have L13 : ∀ (n13 : Nat) (i13 : Nat), i13 + n13 = 96 → ∀ (x13_1 : Int32) (x13_2 : Int32) (w13_0 : zCV) (H : Heap) (locs : List Loc) (ls : Array Slot), vp_in (w13_0.2 0 4) 16 → va_P g.1 vwCl (mo g q w13_0) H → va_D A (mo g q w13_0) → va_S A s.heap H locs → lv_has ls 6 [(3, .int (nI i13)), (2, .int x13_2), (1, .int x13_1), (0, .ref (q 0))] → (∀ (H : Heap) (locs : List Loc) (ls : Array Slot), va_P g.1 vwCl (mo g q (f_X6_bestOut_L13 n13 i13 x13_1 x13_2 w13_0).2.2) H → va_D A (mo g q (f_X6_bestOut_L13 n13 i13 x13_1 x13_2 w13_0).2.2) → va_S A s.heap H locs → lv_has ls 6 [(2, .int (f_X6_bestOut_L13 n13 i13 x13_1 x13_2 w13_0).2.1), (1, .int (f_X6_bestOut_L13 n13 i13 x13_1 x13_2 w13_0).1), (0, .ref (q 0))] → W p l e rm_X6_bestOut s m ([.ref (q 0)] : List Value).toArray below meth c H locs 0 0 Q (F0 m 99 ls [])) → W p l e rm_X6_bestOut s m ([.ref (q 0)] : List Value).toArray below meth c H locs 0 0 Q (F0 m 13 ls []) := by
    intro n13
    induction n13 with
    | zero =>
      intro i13 hin13 x13_1 x13_2 w13_0 H locs ls hat hP hD hS hl kx
      refine lv_iload_n hx hb dX6_bestOut_13 rfl (lv_at hl 0 rfl) ?_
      refine lv_bipush (v := (96 : Int32)) hx hb dX6_bestOut_14 (by decide) ?_
      refine lv_icmp_ge (tgt := 99) hx hb dX6_bestOut_16 (by decide) (fun c_16 => ?_) (fun c_16 => ?_)
      rotate_left
      · exact absurd (by rw [show i13 = 96 by omega]; decide) c_16
      have E : (f_X6_bestOut_L13 0 i13 x13_1 x13_2 w13_0) = (x13_1, x13_2, w13_0) := rfl
      rw [E] at kx
      exact kx _ _ _ hP hD hS (lv_sub hl [1, 2, 3] rfl)
    | succ n13 ih13 =>
      intro i13 hin13 x13_1 x13_2 w13_0 H locs ls hat hP hD hS hl kx
      refine lv_iload_n hx hb dX6_bestOut_13 rfl (lv_at hl 0 rfl) ?_
      refine lv_bipush (v := (96 : Int32)) hx hb dX6_bestOut_14 (by decide) ?_
      refine lv_icmp_ge (tgt := 99) hx hb dX6_bestOut_16 (by decide) (fun c_16 => ?_) (fun c_16 => ?_)
      · exact absurd c_16 (nI_ge (a := i13) (b := 96) (by omega) (by omega))
      refine lv_aload_n hx hb dX6_bestOut_19 rfl (lv_at hl 3 rfl) ?_
      refine va_get (D := g.1) (ci := 6) (v := .ref (q 1)) (C := RX6) (T := TX6) (N := 12) hx hb hts (zin_X6_bestOut_X6) hown hK hP 0 rfl rfl 0 (by decide) (hts (.fieldLink RX6 7 "PegClerksModel" "all" "[I") (by decide +kernel)) (fun _ h9 => h9) rfl dX6_bestOut_20 ?_
      refine lv_bipush (v := (40 : Int32)) hx hb dX6_bestOut_23 (by decide) ?_
      refine lv_iload_n hx hb dX6_bestOut_25 rfl (lv_at hl 0 rfl) ?_
      refine lv_iadd hx hb dX6_bestOut_26 ?_
      refine z_iald (f := (w13_0.2 0)) (k := ((40 : Int32) + (nI i13)).toNatClampNeg) hx hb hK hP 1 0 rfl rfl (zin_add (c := 40) (k := 96) rfl (vp_in_nI (by omega) (by omega)) (by omega) (by omega)) rfl dX6_bestOut_27 ?_
      refine lv_istore (lv' := [(4, .int ((w13_0.2 0) ((40 : Int32) + (nI i13)).toNatClampNeg)), (3, .int (nI i13)), (2, .int x13_2), (1, .int x13_1), (0, .ref (q 0))]) hx hb dX6_bestOut_28 hl (by decide) rfl (fun ls hl => ?_)
      refine lv_iload hx hb dX6_bestOut_30 (lv_at hl 0 rfl) ?_
      refine lv_bipush (v := (-6 : Int32)) hx hb dX6_bestOut_32 (by decide) ?_
      refine lv_icmp_eq (tgt := 93) hx hb dX6_bestOut_34 (by decide) (fun c_34 => ?_) (fun c_34 => ?_)
      · refine lv_iinc (v := (nI (i13 + 1))) (lv' := [(3, .int (nI (i13 + 1))), (4, .int ((w13_0.2 0) ((40 : Int32) + (nI i13)).toNatClampNeg)), (2, .int x13_2), (1, .int x13_1), (0, .ref (q 0))]) hx hb dX6_bestOut_93 hl (k := 1) rfl (nI_1 i13) (by decide) rfl (fun ls hl => ?_)
        refine lv_goto (tgt := 13) hx hb dX6_bestOut_96 (by decide) ?_
        have E : (f_X6_bestOut_L13 (n13 + 1) i13 x13_1 x13_2 w13_0) = (f_X6_bestOut_L13 n13 (i13 + 1) x13_1 x13_2 w13_0) := (if_pos c_34).trans rfl
        rw [E] at kx
        exact ih13 (i13 + 1) (by omega) x13_1 x13_2 w13_0 _ _ _ hat hP hD hS (lv_sub hl [0, 2, 3, 4] rfl) kx
      · refine lv_aload_n hx hb dX6_bestOut_37 rfl (lv_at hl 4 rfl) ?_
        refine va_get (D := g.1) (ci := 6) (v := .ref (q 1)) (C := RX6) (T := TX6) (N := 12) hx hb hts (zin_X6_bestOut_X6) hown hK hP 0 rfl rfl 0 (by decide) (hts (.fieldLink RX6 7 "PegClerksModel" "all" "[I") (by decide +kernel)) (fun _ h9 => h9) rfl dX6_bestOut_38 ?_
        refine lv_bipush (v := (40 : Int32)) hx hb dX6_bestOut_41 (by decide) ?_
        refine lv_iload_n hx hb dX6_bestOut_43 rfl (lv_at hl 1 rfl) ?_
        refine lv_iadd hx hb dX6_bestOut_44 ?_
        refine lv_bipush (v := (-6 : Int32)) hx hb dX6_bestOut_45 (by decide) ?_
        refine z_iast (f := (w13_0.2 0)) (k := ((40 : Int32) + (nI i13)).toNatClampNeg) hx hb hK hP hD hS 1 0 rfl rfl (zin_add (c := 40) (k := 96) rfl (vp_in_nI (by omega) (by omega)) (by omega) (by omega)) rfl dX6_bestOut_47 (fun H locs hP hD hS => ?_)
        have hP : va_P g.1 vwCl (mo g q (s_X6_bestOut_47 i13 w13_0)) H := (congrArg (fun z => va_P g.1 vwCl z H) (mo_A0 g q w13_0 (upd (w13_0.2 0) ((40 : Int32) + (nI i13)).toNatClampNeg (-6 : Int32)))).mp hP
        have hD : va_D A (mo g q (s_X6_bestOut_47 i13 w13_0)) := (congrArg (fun z => va_D A z) (mo_A0 g q w13_0 (upd (w13_0.2 0) ((40 : Int32) + (nI i13)).toNatClampNeg (-6 : Int32)))).mp hD
        refine lv_aload_n hx hb dX6_bestOut_48 rfl (lv_at hl 4 rfl) ?_
        refine lv_bipush (v := (64 : Int32)) hx hb dX6_bestOut_49 (by decide) ?_
        refine lv_iconst (v := (1 : Int32)) hx hb dX6_bestOut_51 (by decide) ?_
        refine zcVi (n := 2) (As := [.int (64 : Int32), .int (1 : Int32)]) (rest := []) (Xr := []) (Xn := (mo g q (r_X6_bestOut_52 i13 w13_0).2)) (ci := 6) (C := RX6) (T := TX6) (N := 12) (q0 := 0) hx hb hml hown hts hN (m_X6_ifStepped l g q (s_X6_bestOut_47 i13 w13_0) (64 : Int32) (1 : Int32) (zrow_put hat (by omega))) gX6_bestOut_X6_ifStepped rfl (by decide +kernel) ⟨rfl, rfl⟩ ⟨Nat.le_of_ble_eq_true rfl, Nat.le_of_ble_eq_true rfl⟩ hK hP hD hS hA (zpn _) rfl rfl rfl hl.1 rfl (Nat.le_of_ble_eq_true rfl) dX6_bestOut_52 ⟨Nat.zero_le _, Nat.zero_le _⟩ (zpn' _) (fun H locs hP hD hS => ?_)
        refine lv_istore (lv' := [(5, .int ((r_X6_bestOut_52 i13 w13_0).1)), (4, .int ((w13_0.2 0) ((40 : Int32) + (nI i13)).toNatClampNeg)), (3, .int (nI i13)), (2, .int x13_2), (1, .int x13_1), (0, .ref (q 0))]) hx hb dX6_bestOut_55 hl (by decide) rfl (fun ls hl => ?_)
        refine lv_aload_n hx hb dX6_bestOut_57 rfl (lv_at hl 5 rfl) ?_
        refine va_get (D := g.1) (ci := 6) (v := .ref (q 1)) (C := RX6) (T := TX6) (N := 12) hx hb hts (zin_X6_bestOut_X6) hown hK hP 0 rfl rfl 0 (by decide) (hts (.fieldLink RX6 7 "PegClerksModel" "all" "[I") (by decide +kernel)) (fun _ h9 => h9) rfl dX6_bestOut_58 ?_
        refine lv_bipush (v := (40 : Int32)) hx hb dX6_bestOut_61 (by decide) ?_
        refine lv_iload_n hx hb dX6_bestOut_63 rfl (lv_at hl 2 rfl) ?_
        refine lv_iadd hx hb dX6_bestOut_64 ?_
        refine lv_iload hx hb dX6_bestOut_65 (lv_at hl 1 rfl) ?_
        refine z_iast (f := ((r_X6_bestOut_52 i13 w13_0).2.2 0)) (k := ((40 : Int32) + (nI i13)).toNatClampNeg) hx hb hK hP hD hS 1 0 rfl rfl (zin_add (c := 40) (k := 96) rfl (vp_in_nI (by omega) (by omega)) (by omega) (by omega)) rfl dX6_bestOut_67 (fun H locs hP hD hS => ?_)
        have hP : va_P g.1 vwCl (mo g q (s_X6_bestOut_67 i13 w13_0)) H := (congrArg (fun z => va_P g.1 vwCl z H) (mo_A0 g q (r_X6_bestOut_52 i13 w13_0).2 (upd ((r_X6_bestOut_52 i13 w13_0).2.2 0) ((40 : Int32) + (nI i13)).toNatClampNeg ((w13_0.2 0) ((40 : Int32) + (nI i13)).toNatClampNeg)))).mp hP
        have hD : va_D A (mo g q (s_X6_bestOut_67 i13 w13_0)) := (congrArg (fun z => va_D A z) (mo_A0 g q (r_X6_bestOut_52 i13 w13_0).2 (upd ((r_X6_bestOut_52 i13 w13_0).2.2 0) ((40 : Int32) + (nI i13)).toNatClampNeg ((w13_0.2 0) ((40 : Int32) + (nI i13)).toNatClampNeg)))).mp hD
        refine lv_iload hx hb dX6_bestOut_68 (lv_at hl 0 rfl) ?_
        refine lv_iload_n hx hb dX6_bestOut_70 rfl (lv_at hl 3 rfl) ?_
        refine lv_icmp_le (tgt := 78) hx hb dX6_bestOut_71 (by decide) (fun c_71 => ?_) (fun c_71 => ?_)
        · refine lv_iload_n hx hb dX6_bestOut_78 rfl (lv_at hl 4 rfl) ?_
          refine lv_istore_n (lv' := [(1, .int x13_1), (5, .int ((r_X6_bestOut_52 i13 w13_0).1)), (4, .int ((w13_0.2 0) ((40 : Int32) + (nI i13)).toNatClampNeg)), (3, .int (nI i13)), (2, .int x13_2), (0, .ref (q 0))]) hx hb dX6_bestOut_79 rfl hl (by decide) rfl (fun ls hl => ?_)
          refine lv_iload hx hb dX6_bestOut_80 (lv_at hl 1 rfl) ?_
          refine lv_iload_n hx hb dX6_bestOut_82 rfl (lv_at hl 4 rfl) ?_
          refine lv_icmp_le (tgt := 91) hx hb dX6_bestOut_83 (by decide) (fun c_83 => ?_) (fun c_83 => ?_)
          · refine lv_iload_n hx hb dX6_bestOut_91 rfl (lv_at hl 4 rfl) ?_
            refine lv_istore_n (lv' := [(2, .int x13_2), (1, .int x13_1), (5, .int ((r_X6_bestOut_52 i13 w13_0).1)), (4, .int ((w13_0.2 0) ((40 : Int32) + (nI i13)).toNatClampNeg)), (3, .int (nI i13)), (0, .ref (q 0))]) hx hb dX6_bestOut_92 rfl hl (by decide) rfl (fun ls hl => ?_)
            refine lv_iinc (v := (nI (i13 + 1))) (lv' := [(3, .int (nI (i13 + 1))), (2, .int x13_2), (1, .int x13_1), (5, .int ((r_X6_bestOut_52 i13 w13_0).1)), (4, .int ((w13_0.2 0) ((40 : Int32) + (nI i13)).toNatClampNeg)), (0, .ref (q 0))]) hx hb dX6_bestOut_93 hl (k := 4) rfl (nI_1 i13) (by decide) rfl (fun ls hl => ?_)
            refine lv_goto (tgt := 13) hx hb dX6_bestOut_96 (by decide) ?_
            have E : (f_X6_bestOut_L13 (n13 + 1) i13 x13_1 x13_2 w13_0) = (f_X6_bestOut_L13 n13 (i13 + 1) x13_1 x13_2 (s_X6_bestOut_67 i13 w13_0)) := (if_neg c_34).trans ((if_pos c_71).trans ((if_pos c_83).trans rfl))
            rw [E] at kx
            exact ih13 (i13 + 1) (by omega) x13_1 x13_2 (s_X6_bestOut_67 i13 w13_0) _ _ _ (zrow_put (zrow_if (zrow_put hat (by omega))) (by omega)) hP hD hS (lv_sub hl [0, 1, 2, 5] rfl) kx
          · refine lv_iload hx hb dX6_bestOut_86 (lv_at hl 1 rfl) ?_
            refine lv_goto (tgt := 92) hx hb dX6_bestOut_88 (by decide) ?_
            refine lv_istore_n (lv' := [(2, .int ((r_X6_bestOut_52 i13 w13_0).1)), (1, .int x13_1), (5, .int ((r_X6_bestOut_52 i13 w13_0).1)), (4, .int ((w13_0.2 0) ((40 : Int32) + (nI i13)).toNatClampNeg)), (3, .int (nI i13)), (0, .ref (q 0))]) hx hb dX6_bestOut_92 rfl hl (by decide) rfl (fun ls hl => ?_)
            refine lv_iinc (v := (nI (i13 + 1))) (lv' := [(3, .int (nI (i13 + 1))), (2, .int ((r_X6_bestOut_52 i13 w13_0).1)), (1, .int x13_1), (5, .int ((r_X6_bestOut_52 i13 w13_0).1)), (4, .int ((w13_0.2 0) ((40 : Int32) + (nI i13)).toNatClampNeg)), (0, .ref (q 0))]) hx hb dX6_bestOut_93 hl (k := 4) rfl (nI_1 i13) (by decide) rfl (fun ls hl => ?_)
            refine lv_goto (tgt := 13) hx hb dX6_bestOut_96 (by decide) ?_
            have E : (f_X6_bestOut_L13 (n13 + 1) i13 x13_1 x13_2 w13_0) = (f_X6_bestOut_L13 n13 (i13 + 1) x13_1 ((r_X6_bestOut_52 i13 w13_0).1) (s_X6_bestOut_67 i13 w13_0)) := (if_neg c_34).trans ((if_pos c_71).trans ((if_neg c_83).trans rfl))
            rw [E] at kx
            exact ih13 (i13 + 1) (by omega) x13_1 ((r_X6_bestOut_52 i13 w13_0).1) (s_X6_bestOut_67 i13 w13_0) _ _ _ (zrow_put (zrow_if (zrow_put hat (by omega))) (by omega)) hP hD hS (lv_sub hl [0, 1, 2, 5] rfl) kx
        · refine lv_iload_n hx hb dX6_bestOut_74 rfl (lv_at hl 2 rfl) ?_
          refine lv_goto (tgt := 79) hx hb dX6_bestOut_75 (by decide) ?_
          refine lv_istore_n (lv' := [(1, .int (nI i13)), (5, .int ((r_X6_bestOut_52 i13 w13_0).1)), (4, .int ((w13_0.2 0) ((40 : Int32) + (nI i13)).toNatClampNeg)), (3, .int (nI i13)), (2, .int x13_2), (0, .ref (q 0))]) hx hb dX6_bestOut_79 rfl hl (by decide) rfl (fun ls hl => ?_)
          refine lv_iload hx hb dX6_bestOut_80 (lv_at hl 1 rfl) ?_
          refine lv_iload_n hx hb dX6_bestOut_82 rfl (lv_at hl 4 rfl) ?_
          refine lv_icmp_le (tgt := 91) hx hb dX6_bestOut_83 (by decide) (fun c_83 => ?_) (fun c_83 => ?_)
          · refine lv_iload_n hx hb dX6_bestOut_91 rfl (lv_at hl 4 rfl) ?_
            refine lv_istore_n (lv' := [(2, .int x13_2), (1, .int (nI i13)), (5, .int ((r_X6_bestOut_52 i13 w13_0).1)), (4, .int ((w13_0.2 0) ((40 : Int32) + (nI i13)).toNatClampNeg)), (3, .int (nI i13)), (0, .ref (q 0))]) hx hb dX6_bestOut_92 rfl hl (by decide) rfl (fun ls hl => ?_)
            refine lv_iinc (v := (nI (i13 + 1))) (lv' := [(3, .int (nI (i13 + 1))), (2, .int x13_2), (1, .int (nI i13)), (5, .int ((r_X6_bestOut_52 i13 w13_0).1)), (4, .int ((w13_0.2 0) ((40 : Int32) + (nI i13)).toNatClampNeg)), (0, .ref (q 0))]) hx hb dX6_bestOut_93 hl (k := 4) rfl (nI_1 i13) (by decide) rfl (fun ls hl => ?_)
            refine lv_goto (tgt := 13) hx hb dX6_bestOut_96 (by decide) ?_
            have E : (f_X6_bestOut_L13 (n13 + 1) i13 x13_1 x13_2 w13_0) = (f_X6_bestOut_L13 n13 (i13 + 1) (nI i13) x13_2 (s_X6_bestOut_67 i13 w13_0)) := (if_neg c_34).trans ((if_neg c_71).trans ((if_pos c_83).trans rfl))
            rw [E] at kx
            exact ih13 (i13 + 1) (by omega) (nI i13) x13_2 (s_X6_bestOut_67 i13 w13_0) _ _ _ (zrow_put (zrow_if (zrow_put hat (by omega))) (by omega)) hP hD hS (lv_sub hl [0, 1, 2, 5] rfl) kx
          · refine lv_iload hx hb dX6_bestOut_86 (lv_at hl 1 rfl) ?_
            refine lv_goto (tgt := 92) hx hb dX6_bestOut_88 (by decide) ?_
            refine lv_istore_n (lv' := [(2, .int ((r_X6_bestOut_52 i13 w13_0).1)), (1, .int (nI i13)), (5, .int ((r_X6_bestOut_52 i13 w13_0).1)), (4, .int ((w13_0.2 0) ((40 : Int32) + (nI i13)).toNatClampNeg)), (3, .int (nI i13)), (0, .ref (q 0))]) hx hb dX6_bestOut_92 rfl hl (by decide) rfl (fun ls hl => ?_)
            refine lv_iinc (v := (nI (i13 + 1))) (lv' := [(3, .int (nI (i13 + 1))), (2, .int ((r_X6_bestOut_52 i13 w13_0).1)), (1, .int (nI i13)), (5, .int ((r_X6_bestOut_52 i13 w13_0).1)), (4, .int ((w13_0.2 0) ((40 : Int32) + (nI i13)).toNatClampNeg)), (0, .ref (q 0))]) hx hb dX6_bestOut_93 hl (k := 4) rfl (nI_1 i13) (by decide) rfl (fun ls hl => ?_)
            refine lv_goto (tgt := 13) hx hb dX6_bestOut_96 (by decide) ?_
            have E : (f_X6_bestOut_L13 (n13 + 1) i13 x13_1 x13_2 w13_0) = (f_X6_bestOut_L13 n13 (i13 + 1) (nI i13) ((r_X6_bestOut_52 i13 w13_0).1) (s_X6_bestOut_67 i13 w13_0)) := (if_neg c_34).trans ((if_neg c_71).trans ((if_neg c_83).trans rfl))
            rw [E] at kx
            exact ih13 (i13 + 1) (by omega) (nI i13) ((r_X6_bestOut_52 i13 w13_0).1) (s_X6_bestOut_67 i13 w13_0) _ _ _ (zrow_put (zrow_if (zrow_put hat (by omega))) (by omega)) hP hD hS (lv_sub hl [0, 1, 2, 5] rfl) kx
  refine L13 (zfu 96) 0 (by rw [zfu_eq]) (-6 : Int32) ((r_X6_bestOut_7 v).1) (r_X6_bestOut_7 v).2 _ _ _ (zrow_if hat) hP hD hS (lv_sub hl [0, 1, 2, 3] rfl) (fun H locs ls hP hD hS hl => ?_)
  refine lv_iload_n hx hb dX6_bestOut_99 rfl (lv_at hl 1 rfl) ?_
  have E : (f_X6_bestOut v) = ((f_X6_bestOut_L13 (zfu 96) 0 (-6 : Int32) ((r_X6_bestOut_7 v).1) (r_X6_bestOut_7 v).2).1, (f_X6_bestOut_L13 (zfu 96) 0 (-6 : Int32) ((r_X6_bestOut_7 v).1) (r_X6_bestOut_7 v).2).2.2) := rfl
  have e1 : (f_X6_bestOut_L13 (zfu 96) 0 (-6 : Int32) ((r_X6_bestOut_7 v).1) (r_X6_bestOut_7 v).2).1 = (f_X6_bestOut v).1 := by rw [E]
  have e2 : (mo g q (f_X6_bestOut_L13 (zfu 96) 0 (-6 : Int32) ((r_X6_bestOut_7 v).1) (r_X6_bestOut_7 v).2).2.2) = (mo g q (f_X6_bestOut v).2) := by rw [E]
  exact hret (f_X6_bestOut_L13 (zfu 96) 0 (-6 : Int32) ((r_X6_bestOut_7 v).1) (r_X6_bestOut_7 v).2).1 (mo g q (f_X6_bestOut_L13 (zfu 96) 0 (-6 : Int32) ((r_X6_bestOut_7 v).1) (r_X6_bestOut_7 v).2).2.2) _ _ _ _ dX6_bestOut_100 e1 (rfl) e2 hP hD hS
theorem zcl_lt {x : Int32} {n i k : Nat} (h : vp_in x n) (e : i + (k + 1) = x.toNatClampNeg) : i < n := by
  obtain ⟨h1, h2⟩ := vp_in_iff.mp h
  have h3 := zclamp x
  omega
theorem zin_sum {x : Int32} {i : Nat} (h : vp_in x 16) (hi : i < 9) : vp_in (x + (nI i)) 32 := by
  obtain ⟨r, hr, rfl⟩ := vp_in_of h (by omega)
  rw [nI_add]
  exact vp_in_nI (by omega) (by omega)
abbrev rm_X6_nextStamps : Room := { frames := 3, cells := 0, slots := 0, locals := 66 }
set_option maxRecDepth 20000 in
theorem zin_X6_nextStamps_X6 : ∀ w ∈ wsX60, w ∈ wsX6_nextStamps := by decide +kernel
def r_X6_nextStamps_40 (v : zCV) (i17 : Nat) : Int32 := (f_X6_setIn v ((((v.2 0) 4) + (nI i17)) - (((((v.2 0) 4) + (nI i17)) / (16 : Int32)) * (16 : Int32))))
def f_X6_nextStamps_L17 (v : zCV) : Nat → Nat → Int32 → Int32
  | 0, i17, x17_2 => x17_2
  | n17 + 1, i17, x17_2 => (f_X6_nextStamps_L17 v n17 (i17 + 1) (x17_2 ||| (r_X6_nextStamps_40 v i17)))
def f_X6_nextStamps (v : zCV) (p0 : Int32) : Int32 := if (f_X6_in (p0.toInt64) (0 : Int64) (1 : Int64)) = (0 : Int32) then ((-2 : Int32)) else ((f_X6_nextStamps_L17 v (zfu ((v.2 0) 0).toNatClampNeg) 0 (0 : Int32)))
set_option maxRecDepth 100000 in
set_option maxHeartbeats 4000000 in
theorem m_X6_nextStamps (l : Launch) (g : zG) (q : Nat → Nat) (v : zCV) (p0 : Int32) (hat : vp_in (v.2 0 4) 16) (hf : vp_in (v.2 0 0) 9) : ZI l yX6_nextStamps wsX6_nextStamps rm_X6_nextStamps g (mo g q v) [.ref (q 0), .int p0] (f_X6_nextStamps v p0) (mo g q v) := by
  refine zopenI (cc := cX6_nextStamps) (maxL := 4) (ret := .int) (by decide +kernel) rfl (Nat.le_of_ble_eq_true rfl) ?_
  intro p e s m below meth c A Q ls hx hb hml hown hts hP hK hD hA hN hl hret
  have hS : va_S A s.heap s.heap [] := va_S.rf
  have hl : lv_has ls 4 [(0, .ref (q 0)), (1, .int p0)] := hl
  have hown : s.vm.findClass RX6 = some m.cls := hown
  refine lv_iload_n hx hb dX6_nextStamps_0 rfl (lv_at hl 1 rfl) ?_
  refine lv_i2l hx hb dX6_nextStamps_1 rfl ?_
  refine lv_lconst (v := (0 : Int64)) hx hb dX6_nextStamps_2 (by decide) ?_
  refine lv_lconst (v := (1 : Int64)) hx hb dX6_nextStamps_3 (by decide) ?_
  refine zcSi (n := 3) (As := [.long (p0.toInt64), .long (0 : Int64), .long (1 : Int64)]) (rest := []) hx hb hml hown hts hN (m_X6_in l g (p0.toInt64) (0 : Int64) (1 : Int64)) gX6_nextStamps_X6_in rfl (by decide +kernel) ⟨rfl, rfl⟩ ⟨Nat.le_of_ble_eq_true rfl, Nat.le_of_ble_eq_true rfl⟩ hK hP hD hS hA rfl hl.1 rfl (Nat.le_of_ble_eq_true rfl) dX6_nextStamps_4 ⟨Nat.zero_le _, Nat.zero_le _⟩ (fun H locs hP hD hS => ?_)
  refine lv_if_ne (tgt := 13) hx hb dX6_nextStamps_7 (by decide) (fun c_7 => ?_) (fun c_7 => ?_)
  · refine lv_iconst (v := (0 : Int32)) hx hb dX6_nextStamps_13 (by decide) ?_
    refine lv_istore_n (lv' := [(2, .int (0 : Int32)), (0, .ref (q 0)), (1, .int p0)]) hx hb dX6_nextStamps_14 rfl hl (by decide) rfl (fun ls hl => ?_)
    refine lv_iconst (v := (0 : Int32)) hx hb dX6_nextStamps_15 (by decide) ?_
    refine lv_istore_n (lv' := [(3, .int (0 : Int32)), (2, .int (0 : Int32)), (0, .ref (q 0)), (1, .int p0)]) hx hb dX6_nextStamps_16 rfl hl (by decide) rfl (fun ls hl => ?_)
    have L17 : ∀ (n17 : Nat) (i17 : Nat), i17 + n17 = ((v.2 0) 0).toNatClampNeg → ∀ (x17_2 : Int32) (H : Heap) (locs : List Loc) (ls : Array Slot), va_P g.1 vwCl (mo g q v) H → va_D A (mo g q v) → va_S A s.heap H locs → lv_has ls 4 [(3, .int (nI i17)), (2, .int x17_2), (0, .ref (q 0)), (1, .int p0)] → (∀ (H : Heap) (locs : List Loc) (ls : Array Slot), va_P g.1 vwCl (mo g q v) H → va_D A (mo g q v) → va_S A s.heap H locs → lv_has ls 4 [(2, .int (f_X6_nextStamps_L17 v n17 i17 x17_2)), (0, .ref (q 0)), (1, .int p0)] → W p l e rm_X6_nextStamps s m ([.ref (q 0), .int p0] : List Value).toArray below meth c H locs 0 0 Q (F0 m 51 ls [])) → W p l e rm_X6_nextStamps s m ([.ref (q 0), .int p0] : List Value).toArray below meth c H locs 0 0 Q (F0 m 17 ls []) := by
      intro n17
      induction n17 with
      | zero =>
        intro i17 hin17 x17_2 H locs ls hP hD hS hl kx
        refine lv_iload_n hx hb dX6_nextStamps_17 rfl (lv_at hl 0 rfl) ?_
        refine lv_aload_n hx hb dX6_nextStamps_18 rfl (lv_at hl 2 rfl) ?_
        refine va_get (D := g.1) (ci := 6) (v := .ref (q 1)) (C := RX6) (T := TX6) (N := 12) hx hb hts (zin_X6_nextStamps_X6) hown hK hP 0 rfl rfl 0 (by decide) (hts (.fieldLink RX6 7 "PegClerksModel" "all" "[I") (by decide +kernel)) (fun _ h9 => h9) rfl dX6_nextStamps_19 ?_
        refine lv_iconst (v := (0 : Int32)) hx hb dX6_nextStamps_22 (by decide) ?_
        refine z_iald (f := (v.2 0)) (k := 0) hx hb hK hP 1 0 rfl rfl (zlit (0 : Int32) 136 (by decide +kernel)) (by decide +kernel) dX6_nextStamps_23 ?_
        refine lv_icmp_ge (tgt := 51) hx hb dX6_nextStamps_24 (by decide) (fun c_24 => ?_) (fun c_24 => ?_)
        rotate_left
        · exact absurd (zge0 (by omega)) c_24
        have E : (f_X6_nextStamps_L17 v 0 i17 x17_2) = x17_2 := rfl
        rw [E] at kx
        exact kx _ _ _ hP hD hS (lv_sub hl [1, 2, 3] rfl)
      | succ n17 ih17 =>
        intro i17 hin17 x17_2 H locs ls hP hD hS hl kx
        refine lv_iload_n hx hb dX6_nextStamps_17 rfl (lv_at hl 0 rfl) ?_
        refine lv_aload_n hx hb dX6_nextStamps_18 rfl (lv_at hl 2 rfl) ?_
        refine va_get (D := g.1) (ci := 6) (v := .ref (q 1)) (C := RX6) (T := TX6) (N := 12) hx hb hts (zin_X6_nextStamps_X6) hown hK hP 0 rfl rfl 0 (by decide) (hts (.fieldLink RX6 7 "PegClerksModel" "all" "[I") (by decide +kernel)) (fun _ h9 => h9) rfl dX6_nextStamps_19 ?_
        refine lv_iconst (v := (0 : Int32)) hx hb dX6_nextStamps_22 (by decide) ?_
        refine z_iald (f := (v.2 0)) (k := 0) hx hb hK hP 1 0 rfl rfl (zlit (0 : Int32) 136 (by decide +kernel)) (by decide +kernel) dX6_nextStamps_23 ?_
        refine lv_icmp_ge (tgt := 51) hx hb dX6_nextStamps_24 (by decide) (fun c_24 => ?_) (fun c_24 => ?_)
        · exact absurd c_24 (zge1 (by omega))
        refine lv_iload_n hx hb dX6_nextStamps_27 rfl (lv_at hl 1 rfl) ?_
        refine lv_aload_n hx hb dX6_nextStamps_28 rfl (lv_at hl 2 rfl) ?_
        refine lv_aload_n hx hb dX6_nextStamps_29 rfl (lv_at hl 2 rfl) ?_
        refine va_get (D := g.1) (ci := 6) (v := .ref (q 1)) (C := RX6) (T := TX6) (N := 12) hx hb hts (zin_X6_nextStamps_X6) hown hK hP 0 rfl rfl 0 (by decide) (hts (.fieldLink RX6 7 "PegClerksModel" "all" "[I") (by decide +kernel)) (fun _ h9 => h9) rfl dX6_nextStamps_30 ?_
        refine lv_iconst (v := (4 : Int32)) hx hb dX6_nextStamps_33 (by decide) ?_
        refine z_iald (f := (v.2 0)) (k := 4) hx hb hK hP 1 0 rfl rfl (zlit (4 : Int32) 136 (by decide +kernel)) (by decide +kernel) dX6_nextStamps_34 ?_
        refine lv_iload_n hx hb dX6_nextStamps_35 rfl (lv_at hl 0 rfl) ?_
        refine lv_iadd hx hb dX6_nextStamps_36 ?_
        refine lv_bipush (v := (16 : Int32)) hx hb dX6_nextStamps_37 (by decide) ?_
        refine lv_irem hx hb dX6_nextStamps_39 (by decide) ?_
        refine zcVi (n := 1) (As := [.int ((((v.2 0) 4) + (nI i17)) - (((((v.2 0) 4) + (nI i17)) / (16 : Int32)) * (16 : Int32)))]) (rest := [.int x17_2]) (Xr := []) (Xn := (mo g q v)) (ci := 6) (C := RX6) (T := TX6) (N := 12) (q0 := 0) hx hb hml hown hts hN (m_X6_setIn l g q v ((((v.2 0) 4) + (nI i17)) - (((((v.2 0) 4) + (nI i17)) / (16 : Int32)) * (16 : Int32))) (zrem16 (zin_sum hat (zcl_lt hf hin17)) (by omega))) gX6_nextStamps_X6_setIn rfl (by decide +kernel) ⟨rfl, rfl⟩ ⟨Nat.le_of_ble_eq_true rfl, Nat.le_of_ble_eq_true rfl⟩ hK hP hD hS hA (zpn _) rfl rfl rfl hl.1 rfl (Nat.le_of_ble_eq_true rfl) dX6_nextStamps_40 ⟨Nat.zero_le _, Nat.zero_le _⟩ (zpn' _) (fun H locs hP hD hS => ?_)
        refine lv_ior hx hb dX6_nextStamps_43 ?_
        refine lv_istore_n (lv' := [(2, .int (x17_2 ||| (r_X6_nextStamps_40 v i17))), (3, .int (nI i17)), (0, .ref (q 0)), (1, .int p0)]) hx hb dX6_nextStamps_44 rfl hl (by decide) rfl (fun ls hl => ?_)
        refine lv_iinc (v := (nI (i17 + 1))) (lv' := [(3, .int (nI (i17 + 1))), (2, .int (x17_2 ||| (r_X6_nextStamps_40 v i17))), (0, .ref (q 0)), (1, .int p0)]) hx hb dX6_nextStamps_45 hl (k := 1) rfl (nI_1 i17) (by decide) rfl (fun ls hl => ?_)
        refine lv_goto (tgt := 17) hx hb dX6_nextStamps_48 (by decide) ?_
        have E : (f_X6_nextStamps_L17 v (n17 + 1) i17 x17_2) = (f_X6_nextStamps_L17 v n17 (i17 + 1) (x17_2 ||| (r_X6_nextStamps_40 v i17))) := rfl
        rw [E] at kx
        exact ih17 (i17 + 1) (by omega) (x17_2 ||| (r_X6_nextStamps_40 v i17)) _ _ _  hP hD hS (lv_sub hl [0, 1, 2, 3] rfl) kx
    refine L17 (zfu ((v.2 0) 0).toNatClampNeg) 0 (by rw [zfu_eq]; omega) (0 : Int32) _ _ _  hP hD hS (lv_sub hl [0, 1, 2, 3] rfl) (fun H locs ls hP hD hS hl => ?_)
    refine lv_iload_n hx hb dX6_nextStamps_51 rfl (lv_at hl 0 rfl) ?_
    have E : (f_X6_nextStamps v p0) = (f_X6_nextStamps_L17 v (zfu ((v.2 0) 0).toNatClampNeg) 0 (0 : Int32)) := (if_neg c_7).trans rfl
    exact hret _ _ _ _ _ _ dX6_nextStamps_52 E.symm (rfl) rfl hP hD hS
  · refine lv_bipush (v := (-2 : Int32)) hx hb dX6_nextStamps_10 (by decide) ?_
    have E : (f_X6_nextStamps v p0) = (-2 : Int32) := (if_pos c_7).trans rfl
    exact hret _ _ _ _ _ _ dX6_nextStamps_12 E.symm (rfl) rfl hP hD hS
abbrev rm_X6_charactersOf : Room := { frames := 1, cells := 0, slots := 0, locals := 25 }
def f_X6_charactersOf_L5  : Nat → Nat → Int64 → Int32 × Int64
  | 0, i5, x5_2 => ((nI i5), x5_2)
  | n5 + 1, i5, x5_2 => if (f_X6_in (x5_2 &&& (255 : Int64)) (33 : Int64) (126 : Int64)) = (0 : Int32) then (((nI i5), x5_2)) else ((f_X6_charactersOf_L5 n5 (i5 + 1) ((x5_2.toUInt64 >>> ((8 : Int32).toInt64.toUInt64 &&& Int64.toUInt64 63)).toInt64)))
def f_X6_charactersOf (p0 : Int64) : Int32 := if (lg_cmp (f_X6_charactersOf_L5 (zfu 8) 0 p0).2 (0 : Int64)) = (0 : Int32) then ((f_X6_charactersOf_L5 (zfu 8) 0 p0).1) else ((0 : Int32))
set_option maxRecDepth 100000 in
set_option maxHeartbeats 4000000 in
theorem m_X6_charactersOf (l : Launch) (g : zG) (p0 : Int64) : ZI l yX6_charactersOf wsX6_charactersOf rm_X6_charactersOf g [] [.long p0] (f_X6_charactersOf p0) [] := by
  refine zopenI (cc := cX6_charactersOf) (maxL := 5) (ret := .int) (by decide +kernel) rfl (Nat.le_of_ble_eq_true rfl) ?_
  intro p e s m below meth c A Q ls hx hb hml hown hts hP hK hD hA hN hl hret
  have hS : va_S A s.heap s.heap [] := va_S.rf
  have hl : lv_has ls 5 [(0, .long p0)] := hl
  have hown : s.vm.findClass RX6 = some m.cls := hown
  refine lv_lload_n hx hb dX6_charactersOf_0 rfl (lv_at hl 0 rfl) ?_
  refine lv_lstore_n (lv' := [(2, .long p0), (0, .long p0)]) hx hb dX6_charactersOf_1 rfl hl (by decide) rfl (fun ls hl => ?_)
  refine lv_iconst (v := (0 : Int32)) hx hb dX6_charactersOf_2 (by decide) ?_
  refine lv_istore (lv' := [(4, .int (0 : Int32)), (2, .long p0), (0, .long p0)]) hx hb dX6_charactersOf_3 hl (by decide) rfl (fun ls hl => ?_)
  have L5 : ∀ (n5 : Nat) (i5 : Nat), i5 + n5 = 8 → ∀ (x5_2 : Int64) (H : Heap) (locs : List Loc) (ls : Array Slot), va_P g.1 vwCl ([] : va_W) H → va_D A ([] : va_W) → va_S A s.heap H locs → lv_has ls 5 [(4, .int (nI i5)), (2, .long x5_2), (0, .long p0)] → (∀ (H : Heap) (locs : List Loc) (ls : Array Slot), va_P g.1 vwCl ([] : va_W) H → va_D A ([] : va_W) → va_S A s.heap H locs → lv_has ls 5 [(4, .int (f_X6_charactersOf_L5 n5 i5 x5_2).1), (2, .long (f_X6_charactersOf_L5 n5 i5 x5_2).2), (0, .long p0)] → W p l e rm_X6_charactersOf s m ([.long p0] : List Value).toArray below meth c H locs 0 0 Q (F0 m 40 ls [])) → W p l e rm_X6_charactersOf s m ([.long p0] : List Value).toArray below meth c H locs 0 0 Q (F0 m 5 ls []) := by
    intro n5
    induction n5 with
    | zero =>
      intro i5 hin5 x5_2 H locs ls hP hD hS hl kx
      refine lv_iload hx hb dX6_charactersOf_5 (lv_at hl 0 rfl) ?_
      refine lv_bipush (v := (8 : Int32)) hx hb dX6_charactersOf_7 (by decide) ?_
      refine lv_icmp_ge (tgt := 40) hx hb dX6_charactersOf_9 (by decide) (fun c_9 => ?_) (fun c_9 => ?_)
      rotate_left
      · exact absurd (by rw [show i5 = 8 by omega]; decide) c_9
      have E : (f_X6_charactersOf_L5 0 i5 x5_2) = ((nI i5), x5_2) := rfl
      rw [E] at kx
      exact kx _ _ _ hP hD hS (lv_sub hl [0, 1, 2] rfl)
    | succ n5 ih5 =>
      intro i5 hin5 x5_2 H locs ls hP hD hS hl kx
      refine lv_iload hx hb dX6_charactersOf_5 (lv_at hl 0 rfl) ?_
      refine lv_bipush (v := (8 : Int32)) hx hb dX6_charactersOf_7 (by decide) ?_
      refine lv_icmp_ge (tgt := 40) hx hb dX6_charactersOf_9 (by decide) (fun c_9 => ?_) (fun c_9 => ?_)
      · exact absurd c_9 (nI_ge (a := i5) (b := 8) (by omega) (by omega))
      refine lv_lload_n hx hb dX6_charactersOf_12 rfl (lv_at hl 1 rfl) ?_
      refine lv_ldc2 (v := (255 : Int64)) hx hb hown (hts (.constantLong RX6 137 (255)) (by decide +kernel)) dX6_charactersOf_13 ?_
      refine lv_land hx hb dX6_charactersOf_16 ?_
      refine lv_ldc2 (v := (33 : Int64)) hx hb hown (hts (.constantLong RX6 139 (33)) (by decide +kernel)) dX6_charactersOf_17 ?_
      refine lv_ldc2 (v := (126 : Int64)) hx hb hown (hts (.constantLong RX6 141 (126)) (by decide +kernel)) dX6_charactersOf_20 ?_
      refine zcSi (n := 3) (As := [.long (x5_2 &&& (255 : Int64)), .long (33 : Int64), .long (126 : Int64)]) (rest := []) hx hb hml hown hts hN (m_X6_in l g (x5_2 &&& (255 : Int64)) (33 : Int64) (126 : Int64)) gX6_charactersOf_X6_in rfl (by decide +kernel) ⟨rfl, rfl⟩ ⟨Nat.le_of_ble_eq_true rfl, Nat.le_of_ble_eq_true rfl⟩ hK hP hD hS hA rfl hl.1 rfl (Nat.le_of_ble_eq_true rfl) dX6_charactersOf_23 ⟨Nat.zero_le _, Nat.zero_le _⟩ (fun H locs hP hD hS => ?_)
      refine lv_if_eq (tgt := 40) hx hb dX6_charactersOf_26 (by decide) (fun c_26 => ?_) (fun c_26 => ?_)
      · have E : (f_X6_charactersOf_L5 (n5 + 1) i5 x5_2) = ((nI i5), x5_2) := (if_pos c_26).trans rfl
        rw [E] at kx
        exact kx _ _ _ hP hD hS (lv_sub hl [0, 1, 2] rfl)
      · refine lv_lload_n hx hb dX6_charactersOf_29 rfl (lv_at hl 1 rfl) ?_
        refine lv_bipush (v := (8 : Int32)) hx hb dX6_charactersOf_30 (by decide) ?_
        refine lv_lushr hx hb dX6_charactersOf_32 rfl ?_
        refine lv_lstore_n (lv' := [(2, .long ((x5_2.toUInt64 >>> ((8 : Int32).toInt64.toUInt64 &&& Int64.toUInt64 63)).toInt64)), (4, .int (nI i5)), (0, .long p0)]) hx hb dX6_charactersOf_33 rfl hl (by decide) rfl (fun ls hl => ?_)
        refine lv_iinc (v := (nI (i5 + 1))) (lv' := [(4, .int (nI (i5 + 1))), (2, .long ((x5_2.toUInt64 >>> ((8 : Int32).toInt64.toUInt64 &&& Int64.toUInt64 63)).toInt64)), (0, .long p0)]) hx hb dX6_charactersOf_34 hl (k := 1) rfl (nI_1 i5) (by decide) rfl (fun ls hl => ?_)
        refine lv_goto (tgt := 5) hx hb dX6_charactersOf_37 (by decide) ?_
        have E : (f_X6_charactersOf_L5 (n5 + 1) i5 x5_2) = (f_X6_charactersOf_L5 n5 (i5 + 1) ((x5_2.toUInt64 >>> ((8 : Int32).toInt64.toUInt64 &&& Int64.toUInt64 63)).toInt64)) := (if_neg c_26).trans rfl
        rw [E] at kx
        exact ih5 (i5 + 1) (by omega) ((x5_2.toUInt64 >>> ((8 : Int32).toInt64.toUInt64 &&& Int64.toUInt64 63)).toInt64) _ _ _  hP hD hS (lv_sub hl [0, 1, 2] rfl) kx
  refine L5 (zfu 8) 0 (by rw [zfu_eq]) p0 _ _ _  hP hD hS (lv_sub hl [0, 1, 2] rfl) (fun H locs ls hP hD hS hl => ?_)
  refine lv_lload_n hx hb dX6_charactersOf_40 rfl (lv_at hl 1 rfl) ?_
  refine lv_lconst (v := (0 : Int64)) hx hb dX6_charactersOf_41 (by decide) ?_
  refine W.lcmp hx hb dX6_charactersOf_42 ?_
  refine lv_if_ne (tgt := 51) hx hb dX6_charactersOf_43 (by decide) (fun c_43 => ?_) (fun c_43 => ?_)
  · refine lv_iconst (v := (0 : Int32)) hx hb dX6_charactersOf_51 (by decide) ?_
    have E : (f_X6_charactersOf p0) = (0 : Int32) := (if_neg c_43).trans rfl
    exact hret _ _ _ _ _ _ dX6_charactersOf_52 E.symm (rfl) rfl hP hD hS
  · refine lv_iload hx hb dX6_charactersOf_46 (lv_at hl 0 rfl) ?_
    refine lv_goto (tgt := 52) hx hb dX6_charactersOf_48 (by decide) ?_
    have E : (f_X6_charactersOf p0) = (f_X6_charactersOf_L5 (zfu 8) 0 p0).1 := (if_pos c_43).trans rfl
    exact hret _ _ _ _ _ _ dX6_charactersOf_52 E.symm (rfl) rfl hP hD hS
theorem e_charsL : ∀ (n i : Nat) (x : Int64), i + n = 8 → ∃ k : Nat, k ≤ 8 ∧ (f_X6_charactersOf_L5 n i x).1 = nI k
  | 0, i, x, h => ⟨i, by omega, rfl⟩
  | n + 1, i, x, h => by
    unfold f_X6_charactersOf_L5
    split
    · exact ⟨i, by omega, rfl⟩
    · exact e_charsL n (i + 1) _ (by omega)
theorem zchars_le (x : Int64) : vp_in (f_X6_charactersOf x) 9 := by
  unfold f_X6_charactersOf
  split
  · obtain ⟨k, hk, e⟩ := e_charsL (zfu 8) 0 x (by rw [zfu_eq])
    rw [e]
    exact vp_in_nI (by omega) (by omega)
  · exact zlit _ 9 (by decide +kernel)
theorem zin_put {t n : Int32} {i : Nat} (ht : vp_in t 61) (hn : vp_in n 9) (hc : (t + n) ≤ (60 : Int32)) (hi : i < n.toNatClampNeg) : vp_in (t + (nI i)) 60 := by
  obtain ⟨a, ha, rfl⟩ := vp_in_of ht (by omega)
  obtain ⟨b, hb, rfl⟩ := vp_in_of hn (by omega)
  rw [nI_add] at hc
  have h1 := (nI_leI (a := a + b) (b := 60) (by omega) (by omega)).mp hc
  rw [nI_clamp (by omega)] at hi
  rw [nI_add]
  exact vp_in_nI (by omega) (by omega)
abbrev rm_X6_put : Room := { frames := 2, cells := 0, slots := 0, locals := 49 }
set_option maxRecDepth 20000 in
theorem zin_X6_put_X6 : ∀ w ∈ wsX60, w ∈ wsX6_put := by decide +kernel
def s_X6_put_62 (p0 : Int64) (i29 : Nat) (w29_0 : zCV) : zCV := zA w29_0 5 (upd (w29_0.2 5) ((w29_0.1 1) + (nI i29)).toNatClampNeg ((((p0.toUInt64 >>> (((8 : Int32) * (((f_X6_charactersOf p0) - (1 : Int32)) - (nI i29))).toInt64.toUInt64 &&& Int64.toUInt64 63)).toInt64) &&& (255 : Int64)).toInt32))
def f_X6_put_L29 (p0 : Int64) : Nat → Nat → zCV → zCV
  | 0, i29, w29_0 => w29_0
  | n29 + 1, i29, w29_0 => (f_X6_put_L29 p0 n29 (i29 + 1) (s_X6_put_62 p0 i29 w29_0))
def s_X6_put_76 (v : zCV) (p0 : Int64) : zCV := zS (f_X6_put_L29 p0 (zfu (f_X6_charactersOf p0).toNatClampNeg) 0 v) 1 (((f_X6_put_L29 p0 (zfu (f_X6_charactersOf p0).toNatClampNeg) 0 v).1 1) + (f_X6_charactersOf p0))
def f_X6_put (v : zCV) (p0 : Int64) : Int32 × zCV := if (f_X6_charactersOf p0) = (0 : Int32) then (((-2 : Int32), v)) else (if ((v.1 1) + (f_X6_charactersOf p0)) ≤ (60 : Int32) then ((((s_X6_put_76 v p0).1 1), (s_X6_put_76 v p0))) else (((-4 : Int32), v)))
set_option maxRecDepth 100000 in
set_option maxHeartbeats 4000000 in
theorem m_X6_put (l : Launch) (g : zG) (q : Nat → Nat) (v : zCV) (p0 : Int64) (htl : vp_in (v.1 1) 61) : ZI l yX6_put wsX6_put rm_X6_put g (mo g q v) [.ref (q 0), .long p0] (f_X6_put v p0).1 (mo g q (f_X6_put v p0).2) := by
  refine zopenI (cc := cX6_put) (maxL := 5) (ret := .int) (by decide +kernel) rfl (Nat.le_of_ble_eq_true rfl) ?_
  intro p e s m below meth c A Q ls hx hb hml hown hts hP hK hD hA hN hl hret
  have hS : va_S A s.heap s.heap [] := va_S.rf
  have hl : lv_has ls 5 [(0, .ref (q 0)), (1, .long p0)] := hl
  have hown : s.vm.findClass RX6 = some m.cls := hown
  refine lv_lload_n hx hb dX6_put_0 rfl (lv_at hl 1 rfl) ?_
  refine zcSi (n := 1) (As := [.long p0]) (rest := []) hx hb hml hown hts hN (m_X6_charactersOf l g p0) gX6_put_X6_charactersOf rfl (by decide +kernel) ⟨rfl, rfl⟩ ⟨Nat.le_of_ble_eq_true rfl, Nat.le_of_ble_eq_true rfl⟩ hK hP hD hS hA rfl hl.1 rfl (Nat.le_of_ble_eq_true rfl) dX6_put_1 ⟨Nat.zero_le _, Nat.zero_le _⟩ (fun H locs hP hD hS => ?_)
  refine lv_istore_n (lv' := [(3, .int (f_X6_charactersOf p0)), (0, .ref (q 0)), (1, .long p0)]) hx hb dX6_put_4 rfl hl (by decide) rfl (fun ls hl => ?_)
  refine lv_iload_n hx hb dX6_put_5 rfl (lv_at hl 0 rfl) ?_
  refine lv_if_ne (tgt := 12) hx hb dX6_put_6 (by decide) (fun c_6 => ?_) (fun c_6 => ?_)
  · refine lv_aload_n hx hb dX6_put_12 rfl (lv_at hl 1 rfl) ?_
    refine va_get (D := g.1) (ci := 6) (v := .int (v.1 1)) (C := RX6) (T := TX6) (N := 12) hx hb hts (zin_X6_put_X6) hown hK hP 0 rfl rfl 7 (by decide) (hts (.fieldLink RX6 121 "PegClerksModel" "textLong" "I") (by decide +kernel)) (fun _ h9 => h9) rfl dX6_put_13 ?_
    refine lv_iload_n hx hb dX6_put_16 rfl (lv_at hl 0 rfl) ?_
    refine lv_iadd hx hb dX6_put_17 ?_
    refine lv_bipush (v := (60 : Int32)) hx hb dX6_put_18 (by decide) ?_
    refine lv_icmp_le (tgt := 26) hx hb dX6_put_20 (by decide) (fun c_20 => ?_) (fun c_20 => ?_)
    · refine lv_iconst (v := (0 : Int32)) hx hb dX6_put_26 (by decide) ?_
      refine lv_istore (lv' := [(4, .int (0 : Int32)), (3, .int (f_X6_charactersOf p0)), (0, .ref (q 0)), (1, .long p0)]) hx hb dX6_put_27 hl (by decide) rfl (fun ls hl => ?_)
      have L29 : ∀ (n29 : Nat) (i29 : Nat), i29 + n29 = (f_X6_charactersOf p0).toNatClampNeg → ∀ (w29_0 : zCV) (H : Heap) (locs : List Loc) (ls : Array Slot), w29_0.1 = v.1 → va_P g.1 vwCl (mo g q w29_0) H → va_D A (mo g q w29_0) → va_S A s.heap H locs → lv_has ls 5 [(4, .int (nI i29)), (3, .int (f_X6_charactersOf p0)), (0, .ref (q 0)), (1, .long p0)] → (∀ (H : Heap) (locs : List Loc) (ls : Array Slot), va_P g.1 vwCl (mo g q (f_X6_put_L29 p0 n29 i29 w29_0)) H → va_D A (mo g q (f_X6_put_L29 p0 n29 i29 w29_0)) → va_S A s.heap H locs → lv_has ls 5 [(3, .int (f_X6_charactersOf p0)), (0, .ref (q 0)), (1, .long p0)] → W p l e rm_X6_put s m ([.ref (q 0), .long p0] : List Value).toArray below meth c H locs 0 0 Q (F0 m 69 ls [])) → W p l e rm_X6_put s m ([.ref (q 0), .long p0] : List Value).toArray below meth c H locs 0 0 Q (F0 m 29 ls []) := by
        intro n29
        induction n29 with
        | zero =>
          intro i29 hin29 w29_0 H locs ls hw hP hD hS hl kx
          refine lv_iload hx hb dX6_put_29 (lv_at hl 0 rfl) ?_
          refine lv_iload_n hx hb dX6_put_31 rfl (lv_at hl 1 rfl) ?_
          refine lv_icmp_ge (tgt := 69) hx hb dX6_put_32 (by decide) (fun c_32 => ?_) (fun c_32 => ?_)
          rotate_left
          · exact absurd (zge0 (by omega)) c_32
          have E : (f_X6_put_L29 p0 0 i29 w29_0) = w29_0 := rfl
          rw [E] at kx
          exact kx _ _ _ hP hD hS (lv_sub hl [1, 2, 3] rfl)
        | succ n29 ih29 =>
          intro i29 hin29 w29_0 H locs ls hw hP hD hS hl kx
          refine lv_iload hx hb dX6_put_29 (lv_at hl 0 rfl) ?_
          refine lv_iload_n hx hb dX6_put_31 rfl (lv_at hl 1 rfl) ?_
          refine lv_icmp_ge (tgt := 69) hx hb dX6_put_32 (by decide) (fun c_32 => ?_) (fun c_32 => ?_)
          · exact absurd c_32 (zge1 (by omega))
          refine lv_aload_n hx hb dX6_put_35 rfl (lv_at hl 2 rfl) ?_
          refine va_get (D := g.1) (ci := 6) (v := .ref (q 6)) (C := RX6) (T := TX6) (N := 12) hx hb hts (zin_X6_put_X6) hown hK hP 0 rfl rfl 6 (by decide) (hts (.fieldLink RX6 25 "PegClerksModel" "text" "[I") (by decide +kernel)) (fun _ h9 => h9) rfl dX6_put_36 ?_
          refine lv_aload_n hx hb dX6_put_39 rfl (lv_at hl 2 rfl) ?_
          refine va_get (D := g.1) (ci := 6) (v := .int (w29_0.1 1)) (C := RX6) (T := TX6) (N := 12) hx hb hts (zin_X6_put_X6) hown hK hP 0 rfl rfl 7 (by decide) (hts (.fieldLink RX6 121 "PegClerksModel" "textLong" "I") (by decide +kernel)) (fun _ h9 => h9) rfl dX6_put_40 ?_
          refine lv_iload hx hb dX6_put_43 (lv_at hl 0 rfl) ?_
          refine lv_iadd hx hb dX6_put_45 ?_
          refine lv_lload_n hx hb dX6_put_46 rfl (lv_at hl 3 rfl) ?_
          refine lv_bipush (v := (8 : Int32)) hx hb dX6_put_47 (by decide) ?_
          refine lv_iload_n hx hb dX6_put_49 rfl (lv_at hl 1 rfl) ?_
          refine lv_iconst (v := (1 : Int32)) hx hb dX6_put_50 (by decide) ?_
          refine lv_isub hx hb dX6_put_51 ?_
          refine lv_iload hx hb dX6_put_52 (lv_at hl 0 rfl) ?_
          refine lv_isub hx hb dX6_put_54 ?_
          refine lv_imul hx hb dX6_put_55 ?_
          refine lv_lushr hx hb dX6_put_56 rfl ?_
          refine lv_ldc2 (v := (255 : Int64)) hx hb hown (hts (.constantLong RX6 137 (255)) (by decide +kernel)) dX6_put_57 ?_
          refine lv_land hx hb dX6_put_60 ?_
          refine lv_l2i hx hb dX6_put_61 rfl ?_
          refine z_iast (f := (w29_0.2 5)) (k := ((w29_0.1 1) + (nI i29)).toNatClampNeg) hx hb hK hP hD hS 6 0 rfl rfl (by rw [hw]; exact zin_put htl (zchars_le p0) c_20 (by omega)) rfl dX6_put_62 (fun H locs hP hD hS => ?_)
          have hP : va_P g.1 vwCl (mo g q (s_X6_put_62 p0 i29 w29_0)) H := (congrArg (fun z => va_P g.1 vwCl z H) (mo_A5 g q w29_0 (upd (w29_0.2 5) ((w29_0.1 1) + (nI i29)).toNatClampNeg ((((p0.toUInt64 >>> (((8 : Int32) * (((f_X6_charactersOf p0) - (1 : Int32)) - (nI i29))).toInt64.toUInt64 &&& Int64.toUInt64 63)).toInt64) &&& (255 : Int64)).toInt32)))).mp hP
          have hD : va_D A (mo g q (s_X6_put_62 p0 i29 w29_0)) := (congrArg (fun z => va_D A z) (mo_A5 g q w29_0 (upd (w29_0.2 5) ((w29_0.1 1) + (nI i29)).toNatClampNeg ((((p0.toUInt64 >>> (((8 : Int32) * (((f_X6_charactersOf p0) - (1 : Int32)) - (nI i29))).toInt64.toUInt64 &&& Int64.toUInt64 63)).toInt64) &&& (255 : Int64)).toInt32)))).mp hD
          refine lv_iinc (v := (nI (i29 + 1))) (lv' := [(4, .int (nI (i29 + 1))), (3, .int (f_X6_charactersOf p0)), (0, .ref (q 0)), (1, .long p0)]) hx hb dX6_put_63 hl (k := 0) rfl (nI_1 i29) (by decide) rfl (fun ls hl => ?_)
          refine lv_goto (tgt := 29) hx hb dX6_put_66 (by decide) ?_
          have E : (f_X6_put_L29 p0 (n29 + 1) i29 w29_0) = (f_X6_put_L29 p0 n29 (i29 + 1) (s_X6_put_62 p0 i29 w29_0)) := rfl
          rw [E] at kx
          exact ih29 (i29 + 1) (by omega) (s_X6_put_62 p0 i29 w29_0) _ _ _ hw hP hD hS (lv_sub hl [0, 1, 2, 3] rfl) kx
      refine L29 (zfu (f_X6_charactersOf p0).toNatClampNeg) 0 (by rw [zfu_eq]; omega) v _ _ _ rfl hP hD hS (lv_sub hl [0, 1, 2, 3] rfl) (fun H locs ls hP hD hS hl => ?_)
      refine lv_aload_n hx hb dX6_put_69 rfl (lv_at hl 1 rfl) ?_
      refine lv_dup hx hb dX6_put_70 rfl ?_
      refine va_get (D := g.1) (ci := 6) (v := .int ((f_X6_put_L29 p0 (zfu (f_X6_charactersOf p0).toNatClampNeg) 0 v).1 1)) (C := RX6) (T := TX6) (N := 12) hx hb hts (zin_X6_put_X6) hown hK hP 0 rfl rfl 7 (by decide) (hts (.fieldLink RX6 121 "PegClerksModel" "textLong" "I") (by decide +kernel)) (fun _ h9 => h9) rfl dX6_put_71 ?_
      refine lv_iload_n hx hb dX6_put_74 rfl (lv_at hl 0 rfl) ?_
      refine lv_iadd hx hb dX6_put_75 ?_
      refine va_put (D := g.1) (ci := 6) (v := .int (((f_X6_put_L29 p0 (zfu (f_X6_charactersOf p0).toNatClampNeg) 0 v).1 1) + (f_X6_charactersOf p0))) (ty := .int) (C := RX6) (T := TX6) (N := 12) hx hb hts (zin_X6_put_X6) tyX6 tyX6_ok nmX6 hown hK hP hD hS 0 rfl rfl 7 (by decide) (hts (.fieldLink RX6 121 "PegClerksModel" "textLong" "I") (by decide +kernel)) (fun _ h9 => h9) rfl (by decide +kernel) rfl rfl (Nat.le_of_ble_eq_true rfl) dX6_put_76 (fun H locs hP hD hS => ?_)
      have hP : va_P g.1 vwCl (mo g q (s_X6_put_76 v p0)) H := (congrArg (fun z => va_P g.1 vwCl z H) (mo_S1 g q (f_X6_put_L29 p0 (zfu (f_X6_charactersOf p0).toNatClampNeg) 0 v) (((f_X6_put_L29 p0 (zfu (f_X6_charactersOf p0).toNatClampNeg) 0 v).1 1) + (f_X6_charactersOf p0)))).mp hP
      have hD : va_D A (mo g q (s_X6_put_76 v p0)) := (congrArg (fun z => va_D A z) (mo_S1 g q (f_X6_put_L29 p0 (zfu (f_X6_charactersOf p0).toNatClampNeg) 0 v) (((f_X6_put_L29 p0 (zfu (f_X6_charactersOf p0).toNatClampNeg) 0 v).1 1) + (f_X6_charactersOf p0)))).mp hD
      refine lv_aload_n hx hb dX6_put_79 rfl (lv_at hl 1 rfl) ?_
      refine va_get (D := g.1) (ci := 6) (v := .int ((s_X6_put_76 v p0).1 1)) (C := RX6) (T := TX6) (N := 12) hx hb hts (zin_X6_put_X6) hown hK hP 0 rfl rfl 7 (by decide) (hts (.fieldLink RX6 121 "PegClerksModel" "textLong" "I") (by decide +kernel)) (fun _ h9 => h9) rfl dX6_put_80 ?_
      have E : (f_X6_put v p0) = (((s_X6_put_76 v p0).1 1), (s_X6_put_76 v p0)) := (if_neg c_6).trans ((if_pos c_20).trans rfl)
      have e1 : ((s_X6_put_76 v p0).1 1) = (f_X6_put v p0).1 := by rw [E]
      have e2 : (mo g q (s_X6_put_76 v p0)) = (mo g q (f_X6_put v p0).2) := by rw [E]
      exact hret ((s_X6_put_76 v p0).1 1) (mo g q (s_X6_put_76 v p0)) _ _ _ _ dX6_put_83 e1 (rfl) e2 hP hD hS
    · refine lv_bipush (v := (-4 : Int32)) hx hb dX6_put_23 (by decide) ?_
      have E : (f_X6_put v p0) = ((-4 : Int32), v) := (if_neg c_6).trans ((if_neg c_20).trans rfl)
      have e1 : (-4 : Int32) = (f_X6_put v p0).1 := by rw [E]
      have e2 : (mo g q v) = (mo g q (f_X6_put v p0).2) := by rw [E]
      exact hret (-4 : Int32) (mo g q v) _ _ _ _ dX6_put_25 e1 (rfl) e2 hP hD hS
  · refine lv_bipush (v := (-2 : Int32)) hx hb dX6_put_9 (by decide) ?_
    have E : (f_X6_put v p0) = ((-2 : Int32), v) := (if_pos c_6).trans rfl
    have e1 : (-2 : Int32) = (f_X6_put v p0).1 := by rw [E]
    have e2 : (mo g q v) = (mo g q (f_X6_put v p0).2) := by rw [E]
    exact hret (-2 : Int32) (mo g q v) _ _ _ _ dX6_put_11 e1 (rfl) e2 hP hD hS
abbrev rm_X6_wipe : Room := { frames := 0, cells := 0, slots := 0, locals := 0 }
set_option maxRecDepth 20000 in
theorem zin_X6_wipe_X6 : ∀ w ∈ wsX60, w ∈ wsX6_wipe := by decide +kernel
def s_X6_wipe_7 (v : zCV) : zCV := zS v 1 (0 : Int32)
def f_X6_wipe (v : zCV) : Int32 × zCV := ((v.1 1), (s_X6_wipe_7 v))
set_option maxRecDepth 100000 in
set_option maxHeartbeats 4000000 in
theorem m_X6_wipe (l : Launch) (g : zG) (q : Nat → Nat) (v : zCV) : ZI l yX6_wipe wsX6_wipe rm_X6_wipe g (mo g q v) [.ref (q 0)] (f_X6_wipe v).1 (mo g q (f_X6_wipe v).2) := by
  refine zopenI (cc := cX6_wipe) (maxL := 2) (ret := .int) (by decide +kernel) rfl (Nat.le_of_ble_eq_true rfl) ?_
  intro p e s m below meth c A Q ls hx hb hml hown hts hP hK hD hA hN hl hret
  have hS : va_S A s.heap s.heap [] := va_S.rf
  have hl : lv_has ls 2 [(0, .ref (q 0))] := hl
  have hown : s.vm.findClass RX6 = some m.cls := hown
  refine lv_aload_n hx hb dX6_wipe_0 rfl (lv_at hl 0 rfl) ?_
  refine va_get (D := g.1) (ci := 6) (v := .int (v.1 1)) (C := RX6) (T := TX6) (N := 12) hx hb hts (zin_X6_wipe_X6) hown hK hP 0 rfl rfl 7 (by decide) (hts (.fieldLink RX6 121 "PegClerksModel" "textLong" "I") (by decide +kernel)) (fun _ h9 => h9) rfl dX6_wipe_1 ?_
  refine lv_istore_n (lv' := [(1, .int (v.1 1)), (0, .ref (q 0))]) hx hb dX6_wipe_4 rfl hl (by decide) rfl (fun ls hl => ?_)
  refine lv_aload_n hx hb dX6_wipe_5 rfl (lv_at hl 1 rfl) ?_
  refine lv_iconst (v := (0 : Int32)) hx hb dX6_wipe_6 (by decide) ?_
  refine va_put (D := g.1) (ci := 6) (v := .int (0 : Int32)) (ty := .int) (C := RX6) (T := TX6) (N := 12) hx hb hts (zin_X6_wipe_X6) tyX6 tyX6_ok nmX6 hown hK hP hD hS 0 rfl rfl 7 (by decide) (hts (.fieldLink RX6 121 "PegClerksModel" "textLong" "I") (by decide +kernel)) (fun _ h9 => h9) rfl (by decide +kernel) rfl rfl (Nat.le_of_ble_eq_true rfl) dX6_wipe_7 (fun H locs hP hD hS => ?_)
  have hP : va_P g.1 vwCl (mo g q (s_X6_wipe_7 v)) H := (congrArg (fun z => va_P g.1 vwCl z H) (mo_S1 g q v (0 : Int32))).mp hP
  have hD : va_D A (mo g q (s_X6_wipe_7 v)) := (congrArg (fun z => va_D A z) (mo_S1 g q v (0 : Int32))).mp hD
  refine lv_iload_n hx hb dX6_wipe_10 rfl (lv_at hl 0 rfl) ?_
  have E : (f_X6_wipe v) = ((v.1 1), (s_X6_wipe_7 v)) := rfl
  have e1 : (v.1 1) = (f_X6_wipe v).1 := by rw [E]
  have e2 : (mo g q (s_X6_wipe_7 v)) = (mo g q (f_X6_wipe v).2) := by rw [E]
  exact hret (v.1 1) (mo g q (s_X6_wipe_7 v)) _ _ _ _ dX6_wipe_11 e1 (rfl) e2 hP hD hS
abbrev rm_X6_undo : Room := { frames := 0, cells := 0, slots := 0, locals := 0 }
set_option maxRecDepth 20000 in
theorem zin_X6_undo_X6 : ∀ w ∈ wsX60, w ∈ wsX6_undo := by decide +kernel
def s_X6_undo_17 (v : zCV) : zCV := zS v 0 ((v.1 0) - (1 : Int32))
def s_X6_undo_49 (i22 : Nat) (w22_0 : zCV) : zCV := zA w22_0 0 (upd (w22_0.2 0) (nI i22).toNatClampNeg ((w22_0.2 2) (((136 : Int32) * (w22_0.1 0)) + (nI i22)).toNatClampNeg))
def f_X6_undo_L22  : Nat → Nat → zCV → zCV
  | 0, i22, w22_0 => w22_0
  | n22 + 1, i22, w22_0 => (f_X6_undo_L22 n22 (i22 + 1) (s_X6_undo_49 i22 w22_0))
def f_X6_undo (v : zCV) : Int32 × zCV := if (v.1 0) = (0 : Int32) then (((-5 : Int32), v)) else ((((f_X6_undo_L22 (zfu 136) 0 (s_X6_undo_17 v)).1 0), (f_X6_undo_L22 (zfu 136) 0 (s_X6_undo_17 v))))
theorem zun {x : Int32} (h : vp_in x 7) (c : ¬ x = (0 : Int32)) : vp_in (x - (1 : Int32)) 6 := by
  obtain ⟨j, hj, rfl⟩ := vp_in_of h (by omega)
  have hj0 : j ≠ 0 := fun e => c (by subst e; rfl)
  rw [show (1 : Int32) = nI 1 from rfl, pk_sub (by omega)]
  exact vp_in_nI (by omega) (by omega)
set_option maxRecDepth 100000 in
set_option maxHeartbeats 4000000 in
theorem m_X6_undo (l : Launch) (g : zG) (q : Nat → Nat) (v : zCV) (hh : vp_in (v.1 0) 7) : ZI l yX6_undo wsX6_undo rm_X6_undo g (mo g q v) [.ref (q 0)] (f_X6_undo v).1 (mo g q (f_X6_undo v).2) := by
  refine zopenI (cc := cX6_undo) (maxL := 2) (ret := .int) (by decide +kernel) rfl (Nat.le_of_ble_eq_true rfl) ?_
  intro p e s m below meth c A Q ls hx hb hml hown hts hP hK hD hA hN hl hret
  have hS : va_S A s.heap s.heap [] := va_S.rf
  have hl : lv_has ls 2 [(0, .ref (q 0))] := hl
  have hown : s.vm.findClass RX6 = some m.cls := hown
  refine lv_aload_n hx hb dX6_undo_0 rfl (lv_at hl 0 rfl) ?_
  refine va_get (D := g.1) (ci := 6) (v := .int (v.1 0)) (C := RX6) (T := TX6) (N := 12) hx hb hts (zin_X6_undo_X6) hown hK hP 0 rfl rfl 3 (by decide) (hts (.fieldLink RX6 34 "PegClerksModel" "historyLong" "I") (by decide +kernel)) (fun _ h9 => h9) rfl dX6_undo_1 ?_
  refine lv_if_ne (tgt := 10) hx hb dX6_undo_4 (by decide) (fun c_4 => ?_) (fun c_4 => ?_)
  · refine lv_aload_n hx hb dX6_undo_10 rfl (lv_at hl 0 rfl) ?_
    refine lv_dup hx hb dX6_undo_11 rfl ?_
    refine va_get (D := g.1) (ci := 6) (v := .int (v.1 0)) (C := RX6) (T := TX6) (N := 12) hx hb hts (zin_X6_undo_X6) hown hK hP 0 rfl rfl 3 (by decide) (hts (.fieldLink RX6 34 "PegClerksModel" "historyLong" "I") (by decide +kernel)) (fun _ h9 => h9) rfl dX6_undo_12 ?_
    refine lv_iconst (v := (1 : Int32)) hx hb dX6_undo_15 (by decide) ?_
    refine lv_isub hx hb dX6_undo_16 ?_
    refine va_put (D := g.1) (ci := 6) (v := .int ((v.1 0) - (1 : Int32))) (ty := .int) (C := RX6) (T := TX6) (N := 12) hx hb hts (zin_X6_undo_X6) tyX6 tyX6_ok nmX6 hown hK hP hD hS 0 rfl rfl 3 (by decide) (hts (.fieldLink RX6 34 "PegClerksModel" "historyLong" "I") (by decide +kernel)) (fun _ h9 => h9) rfl (by decide +kernel) rfl rfl (Nat.le_of_ble_eq_true rfl) dX6_undo_17 (fun H locs hP hD hS => ?_)
    have hP : va_P g.1 vwCl (mo g q (s_X6_undo_17 v)) H := (congrArg (fun z => va_P g.1 vwCl z H) (mo_S0 g q v ((v.1 0) - (1 : Int32)))).mp hP
    have hD : va_D A (mo g q (s_X6_undo_17 v)) := (congrArg (fun z => va_D A z) (mo_S0 g q v ((v.1 0) - (1 : Int32)))).mp hD
    refine lv_iconst (v := (0 : Int32)) hx hb dX6_undo_20 (by decide) ?_
    refine lv_istore_n (lv' := [(1, .int (0 : Int32)), (0, .ref (q 0))]) hx hb dX6_undo_21 rfl hl (by decide) rfl (fun ls hl => ?_)
    have L22 : ∀ (n22 : Nat) (i22 : Nat), i22 + n22 = 136 → ∀ (w22_0 : zCV) (H : Heap) (locs : List Loc) (ls : Array Slot), vp_in (w22_0.1 0) 6 → va_P g.1 vwCl (mo g q w22_0) H → va_D A (mo g q w22_0) → va_S A s.heap H locs → lv_has ls 2 [(1, .int (nI i22)), (0, .ref (q 0))] → (∀ (H : Heap) (locs : List Loc) (ls : Array Slot), va_P g.1 vwCl (mo g q (f_X6_undo_L22 n22 i22 w22_0)) H → va_D A (mo g q (f_X6_undo_L22 n22 i22 w22_0)) → va_S A s.heap H locs → lv_has ls 2 [(0, .ref (q 0))] → W p l e rm_X6_undo s m ([.ref (q 0)] : List Value).toArray below meth c H locs 0 0 Q (F0 m 56 ls [])) → W p l e rm_X6_undo s m ([.ref (q 0)] : List Value).toArray below meth c H locs 0 0 Q (F0 m 22 ls []) := by
      intro n22
      induction n22 with
      | zero =>
        intro i22 hin22 w22_0 H locs ls hh hP hD hS hl kx
        refine lv_iload_n hx hb dX6_undo_22 rfl (lv_at hl 0 rfl) ?_
        refine lv_sipush (v := (136 : Int32)) hx hb dX6_undo_23 (by decide) ?_
        refine lv_icmp_ge (tgt := 56) hx hb dX6_undo_26 (by decide) (fun c_26 => ?_) (fun c_26 => ?_)
        rotate_left
        · exact absurd (by rw [show i22 = 136 by omega]; decide) c_26
        have E : (f_X6_undo_L22 0 i22 w22_0) = w22_0 := rfl
        rw [E] at kx
        exact kx _ _ _ hP hD hS (lv_sub hl [1] rfl)
      | succ n22 ih22 =>
        intro i22 hin22 w22_0 H locs ls hh hP hD hS hl kx
        refine lv_iload_n hx hb dX6_undo_22 rfl (lv_at hl 0 rfl) ?_
        refine lv_sipush (v := (136 : Int32)) hx hb dX6_undo_23 (by decide) ?_
        refine lv_icmp_ge (tgt := 56) hx hb dX6_undo_26 (by decide) (fun c_26 => ?_) (fun c_26 => ?_)
        · exact absurd c_26 (nI_ge (a := i22) (b := 136) (by omega) (by omega))
        refine lv_aload_n hx hb dX6_undo_29 rfl (lv_at hl 1 rfl) ?_
        refine va_get (D := g.1) (ci := 6) (v := .ref (q 1)) (C := RX6) (T := TX6) (N := 12) hx hb hts (zin_X6_undo_X6) hown hK hP 0 rfl rfl 0 (by decide) (hts (.fieldLink RX6 7 "PegClerksModel" "all" "[I") (by decide +kernel)) (fun _ h9 => h9) rfl dX6_undo_30 ?_
        refine lv_iload_n hx hb dX6_undo_33 rfl (lv_at hl 0 rfl) ?_
        refine lv_aload_n hx hb dX6_undo_34 rfl (lv_at hl 1 rfl) ?_
        refine va_get (D := g.1) (ci := 6) (v := .ref (q 3)) (C := RX6) (T := TX6) (N := 12) hx hb hts (zin_X6_undo_X6) hown hK hP 0 rfl rfl 2 (by decide) (hts (.fieldLink RX6 16 "PegClerksModel" "history" "[I") (by decide +kernel)) (fun _ h9 => h9) rfl dX6_undo_35 ?_
        refine lv_sipush (v := (136 : Int32)) hx hb dX6_undo_38 (by decide) ?_
        refine lv_aload_n hx hb dX6_undo_41 rfl (lv_at hl 1 rfl) ?_
        refine va_get (D := g.1) (ci := 6) (v := .int (w22_0.1 0)) (C := RX6) (T := TX6) (N := 12) hx hb hts (zin_X6_undo_X6) hown hK hP 0 rfl rfl 3 (by decide) (hts (.fieldLink RX6 34 "PegClerksModel" "historyLong" "I") (by decide +kernel)) (fun _ h9 => h9) rfl dX6_undo_42 ?_
        refine lv_imul hx hb dX6_undo_45 ?_
        refine lv_iload_n hx hb dX6_undo_46 rfl (lv_at hl 0 rfl) ?_
        refine lv_iadd hx hb dX6_undo_47 ?_
        refine z_iald (f := (w22_0.2 2)) (k := (((136 : Int32) * (w22_0.1 0)) + (nI i22)).toNatClampNeg) hx hb hK hP 3 0 rfl rfl (zin_hist hh (vp_in_nI (n := i22) (N := 136) (by omega) (by omega))) rfl dX6_undo_48 ?_
        refine z_iast (f := (w22_0.2 0)) (k := (nI i22).toNatClampNeg) hx hb hK hP hD hS 1 0 rfl rfl (vp_in_nI (by omega) (by omega)) rfl dX6_undo_49 (fun H locs hP hD hS => ?_)
        have hP : va_P g.1 vwCl (mo g q (s_X6_undo_49 i22 w22_0)) H := (congrArg (fun z => va_P g.1 vwCl z H) (mo_A0 g q w22_0 (upd (w22_0.2 0) (nI i22).toNatClampNeg ((w22_0.2 2) (((136 : Int32) * (w22_0.1 0)) + (nI i22)).toNatClampNeg)))).mp hP
        have hD : va_D A (mo g q (s_X6_undo_49 i22 w22_0)) := (congrArg (fun z => va_D A z) (mo_A0 g q w22_0 (upd (w22_0.2 0) (nI i22).toNatClampNeg ((w22_0.2 2) (((136 : Int32) * (w22_0.1 0)) + (nI i22)).toNatClampNeg)))).mp hD
        refine lv_iinc (v := (nI (i22 + 1))) (lv' := [(1, .int (nI (i22 + 1))), (0, .ref (q 0))]) hx hb dX6_undo_50 hl (k := 0) rfl (nI_1 i22) (by decide) rfl (fun ls hl => ?_)
        refine lv_goto (tgt := 22) hx hb dX6_undo_53 (by decide) ?_
        have E : (f_X6_undo_L22 (n22 + 1) i22 w22_0) = (f_X6_undo_L22 n22 (i22 + 1) (s_X6_undo_49 i22 w22_0)) := rfl
        rw [E] at kx
        exact ih22 (i22 + 1) (by omega) (s_X6_undo_49 i22 w22_0) _ _ _ hh hP hD hS (lv_sub hl [0, 1] rfl) kx
    refine L22 (zfu 136) 0 (by rw [zfu_eq]) (s_X6_undo_17 v) _ _ _ (zun hh c_4) hP hD hS (lv_sub hl [0, 1] rfl) (fun H locs ls hP hD hS hl => ?_)
    refine lv_aload_n hx hb dX6_undo_56 rfl (lv_at hl 0 rfl) ?_
    refine va_get (D := g.1) (ci := 6) (v := .int ((f_X6_undo_L22 (zfu 136) 0 (s_X6_undo_17 v)).1 0)) (C := RX6) (T := TX6) (N := 12) hx hb hts (zin_X6_undo_X6) hown hK hP 0 rfl rfl 3 (by decide) (hts (.fieldLink RX6 34 "PegClerksModel" "historyLong" "I") (by decide +kernel)) (fun _ h9 => h9) rfl dX6_undo_57 ?_
    have E : (f_X6_undo v) = (((f_X6_undo_L22 (zfu 136) 0 (s_X6_undo_17 v)).1 0), (f_X6_undo_L22 (zfu 136) 0 (s_X6_undo_17 v))) := (if_neg c_4).trans rfl
    have e1 : ((f_X6_undo_L22 (zfu 136) 0 (s_X6_undo_17 v)).1 0) = (f_X6_undo v).1 := by rw [E]
    have e2 : (mo g q (f_X6_undo_L22 (zfu 136) 0 (s_X6_undo_17 v))) = (mo g q (f_X6_undo v).2) := by rw [E]
    exact hret ((f_X6_undo_L22 (zfu 136) 0 (s_X6_undo_17 v)).1 0) (mo g q (f_X6_undo_L22 (zfu 136) 0 (s_X6_undo_17 v))) _ _ _ _ dX6_undo_60 e1 (rfl) e2 hP hD hS
  · refine lv_bipush (v := (-5 : Int32)) hx hb dX6_undo_7 (by decide) ?_
    have E : (f_X6_undo v) = ((-5 : Int32), v) := (if_pos c_4).trans rfl
    have e1 : (-5 : Int32) = (f_X6_undo v).1 := by rw [E]
    have e2 : (mo g q v) = (mo g q (f_X6_undo v).2) := by rw [E]
    exact hret (-5 : Int32) (mo g q v) _ _ _ _ dX6_undo_9 e1 (rfl) e2 hP hD hS
abbrev rm_X6_isSlot : Room := { frames := 0, cells := 0, slots := 0, locals := 0 }
def f_X6_isSlot (p0 : Int32) : Int32 := if p0 = (0 : Int32) then ((1 : Int32)) else (if p0 = (1 : Int32) then ((1 : Int32)) else ((0 : Int32)))
set_option maxRecDepth 100000 in
set_option maxHeartbeats 4000000 in
theorem m_X6_isSlot (l : Launch) (g : zG) (p0 : Int32) : ZI l yX6_isSlot wsX6_isSlot rm_X6_isSlot g [] [.int p0] (f_X6_isSlot p0) [] := by
  refine zopenI (cc := cX6_isSlot) (maxL := 1) (ret := .boolean) (by decide +kernel) rfl (Nat.le_of_ble_eq_true rfl) ?_
  intro p e s m below meth c A Q ls hx hb hml hown hts hP hK hD hA hN hl hret
  have hS : va_S A s.heap s.heap [] := va_S.rf
  have hl : lv_has ls 1 [(0, .int p0)] := hl
  have hown : s.vm.findClass RX6 = some m.cls := hown
  refine lv_iload_n hx hb dX6_isSlot_0 rfl (lv_at hl 0 rfl) ?_
  refine lv_if_eq (tgt := 9) hx hb dX6_isSlot_1 (by decide) (fun c_1 => ?_) (fun c_1 => ?_)
  · refine lv_iconst (v := (1 : Int32)) hx hb dX6_isSlot_9 (by decide) ?_
    refine lv_goto (tgt := 14) hx hb dX6_isSlot_10 (by decide) ?_
    have E : (f_X6_isSlot p0) = (1 : Int32) := (if_pos c_1).trans rfl
    exact hret _ _ _ _ _ _ dX6_isSlot_14 E.symm (rfl) rfl hP hD hS
  · refine lv_iload_n hx hb dX6_isSlot_4 rfl (lv_at hl 0 rfl) ?_
    refine lv_iconst (v := (1 : Int32)) hx hb dX6_isSlot_5 (by decide) ?_
    refine lv_icmp_ne (tgt := 13) hx hb dX6_isSlot_6 (by decide) (fun c_6 => ?_) (fun c_6 => ?_)
    · refine lv_iconst (v := (0 : Int32)) hx hb dX6_isSlot_13 (by decide) ?_
      have E : (f_X6_isSlot p0) = (0 : Int32) := (if_neg c_1).trans ((if_neg c_6).trans rfl)
      exact hret _ _ _ _ _ _ dX6_isSlot_14 E.symm (rfl) rfl hP hD hS
    · refine lv_iconst (v := (1 : Int32)) hx hb dX6_isSlot_9 (by decide) ?_
      refine lv_goto (tgt := 14) hx hb dX6_isSlot_10 (by decide) ?_
      have E : (f_X6_isSlot p0) = (1 : Int32) := (if_neg c_1).trans ((if_pos c_6).trans rfl)
      exact hret _ _ _ _ _ _ dX6_isSlot_14 E.symm (rfl) rfl hP hD hS
theorem zslot_iff {x : Int32} : ¬ f_X6_isSlot x = (0 : Int32) ↔ vp_in x 2 := by
  unfold f_X6_isSlot
  split
  · rename_i c
    rw [c]
    exact ⟨fun _ => zlit _ 2 (by decide +kernel), fun _ => by decide⟩
  · split
    · rename_i c
      rw [c]
      exact ⟨fun _ => zlit _ 2 (by decide +kernel), fun _ => by decide⟩
    · rename_i c0 c1
      refine ⟨fun h => absurd rfl h, fun h => ?_⟩
      obtain ⟨j, hj, rfl⟩ := vp_in_of h (by omega)
      rcases (show j = 0 ∨ j = 1 by omega) with rfl | rfl
      · exact absurd rfl c0
      · exact absurd rfl c1
theorem zin_slot {x y : Int32} (hx : vp_in x 2) (hy : vp_in y 136) : vp_in (((136 : Int32) * x) + y) 272 := by
  obtain ⟨r, hr, rfl⟩ := vp_in_of hx (by omega)
  obtain ⟨k, hk, rfl⟩ := vp_in_of hy (by omega)
  rw [show (136 : Int32) = nI 136 from rfl, pk_mul, nI_add]
  exact vp_in_nI (by omega) (by omega)
abbrev rm_X6_save : Room := { frames := 4, cells := 0, slots := 0, locals := 88 }
set_option maxRecDepth 20000 in
theorem zin_X6_save_X6 : ∀ w ∈ wsX60, w ∈ wsX6_save := by decide +kernel
def s_X6_save_36 (p0 : Int32) (i12 : Nat) (w12_0 : zCV) : zCV := zA w12_0 3 (upd (w12_0.2 3) (((136 : Int32) * p0) + (nI i12)).toNatClampNeg ((w12_0.2 0) (nI i12).toNatClampNeg))
def f_X6_save_L12 (p0 : Int32) : Nat → Nat → zCV → zCV
  | 0, i12, w12_0 => w12_0
  | n12 + 1, i12, w12_0 => (f_X6_save_L12 p0 n12 (i12 + 1) (s_X6_save_36 p0 i12 w12_0))
def s_X6_save_49 (v : zCV) (p0 : Int32) : zCV := zA (f_X6_save_L12 p0 (zfu 136) 0 v) 4 (upd ((f_X6_save_L12 p0 (zfu 136) 0 v).2 4) p0.toNatClampNeg (1 : Int32))
def r_X6_save_51 (v : zCV) (p0 : Int32) : Int32 := (f_X6_pegs (s_X6_save_49 v p0))
def f_X6_save (v : zCV) (p0 : Int32) : Int32 × zCV := if (f_X6_isSlot p0) = (0 : Int32) then (((-2 : Int32), v)) else (((r_X6_save_51 v p0), (s_X6_save_49 v p0)))
set_option maxRecDepth 100000 in
set_option maxHeartbeats 4000000 in
theorem m_X6_save (l : Launch) (g : zG) (q : Nat → Nat) (v : zCV) (p0 : Int32) : ZI l yX6_save wsX6_save rm_X6_save g (mo g q v) [.ref (q 0), .int p0] (f_X6_save v p0).1 (mo g q (f_X6_save v p0).2) := by
  refine zopenI (cc := cX6_save) (maxL := 3) (ret := .int) (by decide +kernel) rfl (Nat.le_of_ble_eq_true rfl) ?_
  intro p e s m below meth c A Q ls hx hb hml hown hts hP hK hD hA hN hl hret
  have hS : va_S A s.heap s.heap [] := va_S.rf
  have hl : lv_has ls 3 [(0, .ref (q 0)), (1, .int p0)] := hl
  have hown : s.vm.findClass RX6 = some m.cls := hown
  refine lv_iload_n hx hb dX6_save_0 rfl (lv_at hl 1 rfl) ?_
  refine zcSi (n := 1) (As := [.int p0]) (rest := []) hx hb hml hown hts hN (m_X6_isSlot l g p0) gX6_save_X6_isSlot rfl (by decide +kernel) ⟨rfl, rfl⟩ ⟨Nat.le_of_ble_eq_true rfl, Nat.le_of_ble_eq_true rfl⟩ hK hP hD hS hA rfl hl.1 rfl (Nat.le_of_ble_eq_true rfl) dX6_save_1 ⟨Nat.zero_le _, Nat.zero_le _⟩ (fun H locs hP hD hS => ?_)
  refine lv_if_ne (tgt := 10) hx hb dX6_save_4 (by decide) (fun c_4 => ?_) (fun c_4 => ?_)
  · refine lv_iconst (v := (0 : Int32)) hx hb dX6_save_10 (by decide) ?_
    refine lv_istore_n (lv' := [(2, .int (0 : Int32)), (0, .ref (q 0)), (1, .int p0)]) hx hb dX6_save_11 rfl hl (by decide) rfl (fun ls hl => ?_)
    have L12 : ∀ (n12 : Nat) (i12 : Nat), i12 + n12 = 136 → ∀ (w12_0 : zCV) (H : Heap) (locs : List Loc) (ls : Array Slot), va_P g.1 vwCl (mo g q w12_0) H → va_D A (mo g q w12_0) → va_S A s.heap H locs → lv_has ls 3 [(2, .int (nI i12)), (0, .ref (q 0)), (1, .int p0)] → (∀ (H : Heap) (locs : List Loc) (ls : Array Slot), va_P g.1 vwCl (mo g q (f_X6_save_L12 p0 n12 i12 w12_0)) H → va_D A (mo g q (f_X6_save_L12 p0 n12 i12 w12_0)) → va_S A s.heap H locs → lv_has ls 3 [(0, .ref (q 0)), (1, .int p0)] → W p l e rm_X6_save s m ([.ref (q 0), .int p0] : List Value).toArray below meth c H locs 0 0 Q (F0 m 43 ls [])) → W p l e rm_X6_save s m ([.ref (q 0), .int p0] : List Value).toArray below meth c H locs 0 0 Q (F0 m 12 ls []) := by
      intro n12
      induction n12 with
      | zero =>
        intro i12 hin12 w12_0 H locs ls hP hD hS hl kx
        refine lv_iload_n hx hb dX6_save_12 rfl (lv_at hl 0 rfl) ?_
        refine lv_sipush (v := (136 : Int32)) hx hb dX6_save_13 (by decide) ?_
        refine lv_icmp_ge (tgt := 43) hx hb dX6_save_16 (by decide) (fun c_16 => ?_) (fun c_16 => ?_)
        rotate_left
        · exact absurd (by rw [show i12 = 136 by omega]; decide) c_16
        have E : (f_X6_save_L12 p0 0 i12 w12_0) = w12_0 := rfl
        rw [E] at kx
        exact kx _ _ _ hP hD hS (lv_sub hl [1, 2] rfl)
      | succ n12 ih12 =>
        intro i12 hin12 w12_0 H locs ls hP hD hS hl kx
        refine lv_iload_n hx hb dX6_save_12 rfl (lv_at hl 0 rfl) ?_
        refine lv_sipush (v := (136 : Int32)) hx hb dX6_save_13 (by decide) ?_
        refine lv_icmp_ge (tgt := 43) hx hb dX6_save_16 (by decide) (fun c_16 => ?_) (fun c_16 => ?_)
        · exact absurd c_16 (nI_ge (a := i12) (b := 136) (by omega) (by omega))
        refine lv_aload_n hx hb dX6_save_19 rfl (lv_at hl 1 rfl) ?_
        refine va_get (D := g.1) (ci := 6) (v := .ref (q 4)) (C := RX6) (T := TX6) (N := 12) hx hb hts (zin_X6_save_X6) hown hK hP 0 rfl rfl 4 (by decide) (hts (.fieldLink RX6 19 "PegClerksModel" "slots" "[I") (by decide +kernel)) (fun _ h9 => h9) rfl dX6_save_20 ?_
        refine lv_sipush (v := (136 : Int32)) hx hb dX6_save_23 (by decide) ?_
        refine lv_iload_n hx hb dX6_save_26 rfl (lv_at hl 2 rfl) ?_
        refine lv_imul hx hb dX6_save_27 ?_
        refine lv_iload_n hx hb dX6_save_28 rfl (lv_at hl 0 rfl) ?_
        refine lv_iadd hx hb dX6_save_29 ?_
        refine lv_aload_n hx hb dX6_save_30 rfl (lv_at hl 1 rfl) ?_
        refine va_get (D := g.1) (ci := 6) (v := .ref (q 1)) (C := RX6) (T := TX6) (N := 12) hx hb hts (zin_X6_save_X6) hown hK hP 0 rfl rfl 0 (by decide) (hts (.fieldLink RX6 7 "PegClerksModel" "all" "[I") (by decide +kernel)) (fun _ h9 => h9) rfl dX6_save_31 ?_
        refine lv_iload_n hx hb dX6_save_34 rfl (lv_at hl 0 rfl) ?_
        refine z_iald (f := (w12_0.2 0)) (k := (nI i12).toNatClampNeg) hx hb hK hP 1 0 rfl rfl (vp_in_nI (by omega) (by omega)) rfl dX6_save_35 ?_
        refine z_iast (f := (w12_0.2 3)) (k := (((136 : Int32) * p0) + (nI i12)).toNatClampNeg) hx hb hK hP hD hS 4 0 rfl rfl (zin_slot (zslot_iff.mp c_4) (vp_in_nI (n := i12) (N := 136) (by omega) (by omega))) rfl dX6_save_36 (fun H locs hP hD hS => ?_)
        have hP : va_P g.1 vwCl (mo g q (s_X6_save_36 p0 i12 w12_0)) H := (congrArg (fun z => va_P g.1 vwCl z H) (mo_A3 g q w12_0 (upd (w12_0.2 3) (((136 : Int32) * p0) + (nI i12)).toNatClampNeg ((w12_0.2 0) (nI i12).toNatClampNeg)))).mp hP
        have hD : va_D A (mo g q (s_X6_save_36 p0 i12 w12_0)) := (congrArg (fun z => va_D A z) (mo_A3 g q w12_0 (upd (w12_0.2 3) (((136 : Int32) * p0) + (nI i12)).toNatClampNeg ((w12_0.2 0) (nI i12).toNatClampNeg)))).mp hD
        refine lv_iinc (v := (nI (i12 + 1))) (lv' := [(2, .int (nI (i12 + 1))), (0, .ref (q 0)), (1, .int p0)]) hx hb dX6_save_37 hl (k := 0) rfl (nI_1 i12) (by decide) rfl (fun ls hl => ?_)
        refine lv_goto (tgt := 12) hx hb dX6_save_40 (by decide) ?_
        have E : (f_X6_save_L12 p0 (n12 + 1) i12 w12_0) = (f_X6_save_L12 p0 n12 (i12 + 1) (s_X6_save_36 p0 i12 w12_0)) := rfl
        rw [E] at kx
        exact ih12 (i12 + 1) (by omega) (s_X6_save_36 p0 i12 w12_0) _ _ _  hP hD hS (lv_sub hl [0, 1, 2] rfl) kx
    refine L12 (zfu 136) 0 (by rw [zfu_eq]) v _ _ _  hP hD hS (lv_sub hl [0, 1, 2] rfl) (fun H locs ls hP hD hS hl => ?_)
    refine lv_aload_n hx hb dX6_save_43 rfl (lv_at hl 0 rfl) ?_
    refine va_get (D := g.1) (ci := 6) (v := .ref (q 5)) (C := RX6) (T := TX6) (N := 12) hx hb hts (zin_X6_save_X6) hown hK hP 0 rfl rfl 5 (by decide) (hts (.fieldLink RX6 22 "PegClerksModel" "isSaved" "[I") (by decide +kernel)) (fun _ h9 => h9) rfl dX6_save_44 ?_
    refine lv_iload_n hx hb dX6_save_47 rfl (lv_at hl 1 rfl) ?_
    refine lv_iconst (v := (1 : Int32)) hx hb dX6_save_48 (by decide) ?_
    refine z_iast (f := ((f_X6_save_L12 p0 (zfu 136) 0 v).2 4)) (k := p0.toNatClampNeg) hx hb hK hP hD hS 5 0 rfl rfl (zslot_iff.mp c_4) rfl dX6_save_49 (fun H locs hP hD hS => ?_)
    have hP : va_P g.1 vwCl (mo g q (s_X6_save_49 v p0)) H := (congrArg (fun z => va_P g.1 vwCl z H) (mo_A4 g q (f_X6_save_L12 p0 (zfu 136) 0 v) (upd ((f_X6_save_L12 p0 (zfu 136) 0 v).2 4) p0.toNatClampNeg (1 : Int32)))).mp hP
    have hD : va_D A (mo g q (s_X6_save_49 v p0)) := (congrArg (fun z => va_D A z) (mo_A4 g q (f_X6_save_L12 p0 (zfu 136) 0 v) (upd ((f_X6_save_L12 p0 (zfu 136) 0 v).2 4) p0.toNatClampNeg (1 : Int32)))).mp hD
    refine lv_aload_n hx hb dX6_save_50 rfl (lv_at hl 0 rfl) ?_
    refine zcVi (n := 0) (As := []) (rest := []) (Xr := []) (Xn := (mo g q (s_X6_save_49 v p0))) (ci := 6) (C := RX6) (T := TX6) (N := 12) (q0 := 0) hx hb hml hown hts hN (m_X6_pegs l g q (s_X6_save_49 v p0) ) gX6_save_X6_pegs rfl (by decide +kernel) ⟨rfl, rfl⟩ ⟨Nat.le_of_ble_eq_true rfl, Nat.le_of_ble_eq_true rfl⟩ hK hP hD hS hA (zpn _) rfl rfl rfl hl.1 rfl (Nat.le_of_ble_eq_true rfl) dX6_save_51 ⟨Nat.zero_le _, Nat.zero_le _⟩ (zpn' _) (fun H locs hP hD hS => ?_)
    have E : (f_X6_save v p0) = ((r_X6_save_51 v p0), (s_X6_save_49 v p0)) := (if_neg c_4).trans rfl
    have e1 : (r_X6_save_51 v p0) = (f_X6_save v p0).1 := by rw [E]
    have e2 : (mo g q (s_X6_save_49 v p0)) = (mo g q (f_X6_save v p0).2) := by rw [E]
    exact hret (r_X6_save_51 v p0) (mo g q (s_X6_save_49 v p0)) _ _ _ _ dX6_save_54 e1 (rfl) e2 hP hD hS
  · refine lv_bipush (v := (-2 : Int32)) hx hb dX6_save_7 (by decide) ?_
    have E : (f_X6_save v p0) = ((-2 : Int32), v) := (if_pos c_4).trans rfl
    have e1 : (-2 : Int32) = (f_X6_save v p0).1 := by rw [E]
    have e2 : (mo g q v) = (mo g q (f_X6_save v p0).2) := by rw [E]
    exact hret (-2 : Int32) (mo g q v) _ _ _ _ dX6_save_9 e1 (rfl) e2 hP hD hS
abbrev rm_X6_restore : Room := { frames := 4, cells := 0, slots := 0, locals := 88 }
set_option maxRecDepth 20000 in
theorem zin_X6_restore_X6 : ∀ w ∈ wsX60, w ∈ wsX6_restore := by decide +kernel
def s_X6_restore_23 (v : zCV) : zCV := (f_X6_changes v)
def s_X6_restore_52 (p0 : Int32) (i28 : Nat) (w28_0 : zCV) : zCV := zA w28_0 0 (upd (w28_0.2 0) (nI i28).toNatClampNeg ((w28_0.2 3) (((136 : Int32) * p0) + (nI i28)).toNatClampNeg))
def f_X6_restore_L28 (p0 : Int32) : Nat → Nat → zCV → zCV
  | 0, i28, w28_0 => w28_0
  | n28 + 1, i28, w28_0 => (f_X6_restore_L28 p0 n28 (i28 + 1) (s_X6_restore_52 p0 i28 w28_0))
def r_X6_restore_60 (v : zCV) (p0 : Int32) : Int32 := (f_X6_pegs (f_X6_restore_L28 p0 (zfu 136) 0 (s_X6_restore_23 v)))
def f_X6_restore (v : zCV) (p0 : Int32) : Int32 × zCV := if (f_X6_isSlot p0) = (0 : Int32) then (((-2 : Int32), v)) else (if ((v.2 4) p0.toNatClampNeg) = (0 : Int32) then (((-5 : Int32), v)) else (((r_X6_restore_60 v p0), (f_X6_restore_L28 p0 (zfu 136) 0 (s_X6_restore_23 v)))))
set_option maxRecDepth 100000 in
set_option maxHeartbeats 4000000 in
theorem m_X6_restore (l : Launch) (g : zG) (q : Nat → Nat) (v : zCV) (p0 : Int32) (hh : vp_in (v.1 0) 7) : ZI l yX6_restore wsX6_restore rm_X6_restore g (mo g q v) [.ref (q 0), .int p0] (f_X6_restore v p0).1 (mo g q (f_X6_restore v p0).2) := by
  refine zopenI (cc := cX6_restore) (maxL := 3) (ret := .int) (by decide +kernel) rfl (Nat.le_of_ble_eq_true rfl) ?_
  intro p e s m below meth c A Q ls hx hb hml hown hts hP hK hD hA hN hl hret
  have hS : va_S A s.heap s.heap [] := va_S.rf
  have hl : lv_has ls 3 [(0, .ref (q 0)), (1, .int p0)] := hl
  have hown : s.vm.findClass RX6 = some m.cls := hown
  refine lv_iload_n hx hb dX6_restore_0 rfl (lv_at hl 1 rfl) ?_
  refine zcSi (n := 1) (As := [.int p0]) (rest := []) hx hb hml hown hts hN (m_X6_isSlot l g p0) gX6_restore_X6_isSlot rfl (by decide +kernel) ⟨rfl, rfl⟩ ⟨Nat.le_of_ble_eq_true rfl, Nat.le_of_ble_eq_true rfl⟩ hK hP hD hS hA rfl hl.1 rfl (Nat.le_of_ble_eq_true rfl) dX6_restore_1 ⟨Nat.zero_le _, Nat.zero_le _⟩ (fun H locs hP hD hS => ?_)
  refine lv_if_ne (tgt := 10) hx hb dX6_restore_4 (by decide) (fun c_4 => ?_) (fun c_4 => ?_)
  · refine lv_aload_n hx hb dX6_restore_10 rfl (lv_at hl 0 rfl) ?_
    refine va_get (D := g.1) (ci := 6) (v := .ref (q 5)) (C := RX6) (T := TX6) (N := 12) hx hb hts (zin_X6_restore_X6) hown hK hP 0 rfl rfl 5 (by decide) (hts (.fieldLink RX6 22 "PegClerksModel" "isSaved" "[I") (by decide +kernel)) (fun _ h9 => h9) rfl dX6_restore_11 ?_
    refine lv_iload_n hx hb dX6_restore_14 rfl (lv_at hl 1 rfl) ?_
    refine z_iald (f := (v.2 4)) (k := p0.toNatClampNeg) hx hb hK hP 5 0 rfl rfl (zslot_iff.mp c_4) rfl dX6_restore_15 ?_
    refine lv_if_ne (tgt := 22) hx hb dX6_restore_16 (by decide) (fun c_16 => ?_) (fun c_16 => ?_)
    · refine lv_aload_n hx hb dX6_restore_22 rfl (lv_at hl 0 rfl) ?_
      refine zcVv (n := 0) (As := []) (rest := []) (Xr := []) (Xn := (mo g q (s_X6_restore_23 v))) (ci := 6) (C := RX6) (T := TX6) (N := 12) (q0 := 0) hx hb hml hown hts hN (m_X6_changes l g q v hh) gX6_restore_X6_changes rfl (by decide +kernel) ⟨rfl, rfl⟩ ⟨Nat.le_of_ble_eq_true rfl, Nat.le_of_ble_eq_true rfl⟩ hK hP hD hS hA (zpn _) rfl rfl rfl hl.1 rfl (Nat.le_of_ble_eq_true rfl) dX6_restore_23 ⟨Nat.zero_le _, Nat.zero_le _⟩ (zpn' _) (fun H locs hP hD hS => ?_)
      refine lv_iconst (v := (0 : Int32)) hx hb dX6_restore_26 (by decide) ?_
      refine lv_istore_n (lv' := [(2, .int (0 : Int32)), (0, .ref (q 0)), (1, .int p0)]) hx hb dX6_restore_27 rfl hl (by decide) rfl (fun ls hl => ?_)
      have L28 : ∀ (n28 : Nat) (i28 : Nat), i28 + n28 = 136 → ∀ (w28_0 : zCV) (H : Heap) (locs : List Loc) (ls : Array Slot), va_P g.1 vwCl (mo g q w28_0) H → va_D A (mo g q w28_0) → va_S A s.heap H locs → lv_has ls 3 [(2, .int (nI i28)), (0, .ref (q 0)), (1, .int p0)] → (∀ (H : Heap) (locs : List Loc) (ls : Array Slot), va_P g.1 vwCl (mo g q (f_X6_restore_L28 p0 n28 i28 w28_0)) H → va_D A (mo g q (f_X6_restore_L28 p0 n28 i28 w28_0)) → va_S A s.heap H locs → lv_has ls 3 [(0, .ref (q 0)), (1, .int p0)] → W p l e rm_X6_restore s m ([.ref (q 0), .int p0] : List Value).toArray below meth c H locs 0 0 Q (F0 m 59 ls [])) → W p l e rm_X6_restore s m ([.ref (q 0), .int p0] : List Value).toArray below meth c H locs 0 0 Q (F0 m 28 ls []) := by
        intro n28
        induction n28 with
        | zero =>
          intro i28 hin28 w28_0 H locs ls hP hD hS hl kx
          refine lv_iload_n hx hb dX6_restore_28 rfl (lv_at hl 0 rfl) ?_
          refine lv_sipush (v := (136 : Int32)) hx hb dX6_restore_29 (by decide) ?_
          refine lv_icmp_ge (tgt := 59) hx hb dX6_restore_32 (by decide) (fun c_32 => ?_) (fun c_32 => ?_)
          rotate_left
          · exact absurd (by rw [show i28 = 136 by omega]; decide) c_32
          have E : (f_X6_restore_L28 p0 0 i28 w28_0) = w28_0 := rfl
          rw [E] at kx
          exact kx _ _ _ hP hD hS (lv_sub hl [1, 2] rfl)
        | succ n28 ih28 =>
          intro i28 hin28 w28_0 H locs ls hP hD hS hl kx
          refine lv_iload_n hx hb dX6_restore_28 rfl (lv_at hl 0 rfl) ?_
          refine lv_sipush (v := (136 : Int32)) hx hb dX6_restore_29 (by decide) ?_
          refine lv_icmp_ge (tgt := 59) hx hb dX6_restore_32 (by decide) (fun c_32 => ?_) (fun c_32 => ?_)
          · exact absurd c_32 (nI_ge (a := i28) (b := 136) (by omega) (by omega))
          refine lv_aload_n hx hb dX6_restore_35 rfl (lv_at hl 1 rfl) ?_
          refine va_get (D := g.1) (ci := 6) (v := .ref (q 1)) (C := RX6) (T := TX6) (N := 12) hx hb hts (zin_X6_restore_X6) hown hK hP 0 rfl rfl 0 (by decide) (hts (.fieldLink RX6 7 "PegClerksModel" "all" "[I") (by decide +kernel)) (fun _ h9 => h9) rfl dX6_restore_36 ?_
          refine lv_iload_n hx hb dX6_restore_39 rfl (lv_at hl 0 rfl) ?_
          refine lv_aload_n hx hb dX6_restore_40 rfl (lv_at hl 1 rfl) ?_
          refine va_get (D := g.1) (ci := 6) (v := .ref (q 4)) (C := RX6) (T := TX6) (N := 12) hx hb hts (zin_X6_restore_X6) hown hK hP 0 rfl rfl 4 (by decide) (hts (.fieldLink RX6 19 "PegClerksModel" "slots" "[I") (by decide +kernel)) (fun _ h9 => h9) rfl dX6_restore_41 ?_
          refine lv_sipush (v := (136 : Int32)) hx hb dX6_restore_44 (by decide) ?_
          refine lv_iload_n hx hb dX6_restore_47 rfl (lv_at hl 2 rfl) ?_
          refine lv_imul hx hb dX6_restore_48 ?_
          refine lv_iload_n hx hb dX6_restore_49 rfl (lv_at hl 0 rfl) ?_
          refine lv_iadd hx hb dX6_restore_50 ?_
          refine z_iald (f := (w28_0.2 3)) (k := (((136 : Int32) * p0) + (nI i28)).toNatClampNeg) hx hb hK hP 4 0 rfl rfl (zin_slot (zslot_iff.mp c_4) (vp_in_nI (n := i28) (N := 136) (by omega) (by omega))) rfl dX6_restore_51 ?_
          refine z_iast (f := (w28_0.2 0)) (k := (nI i28).toNatClampNeg) hx hb hK hP hD hS 1 0 rfl rfl (vp_in_nI (by omega) (by omega)) rfl dX6_restore_52 (fun H locs hP hD hS => ?_)
          have hP : va_P g.1 vwCl (mo g q (s_X6_restore_52 p0 i28 w28_0)) H := (congrArg (fun z => va_P g.1 vwCl z H) (mo_A0 g q w28_0 (upd (w28_0.2 0) (nI i28).toNatClampNeg ((w28_0.2 3) (((136 : Int32) * p0) + (nI i28)).toNatClampNeg)))).mp hP
          have hD : va_D A (mo g q (s_X6_restore_52 p0 i28 w28_0)) := (congrArg (fun z => va_D A z) (mo_A0 g q w28_0 (upd (w28_0.2 0) (nI i28).toNatClampNeg ((w28_0.2 3) (((136 : Int32) * p0) + (nI i28)).toNatClampNeg)))).mp hD
          refine lv_iinc (v := (nI (i28 + 1))) (lv' := [(2, .int (nI (i28 + 1))), (0, .ref (q 0)), (1, .int p0)]) hx hb dX6_restore_53 hl (k := 0) rfl (nI_1 i28) (by decide) rfl (fun ls hl => ?_)
          refine lv_goto (tgt := 28) hx hb dX6_restore_56 (by decide) ?_
          have E : (f_X6_restore_L28 p0 (n28 + 1) i28 w28_0) = (f_X6_restore_L28 p0 n28 (i28 + 1) (s_X6_restore_52 p0 i28 w28_0)) := rfl
          rw [E] at kx
          exact ih28 (i28 + 1) (by omega) (s_X6_restore_52 p0 i28 w28_0) _ _ _  hP hD hS (lv_sub hl [0, 1, 2] rfl) kx
      refine L28 (zfu 136) 0 (by rw [zfu_eq]) (s_X6_restore_23 v) _ _ _  hP hD hS (lv_sub hl [0, 1, 2] rfl) (fun H locs ls hP hD hS hl => ?_)
      refine lv_aload_n hx hb dX6_restore_59 rfl (lv_at hl 0 rfl) ?_
      refine zcVi (n := 0) (As := []) (rest := []) (Xr := []) (Xn := (mo g q (f_X6_restore_L28 p0 (zfu 136) 0 (s_X6_restore_23 v)))) (ci := 6) (C := RX6) (T := TX6) (N := 12) (q0 := 0) hx hb hml hown hts hN (m_X6_pegs l g q (f_X6_restore_L28 p0 (zfu 136) 0 (s_X6_restore_23 v)) ) gX6_restore_X6_pegs rfl (by decide +kernel) ⟨rfl, rfl⟩ ⟨Nat.le_of_ble_eq_true rfl, Nat.le_of_ble_eq_true rfl⟩ hK hP hD hS hA (zpn _) rfl rfl rfl hl.1 rfl (Nat.le_of_ble_eq_true rfl) dX6_restore_60 ⟨Nat.zero_le _, Nat.zero_le _⟩ (zpn' _) (fun H locs hP hD hS => ?_)
      have E : (f_X6_restore v p0) = ((r_X6_restore_60 v p0), (f_X6_restore_L28 p0 (zfu 136) 0 (s_X6_restore_23 v))) := (if_neg c_4).trans ((if_neg c_16).trans rfl)
      have e1 : (r_X6_restore_60 v p0) = (f_X6_restore v p0).1 := by rw [E]
      have e2 : (mo g q (f_X6_restore_L28 p0 (zfu 136) 0 (s_X6_restore_23 v))) = (mo g q (f_X6_restore v p0).2) := by rw [E]
      exact hret (r_X6_restore_60 v p0) (mo g q (f_X6_restore_L28 p0 (zfu 136) 0 (s_X6_restore_23 v))) _ _ _ _ dX6_restore_63 e1 (rfl) e2 hP hD hS
    · refine lv_bipush (v := (-5 : Int32)) hx hb dX6_restore_19 (by decide) ?_
      have E : (f_X6_restore v p0) = ((-5 : Int32), v) := (if_neg c_4).trans ((if_pos c_16).trans rfl)
      have e1 : (-5 : Int32) = (f_X6_restore v p0).1 := by rw [E]
      have e2 : (mo g q v) = (mo g q (f_X6_restore v p0).2) := by rw [E]
      exact hret (-5 : Int32) (mo g q v) _ _ _ _ dX6_restore_21 e1 (rfl) e2 hP hD hS
  · refine lv_bipush (v := (-2 : Int32)) hx hb dX6_restore_7 (by decide) ?_
    have E : (f_X6_restore v p0) = ((-2 : Int32), v) := (if_pos c_4).trans rfl
    have e1 : (-2 : Int32) = (f_X6_restore v p0).1 := by rw [E]
    have e2 : (mo g q v) = (mo g q (f_X6_restore v p0).2) := by rw [E]
    exact hret (-2 : Int32) (mo g q v) _ _ _ _ dX6_restore_9 e1 (rfl) e2 hP hD hS
theorem zhere0 {s t : Int32} (hs : vp_in s 61) (ht : vp_in t 61) (c : ¬ t ≤ s) : vp_in s 60 := by
  obtain ⟨a, ha, rfl⟩ := vp_in_of hs (by omega)
  obtain ⟨b, hb, rfl⟩ := vp_in_of ht (by omega)
  have h1 : ¬ b ≤ a := fun h => c (nI_le h (by omega))
  exact vp_in_nI (by omega) (by omega)
abbrev rm_X6_isHere : Room := { frames := 1, cells := 0, slots := 0, locals := 25 }
set_option maxRecDepth 20000 in
theorem zin_X6_isHere_X6 : ∀ w ∈ wsX60, w ∈ wsX6_isHere := by decide +kernel
def f_X6_isHere (v : zCV) (p0 : Int32) (p1 : Int32) : Int32 := if (v.1 1) ≤ (v.1 2) then ((0 : Int32)) else (if (f_X6_in (((v.2 5) (v.1 2).toNatClampNeg).toInt64) (p0.toInt64) (p1.toInt64)) = (0 : Int32) then ((0 : Int32)) else ((1 : Int32)))
set_option maxRecDepth 100000 in
set_option maxHeartbeats 4000000 in
theorem m_X6_isHere (l : Launch) (g : zG) (q : Nat → Nat) (v : zCV) (p0 : Int32) (p1 : Int32) (hs : vp_in (v.1 2) 61) (ht : vp_in (v.1 1) 61) : ZI l yX6_isHere wsX6_isHere rm_X6_isHere g (mo g q v) [.ref (q 0), .int p0, .int p1] (f_X6_isHere v p0 p1) (mo g q v) := by
  refine zopenI (cc := cX6_isHere) (maxL := 3) (ret := .boolean) (by decide +kernel) rfl (Nat.le_of_ble_eq_true rfl) ?_
  intro p e s m below meth c A Q ls hx hb hml hown hts hP hK hD hA hN hl hret
  have hS : va_S A s.heap s.heap [] := va_S.rf
  have hl : lv_has ls 3 [(0, .ref (q 0)), (1, .int p0), (2, .int p1)] := hl
  have hown : s.vm.findClass RX6 = some m.cls := hown
  refine lv_aload_n hx hb dX6_isHere_0 rfl (lv_at hl 0 rfl) ?_
  refine va_get (D := g.1) (ci := 6) (v := .int (v.1 2)) (C := RX6) (T := TX6) (N := 12) hx hb hts (zin_X6_isHere_X6) hown hK hP 0 rfl rfl 8 (by decide) (hts (.fieldLink RX6 147 "PegClerksModel" "spot" "I") (by decide +kernel)) (fun _ h9 => h9) rfl dX6_isHere_1 ?_
  refine lv_aload_n hx hb dX6_isHere_4 rfl (lv_at hl 0 rfl) ?_
  refine va_get (D := g.1) (ci := 6) (v := .int (v.1 1)) (C := RX6) (T := TX6) (N := 12) hx hb hts (zin_X6_isHere_X6) hown hK hP 0 rfl rfl 7 (by decide) (hts (.fieldLink RX6 121 "PegClerksModel" "textLong" "I") (by decide +kernel)) (fun _ h9 => h9) rfl dX6_isHere_5 ?_
  refine lv_icmp_ge (tgt := 35) hx hb dX6_isHere_8 (by decide) (fun c_8 => ?_) (fun c_8 => ?_)
  · refine lv_iconst (v := (0 : Int32)) hx hb dX6_isHere_35 (by decide) ?_
    have E : (f_X6_isHere v p0 p1) = (0 : Int32) := (if_pos c_8).trans rfl
    exact hret _ _ _ _ _ _ dX6_isHere_36 E.symm (rfl) rfl hP hD hS
  · refine lv_aload_n hx hb dX6_isHere_11 rfl (lv_at hl 0 rfl) ?_
    refine va_get (D := g.1) (ci := 6) (v := .ref (q 6)) (C := RX6) (T := TX6) (N := 12) hx hb hts (zin_X6_isHere_X6) hown hK hP 0 rfl rfl 6 (by decide) (hts (.fieldLink RX6 25 "PegClerksModel" "text" "[I") (by decide +kernel)) (fun _ h9 => h9) rfl dX6_isHere_12 ?_
    refine lv_aload_n hx hb dX6_isHere_15 rfl (lv_at hl 0 rfl) ?_
    refine va_get (D := g.1) (ci := 6) (v := .int (v.1 2)) (C := RX6) (T := TX6) (N := 12) hx hb hts (zin_X6_isHere_X6) hown hK hP 0 rfl rfl 8 (by decide) (hts (.fieldLink RX6 147 "PegClerksModel" "spot" "I") (by decide +kernel)) (fun _ h9 => h9) rfl dX6_isHere_16 ?_
    refine z_iald (f := (v.2 5)) (k := (v.1 2).toNatClampNeg) hx hb hK hP 6 0 rfl rfl (zhere0 hs ht c_8) rfl dX6_isHere_19 ?_
    refine lv_i2l hx hb dX6_isHere_20 rfl ?_
    refine lv_iload_n hx hb dX6_isHere_21 rfl (lv_at hl 1 rfl) ?_
    refine lv_i2l hx hb dX6_isHere_22 rfl ?_
    refine lv_iload_n hx hb dX6_isHere_23 rfl (lv_at hl 2 rfl) ?_
    refine lv_i2l hx hb dX6_isHere_24 rfl ?_
    refine zcSi (n := 3) (As := [.long (((v.2 5) (v.1 2).toNatClampNeg).toInt64), .long (p0.toInt64), .long (p1.toInt64)]) (rest := []) hx hb hml hown hts hN (m_X6_in l g (((v.2 5) (v.1 2).toNatClampNeg).toInt64) (p0.toInt64) (p1.toInt64)) gX6_isHere_X6_in rfl (by decide +kernel) ⟨rfl, rfl⟩ ⟨Nat.le_of_ble_eq_true rfl, Nat.le_of_ble_eq_true rfl⟩ hK hP hD hS hA rfl hl.1 rfl (Nat.le_of_ble_eq_true rfl) dX6_isHere_25 ⟨Nat.zero_le _, Nat.zero_le _⟩ (fun H locs hP hD hS => ?_)
    refine lv_if_eq (tgt := 35) hx hb dX6_isHere_28 (by decide) (fun c_28 => ?_) (fun c_28 => ?_)
    · refine lv_iconst (v := (0 : Int32)) hx hb dX6_isHere_35 (by decide) ?_
      have E : (f_X6_isHere v p0 p1) = (0 : Int32) := (if_neg c_8).trans ((if_pos c_28).trans rfl)
      exact hret _ _ _ _ _ _ dX6_isHere_36 E.symm (rfl) rfl hP hD hS
    · refine lv_iconst (v := (1 : Int32)) hx hb dX6_isHere_31 (by decide) ?_
      refine lv_goto (tgt := 36) hx hb dX6_isHere_32 (by decide) ?_
      have E : (f_X6_isHere v p0 p1) = (1 : Int32) := (if_neg c_8).trans ((if_neg c_28).trans rfl)
      exact hret _ _ _ _ _ _ dX6_isHere_36 E.symm (rfl) rfl hP hD hS
theorem znar_here {v : zCV} {a b : Int32} : narrow .boolean (.int (f_X6_isHere v a b)) = .int (f_X6_isHere v a b) := by
  unfold f_X6_isHere
  repeat' split
  all_goals rfl
abbrev rm_X6_takesOne : Room := { frames := 2, cells := 0, slots := 0, locals := 47 }
set_option maxRecDepth 20000 in
theorem zin_X6_takesOne_X6 : ∀ w ∈ wsX60, w ∈ wsX6_takesOne := by decide +kernel
def r_X6_takesOne_3 (v : zCV) (p0 : Int32) : Int32 := (f_X6_isHere v p0 p0)
def s_X6_takesOne_22 (v : zCV) : zCV := zS v 2 ((v.1 2) + (0 : Int32))
def s_X6_takesOne_22_2 (v : zCV) : zCV := zS v 2 ((v.1 2) + (1 : Int32))
def f_X6_takesOne (v : zCV) (p0 : Int32) : Int32 × zCV := if (r_X6_takesOne_3 v p0) = (0 : Int32) then (((r_X6_takesOne_3 v p0), (s_X6_takesOne_22 v))) else (((r_X6_takesOne_3 v p0), (s_X6_takesOne_22_2 v)))
set_option maxRecDepth 100000 in
set_option maxHeartbeats 4000000 in
theorem m_X6_takesOne (l : Launch) (g : zG) (q : Nat → Nat) (v : zCV) (p0 : Int32) (hs : vp_in (v.1 2) 61) (ht : vp_in (v.1 1) 61) : ZI l yX6_takesOne wsX6_takesOne rm_X6_takesOne g (mo g q v) [.ref (q 0), .int p0] (f_X6_takesOne v p0).1 (mo g q (f_X6_takesOne v p0).2) := by
  refine zopenI (cc := cX6_takesOne) (maxL := 3) (ret := .boolean) (by decide +kernel) rfl (Nat.le_of_ble_eq_true rfl) ?_
  intro p e s m below meth c A Q ls hx hb hml hown hts hP hK hD hA hN hl hret
  have hS : va_S A s.heap s.heap [] := va_S.rf
  have hl : lv_has ls 3 [(0, .ref (q 0)), (1, .int p0)] := hl
  have hown : s.vm.findClass RX6 = some m.cls := hown
  refine lv_aload_n hx hb dX6_takesOne_0 rfl (lv_at hl 0 rfl) ?_
  refine lv_iload_n hx hb dX6_takesOne_1 rfl (lv_at hl 1 rfl) ?_
  refine lv_iload_n hx hb dX6_takesOne_2 rfl (lv_at hl 1 rfl) ?_
  refine zcVi (n := 2) (As := [.int p0, .int p0]) (rest := []) (Xr := []) (Xn := (mo g q v)) (ci := 6) (C := RX6) (T := TX6) (N := 12) (q0 := 0) hx hb hml hown hts hN (m_X6_isHere l g q v p0 p0 hs ht) gX6_takesOne_X6_isHere rfl (by decide +kernel) ⟨rfl, rfl⟩ ⟨Nat.le_of_ble_eq_true rfl, Nat.le_of_ble_eq_true rfl⟩ hK hP hD hS hA (zpn _) rfl rfl rfl hl.1 rfl (Nat.le_of_ble_eq_true rfl) dX6_takesOne_3 ⟨Nat.zero_le _, Nat.zero_le _⟩ (zpn' _) (fun H locs hP hD hS => ?_)
  refine lv_istore_n (lv' := [(2, .int (r_X6_takesOne_3 v p0)), (0, .ref (q 0)), (1, .int p0)]) hx hb dX6_takesOne_6 rfl hl (by decide) rfl (fun ls hl => ?_)
  refine lv_aload_n hx hb dX6_takesOne_7 rfl (lv_at hl 1 rfl) ?_
  refine lv_dup hx hb dX6_takesOne_8 rfl ?_
  refine va_get (D := g.1) (ci := 6) (v := .int (v.1 2)) (C := RX6) (T := TX6) (N := 12) hx hb hts (zin_X6_takesOne_X6) hown hK hP 0 rfl rfl 8 (by decide) (hts (.fieldLink RX6 147 "PegClerksModel" "spot" "I") (by decide +kernel)) (fun _ h9 => h9) rfl dX6_takesOne_9 ?_
  refine lv_iload_n hx hb dX6_takesOne_12 rfl (lv_at hl 0 rfl) ?_
  refine lv_if_eq (tgt := 20) hx hb dX6_takesOne_13 (by decide) (fun c_13 => ?_) (fun c_13 => ?_)
  · refine lv_iconst (v := (0 : Int32)) hx hb dX6_takesOne_20 (by decide) ?_
    refine lv_iadd hx hb dX6_takesOne_21 ?_
    refine va_put (D := g.1) (ci := 6) (v := .int ((v.1 2) + (0 : Int32))) (ty := .int) (C := RX6) (T := TX6) (N := 12) hx hb hts (zin_X6_takesOne_X6) tyX6 tyX6_ok nmX6 hown hK hP hD hS 0 rfl rfl 8 (by decide) (hts (.fieldLink RX6 147 "PegClerksModel" "spot" "I") (by decide +kernel)) (fun _ h9 => h9) rfl (by decide +kernel) rfl rfl (Nat.le_of_ble_eq_true rfl) dX6_takesOne_22 (fun H locs hP hD hS => ?_)
    have hP : va_P g.1 vwCl (mo g q (s_X6_takesOne_22 v)) H := (congrArg (fun z => va_P g.1 vwCl z H) (mo_S2 g q v ((v.1 2) + (0 : Int32)))).mp hP
    have hD : va_D A (mo g q (s_X6_takesOne_22 v)) := (congrArg (fun z => va_D A z) (mo_S2 g q v ((v.1 2) + (0 : Int32)))).mp hD
    refine lv_iload_n hx hb dX6_takesOne_25 rfl (lv_at hl 0 rfl) ?_
    have E : (f_X6_takesOne v p0) = ((r_X6_takesOne_3 v p0), (s_X6_takesOne_22 v)) := (if_pos c_13).trans rfl
    have e1 : (r_X6_takesOne_3 v p0) = (f_X6_takesOne v p0).1 := by rw [E]
    have e2 : (mo g q (s_X6_takesOne_22 v)) = (mo g q (f_X6_takesOne v p0).2) := by rw [E]
    exact hret (r_X6_takesOne_3 v p0) (mo g q (s_X6_takesOne_22 v)) _ _ _ _ dX6_takesOne_26 e1 (znar_here) e2 hP hD hS
  · refine lv_iconst (v := (1 : Int32)) hx hb dX6_takesOne_16 (by decide) ?_
    refine lv_goto (tgt := 21) hx hb dX6_takesOne_17 (by decide) ?_
    refine lv_iadd hx hb dX6_takesOne_21 ?_
    refine va_put (D := g.1) (ci := 6) (v := .int ((v.1 2) + (1 : Int32))) (ty := .int) (C := RX6) (T := TX6) (N := 12) hx hb hts (zin_X6_takesOne_X6) tyX6 tyX6_ok nmX6 hown hK hP hD hS 0 rfl rfl 8 (by decide) (hts (.fieldLink RX6 147 "PegClerksModel" "spot" "I") (by decide +kernel)) (fun _ h9 => h9) rfl (by decide +kernel) rfl rfl (Nat.le_of_ble_eq_true rfl) dX6_takesOne_22 (fun H locs hP hD hS => ?_)
    have hP : va_P g.1 vwCl (mo g q (s_X6_takesOne_22_2 v)) H := (congrArg (fun z => va_P g.1 vwCl z H) (mo_S2 g q v ((v.1 2) + (1 : Int32)))).mp hP
    have hD : va_D A (mo g q (s_X6_takesOne_22_2 v)) := (congrArg (fun z => va_D A z) (mo_S2 g q v ((v.1 2) + (1 : Int32)))).mp hD
    refine lv_iload_n hx hb dX6_takesOne_25 rfl (lv_at hl 0 rfl) ?_
    have E : (f_X6_takesOne v p0) = ((r_X6_takesOne_3 v p0), (s_X6_takesOne_22_2 v)) := (if_neg c_13).trans rfl
    have e1 : (r_X6_takesOne_3 v p0) = (f_X6_takesOne v p0).1 := by rw [E]
    have e2 : (mo g q (s_X6_takesOne_22_2 v)) = (mo g q (f_X6_takesOne v p0).2) := by rw [E]
    exact hret (r_X6_takesOne_3 v p0) (mo g q (s_X6_takesOne_22_2 v)) _ _ _ _ dX6_takesOne_26 e1 (znar_here) e2 hP hD hS
