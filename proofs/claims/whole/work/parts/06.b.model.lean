def zFr (j : Nat) (v w : zCV) : Prop := w.1 = v.1 ∧ ∀ i, i ≠ j → w.2 i = v.2 i
theorem zFr.rf {j : Nat} {v : zCV} : zFr j v v := ⟨rfl, fun _ _ => rfl⟩
theorem zFr.tr {j : Nat} {u v w : zCV} (h : zFr j u v) (h2 : zFr j v w) : zFr j u w := ⟨h2.1.trans h.1, fun i hi => (h2.2 i hi).trans (h.2 i hi)⟩
theorem zFr.wr {j : Nat} {v : zCV} {f : Nat → Int32} : zFr j v (zA v j f) := ⟨rfl, fun i hi => if_neg hi⟩
theorem zFr_falls (v : zCV) (p : Int32) : zFr 0 v (f_X6_falls v p) := by
  unfold f_X6_falls
  repeat' split
  all_goals simp only [s_X6_falls_66, s_X6_falls_66_2, s_X6_falls_85, s_X6_falls_85_2, s_X6_falls_98, s_X6_falls_98_2, s_X6_falls_111, s_X6_falls_111_2, s_X6_falls_22, s_X6_falls_35]
  all_goals first | exact zFr.wr | exact zFr.wr.tr zFr.wr | exact (zFr.wr.tr zFr.wr).tr zFr.wr | exact ((zFr.wr.tr zFr.wr).tr zFr.wr).tr zFr.wr | exact (((zFr.wr.tr zFr.wr).tr zFr.wr).tr zFr.wr).tr zFr.wr
theorem zFr_wears (v : zCV) (p r : Int32) : zFr 0 v (f_X6_wears v p r) := by
  unfold f_X6_wears
  repeat' split
  all_goals first | exact zFr.wr | exact zFr.wr.tr zFr.wr | exact (zFr.wr.tr zFr.wr).tr zFr.wr
theorem zFr_newOne (v : zCV) : zFr 0 v (f_X6_newOne v) := (zFr.wr.tr zFr.wr).tr zFr.wr
theorem zFr_lies (v : zCV) : zFr 0 v (f_X6_lies v) := by
  unfold f_X6_lies
  repeat' split
  all_goals first | exact zFr.wr | exact (zFr.wr.tr zFr.wr).tr (zFr_newOne _)
theorem zFr_stepsL (v : zCV) : ∀ (n i : Nat) (w : zCV), zFr 0 w (f_X6_steps_L49 v n i w)
  | 0, i, w => zFr.rf
  | n + 1, i, w => by
    unfold f_X6_steps_L49
    split
    · exact zFr_stepsL v n (i + 1) w
    · exact ((zFr_falls _ _).tr (zFr_wears _ _ _)).tr (zFr_stepsL v n (i + 1) _)
theorem zFr_steps (v : zCV) : zFr 0 v (f_X6_steps v).2 := by
  unfold f_X6_steps
  repeat' split
  all_goals first | exact zFr.rf | exact zFr.wr.tr zFr.wr | exact (((zFr_stepsL v (zfu 6) 0 v).tr zFr.wr).tr zFr.wr).tr (zFr_lies _)
theorem zrem16 {x : Int32} {n : Nat} (h : vp_in x n) (hn : n < 2147483648) : vp_in (x - ((x / (16 : Int32)) * (16 : Int32))) 16 := by
  obtain ⟨r, hr, rfl⟩ := vp_in_of h (by omega)
  rw [show (16 : Int32) = nI 16 from rfl, pk_rem (by omega) (by omega) (by omega)]
  exact vp_in_nI (by omega) (by omega)
theorem zin_1 {x : Int32} {n : Nat} (h : vp_in x n) (hn : n < 2147483647) : vp_in (x + (1 : Int32)) (n + 1) := by
  obtain ⟨r, hr, rfl⟩ := vp_in_of h (by omega)
  rw [nI_1]
  exact vp_in_nI (by omega) (by omega)
theorem e4_newOne (v : zCV) : (f_X6_newOne v).2 0 4 = v.2 0 4 := rfl
theorem e4_lies (v : zCV) : (f_X6_lies v).2 0 4 = v.2 0 4 := by
  unfold f_X6_lies
  repeat' split
  all_goals rfl
theorem zrow_steps {v : zCV} (h : vp_in (v.2 0 4) 16) : vp_in ((f_X6_steps v).2.2 0 4) 16 := by
  have hr : vp_in (((v.2 0) 4 + (1 : Int32)) - ((((v.2 0) 4 + (1 : Int32)) / (16 : Int32)) * (16 : Int32))) 16 := zrem16 (zin_1 h (by omega)) (by omega)
  unfold f_X6_steps
  split
  · exact h
  · split
    · simp only [s_X6_steps_105]
      rw [e4_lies]
      simp only [s_X6_steps_103, s_X6_steps_92, zA, upd]
      exact hr
    · exact h
abbrev rm_X6_stepsUpTo : Room := { frames := 5, cells := 0, slots := 0, locals := 109 }
def r_X6_stepsUpTo_8 (w2_0 : zCV) : Int32 × zCV := (f_X6_steps w2_0)
def f_X6_stepsUpTo_L2  : Nat → Nat → zCV → Int32 × zCV
  | 0, i2, w2_0 => ((nI i2), w2_0)
  | n2 + 1, i2, w2_0 => if ((r_X6_stepsUpTo_8 w2_0).1) = (0 : Int32) then (((nI i2), (r_X6_stepsUpTo_8 w2_0).2)) else ((f_X6_stepsUpTo_L2 n2 (i2 + 1) (r_X6_stepsUpTo_8 w2_0).2))
def f_X6_stepsUpTo (v : zCV) (p0 : Int32) : Int32 × zCV := ((f_X6_stepsUpTo_L2 (zfu p0.toNatClampNeg) 0 v).1, (f_X6_stepsUpTo_L2 (zfu p0.toNatClampNeg) 0 v).2)
set_option maxRecDepth 100000 in
set_option maxHeartbeats 4000000 in
theorem m_X6_stepsUpTo (l : Launch) (g : zG) (q : Nat → Nat) (v : zCV) (p0 : Int32) (hat : vp_in (v.2 0 4) 16) : ZI l yX6_stepsUpTo wsX6_stepsUpTo rm_X6_stepsUpTo g (mo g q v) [.ref (q 0), .int p0] (f_X6_stepsUpTo v p0).1 (mo g q (f_X6_stepsUpTo v p0).2) := by
  refine zopenI (cc := cX6_stepsUpTo) (maxL := 3) (ret := .int) (by decide +kernel) rfl (Nat.le_of_ble_eq_true rfl) ?_
  intro p e s m below meth c A Q ls hx hb hml hown hts hP hK hD hA hN hl hret
  have hS : va_S A s.heap s.heap [] := va_S.rf
  have hl : lv_has ls 3 [(0, .ref (q 0)), (1, .int p0)] := hl
  have hown : s.vm.findClass RX6 = some m.cls := hown
  refine lv_iconst (v := (0 : Int32)) hx hb dX6_stepsUpTo_0 (by decide) ?_
  refine lv_istore_n (lv' := [(2, .int (0 : Int32)), (0, .ref (q 0)), (1, .int p0)]) hx hb dX6_stepsUpTo_1 rfl hl (by decide) rfl (fun ls hl => ?_)
  have L2 : ∀ (n2 : Nat) (i2 : Nat), i2 + n2 = p0.toNatClampNeg → ∀ (w2_0 : zCV) (H : Heap) (locs : List Loc) (ls : Array Slot), vp_in (w2_0.2 0 4) 16 → va_P g.1 vwCl (mo g q w2_0) H → va_D A (mo g q w2_0) → va_S A s.heap H locs → lv_has ls 3 [(2, .int (nI i2)), (0, .ref (q 0)), (1, .int p0)] → (∀ (H : Heap) (locs : List Loc) (ls : Array Slot), va_P g.1 vwCl (mo g q (f_X6_stepsUpTo_L2 n2 i2 w2_0).2) H → va_D A (mo g q (f_X6_stepsUpTo_L2 n2 i2 w2_0).2) → va_S A s.heap H locs → lv_has ls 3 [(2, .int (f_X6_stepsUpTo_L2 n2 i2 w2_0).1), (0, .ref (q 0)), (1, .int p0)] → W p l e rm_X6_stepsUpTo s m ([.ref (q 0), .int p0] : List Value).toArray below meth c H locs 0 0 Q (F0 m 20 ls [])) → W p l e rm_X6_stepsUpTo s m ([.ref (q 0), .int p0] : List Value).toArray below meth c H locs 0 0 Q (F0 m 2 ls []) := by
    intro n2
    induction n2 with
    | zero =>
      intro i2 hin2 w2_0 H locs ls hat hP hD hS hl kx
      refine lv_iload_n hx hb dX6_stepsUpTo_2 rfl (lv_at hl 0 rfl) ?_
      refine lv_iload_n hx hb dX6_stepsUpTo_3 rfl (lv_at hl 2 rfl) ?_
      refine lv_icmp_ge (tgt := 20) hx hb dX6_stepsUpTo_4 (by decide) (fun c_4 => ?_) (fun c_4 => ?_)
      rotate_left
      · exact absurd (zge0 (by omega)) c_4
      have E : (f_X6_stepsUpTo_L2 0 i2 w2_0) = ((nI i2), w2_0) := rfl
      rw [E] at kx
      exact kx _ _ _ hP hD hS (lv_sub hl [0, 1, 2] rfl)
    | succ n2 ih2 =>
      intro i2 hin2 w2_0 H locs ls hat hP hD hS hl kx
      refine lv_iload_n hx hb dX6_stepsUpTo_2 rfl (lv_at hl 0 rfl) ?_
      refine lv_iload_n hx hb dX6_stepsUpTo_3 rfl (lv_at hl 2 rfl) ?_
      refine lv_icmp_ge (tgt := 20) hx hb dX6_stepsUpTo_4 (by decide) (fun c_4 => ?_) (fun c_4 => ?_)
      · exact absurd c_4 (zge1 (by omega))
      refine lv_aload_n hx hb dX6_stepsUpTo_7 rfl (lv_at hl 1 rfl) ?_
      refine zcVi (n := 0) (As := []) (rest := []) (Xr := []) (Xn := (mo g q (r_X6_stepsUpTo_8 w2_0).2)) (ci := 6) (C := RX6) (T := TX6) (N := 12) (q0 := 0) hx hb hml hown hts hN (m_X6_steps l g q w2_0 hat) gX6_stepsUpTo_X6_steps rfl (by decide +kernel) ⟨rfl, rfl⟩ ⟨Nat.le_of_ble_eq_true rfl, Nat.le_of_ble_eq_true rfl⟩ hK hP hD hS hA (zpn _) rfl rfl rfl hl.1 rfl (Nat.le_of_ble_eq_true rfl) dX6_stepsUpTo_8 ⟨Nat.zero_le _, Nat.zero_le _⟩ (zpn' _) (fun H locs hP hD hS => ?_)
      refine lv_if_eq (tgt := 20) hx hb dX6_stepsUpTo_11 (by decide) (fun c_11 => ?_) (fun c_11 => ?_)
      · have E : (f_X6_stepsUpTo_L2 (n2 + 1) i2 w2_0) = ((nI i2), (r_X6_stepsUpTo_8 w2_0).2) := (if_pos c_11).trans rfl
        rw [E] at kx
        exact kx _ _ _ hP hD hS (lv_sub hl [0, 1, 2] rfl)
      · refine lv_iinc (v := (nI (i2 + 1))) (lv' := [(2, .int (nI (i2 + 1))), (0, .ref (q 0)), (1, .int p0)]) hx hb dX6_stepsUpTo_14 hl (k := 0) rfl (nI_1 i2) (by decide) rfl (fun ls hl => ?_)
        refine lv_goto (tgt := 2) hx hb dX6_stepsUpTo_17 (by decide) ?_
        have E : (f_X6_stepsUpTo_L2 (n2 + 1) i2 w2_0) = (f_X6_stepsUpTo_L2 n2 (i2 + 1) (r_X6_stepsUpTo_8 w2_0).2) := (if_neg c_11).trans rfl
        rw [E] at kx
        exact ih2 (i2 + 1) (by omega) (r_X6_stepsUpTo_8 w2_0).2 _ _ _ (zrow_steps hat) hP hD hS (lv_sub hl [0, 1, 2] rfl) kx
  refine L2 (zfu p0.toNatClampNeg) 0 (by rw [zfu_eq]; omega) v _ _ _ hat hP hD hS (lv_sub hl [0, 1, 2] rfl) (fun H locs ls hP hD hS hl => ?_)
  refine lv_iload_n hx hb dX6_stepsUpTo_20 rfl (lv_at hl 0 rfl) ?_
  have E : (f_X6_stepsUpTo v p0) = ((f_X6_stepsUpTo_L2 (zfu p0.toNatClampNeg) 0 v).1, (f_X6_stepsUpTo_L2 (zfu p0.toNatClampNeg) 0 v).2) := rfl
  have e1 : (f_X6_stepsUpTo_L2 (zfu p0.toNatClampNeg) 0 v).1 = (f_X6_stepsUpTo v p0).1 := by rw [E]
  have e2 : (mo g q (f_X6_stepsUpTo_L2 (zfu p0.toNatClampNeg) 0 v).2) = (mo g q (f_X6_stepsUpTo v p0).2) := by rw [E]
  exact hret (f_X6_stepsUpTo_L2 (zfu p0.toNatClampNeg) 0 v).1 (mo g q (f_X6_stepsUpTo_L2 (zfu p0.toNatClampNeg) 0 v).2) _ _ _ _ dX6_stepsUpTo_21 e1 (rfl) e2 hP hD hS
theorem zFr_stepsUpToL (p : Int32) : ∀ (n i : Nat) (w : zCV), zFr 0 w (f_X6_stepsUpTo_L2 n i w).2
  | 0, i, w => zFr.rf
  | n + 1, i, w => by
    unfold f_X6_stepsUpTo_L2
    split
    · exact zFr_steps w
    · exact (zFr_steps w).tr (zFr_stepsUpToL p n (i + 1) _)
theorem zFr_stepsUpTo (v : zCV) (p : Int32) : zFr 0 v (f_X6_stepsUpTo v p).2 := zFr_stepsUpToL p _ _ _
theorem zrow_stepsUpToL : ∀ (n i : Nat) (w : zCV), vp_in (w.2 0 4) 16 → vp_in ((f_X6_stepsUpTo_L2 n i w).2.2 0 4) 16
  | 0, i, w, h => h
  | n + 1, i, w, h => by
    unfold f_X6_stepsUpTo_L2
    split
    · exact zrow_steps h
    · exact zrow_stepsUpToL n (i + 1) _ (zrow_steps h)
theorem zrow_stepsUpTo {v : zCV} {p : Int32} (h : vp_in (v.2 0 4) 16) : vp_in ((f_X6_stepsUpTo v p).2.2 0 4) 16 := zrow_stepsUpToL _ _ _ h
theorem zin_hist {x y : Int32} (hx : vp_in x 6) (hy : vp_in y 136) : vp_in (((136 : Int32) * x) + y) 816 := by
  obtain ⟨r, hr, rfl⟩ := vp_in_of hx (by omega)
  obtain ⟨k, hk, rfl⟩ := vp_in_of hy (by omega)
  rw [show (136 : Int32) = nI 136 from rfl, pk_mul, nI_add]
  exact vp_in_nI (by omega) (by omega)
theorem zin_addr {c k n : Nat} {C x : Int32} (hC : C = nI c) (h : vp_in x k) (hc : c + k ≤ n) (hn : n < 2147483648) : vp_in (x + C) n := by
  obtain ⟨j, hj, rfl⟩ := vp_in_of h (by omega)
  subst hC
  rw [nI_add]
  exact vp_in_nI (by omega) (by omega)
theorem zch0 {x : Int32} (h : vp_in x 7) (c : ¬ x = (6 : Int32)) : vp_in x 6 := by
  obtain ⟨j, hj, rfl⟩ := vp_in_of h (by omega)
  refine vp_in_nI (Nat.lt_of_le_of_ne (by omega) (fun e => c ?_)) (by omega)
  subst e; rfl
abbrev rm_X6_changes : Room := { frames := 0, cells := 0, slots := 0, locals := 0 }
set_option maxRecDepth 20000 in
theorem zin_X6_changes_X6 : ∀ w ∈ wsX60, w ∈ wsX6_changes := by decide +kernel
def s_X6_changes_79 (i52 : Nat) (w52_0 : zCV) : zCV := zA w52_0 2 (upd (w52_0.2 2) (((136 : Int32) * (w52_0.1 0)) + (nI i52)).toNatClampNeg ((w52_0.2 0) (nI i52).toNatClampNeg))
def f_X6_changes_L52  : Nat → Nat → zCV → zCV
  | 0, i52, w52_0 => w52_0
  | n52 + 1, i52, w52_0 => (f_X6_changes_L52 n52 (i52 + 1) (s_X6_changes_79 i52 w52_0))
def s_X6_changes_93 (v : zCV) : zCV := zS (f_X6_changes_L52 (zfu 136) 0 v) 0 (((f_X6_changes_L52 (zfu 136) 0 v).1 0) + (1 : Int32))
def s_X6_changes_33 (i11 : Nat) (w11_0 : zCV) : zCV := zA w11_0 2 (upd (w11_0.2 2) (nI i11).toNatClampNeg ((w11_0.2 2) ((nI i11) + (136 : Int32)).toNatClampNeg))
def f_X6_changes_L11  : Nat → Nat → zCV → zCV
  | 0, i11, w11_0 => w11_0
  | n11 + 1, i11, w11_0 => (f_X6_changes_L11 n11 (i11 + 1) (s_X6_changes_33 i11 w11_0))
def s_X6_changes_47 (v : zCV) : zCV := zS (f_X6_changes_L11 (zfu 680) 0 v) 0 (((f_X6_changes_L11 (zfu 680) 0 v).1 0) - (1 : Int32))
def s_X6_changes_93_2 (v : zCV) : zCV := zS (f_X6_changes_L52 (zfu 136) 0 (s_X6_changes_47 v)) 0 (((f_X6_changes_L52 (zfu 136) 0 (s_X6_changes_47 v)).1 0) + (1 : Int32))
def f_X6_changes (v : zCV) : zCV := if (v.1 0) = (6 : Int32) then ((s_X6_changes_93_2 v)) else ((s_X6_changes_93 v))
theorem e1_changesL11 : ∀ (n i : Nat) (w : zCV), (f_X6_changes_L11 n i w).1 = w.1
  | 0, i, w => rfl
  | n + 1, i, w => by
    unfold f_X6_changes_L11
    rw [e1_changesL11 n (i + 1)]; rfl
theorem zch1 {v : zCV} (h : vp_in (v.1 0) 7) (c : (v.1 0) = (6 : Int32)) : vp_in ((s_X6_changes_47 v).1 0) 6 := by
  have e : (s_X6_changes_47 v).1 0 = v.1 0 - (1 : Int32) := by
    simp only [s_X6_changes_47, zS]
    rw [pk_us, e1_changesL11]
  rw [e, c]
  exact zlit _ 6 (by decide +kernel)
set_option maxRecDepth 100000 in
set_option maxHeartbeats 4000000 in
theorem m_X6_changes (l : Launch) (g : zG) (q : Nat → Nat) (v : zCV) (hh : vp_in (v.1 0) 7) : ZV l yX6_changes wsX6_changes rm_X6_changes g (mo g q v) [.ref (q 0)] (mo g q (f_X6_changes v)) := by
  refine zopenV (cc := cX6_changes) (maxL := 2) (by decide +kernel) rfl (Nat.le_of_ble_eq_true rfl) ?_
  intro p e s m below meth c A Q ls hx hb hml hown hts hP hK hD hA hN hl hret
  have hS : va_S A s.heap s.heap [] := va_S.rf
  have hl : lv_has ls 2 [(0, .ref (q 0))] := hl
  have hown : s.vm.findClass RX6 = some m.cls := hown
  refine lv_aload_n hx hb dX6_changes_0 rfl (lv_at hl 0 rfl) ?_
  refine va_get (D := g.1) (ci := 6) (v := .int (v.1 0)) (C := RX6) (T := TX6) (N := 12) hx hb hts (zin_X6_changes_X6) hown hK hP 0 rfl rfl 3 (by decide) (hts (.fieldLink RX6 34 "PegClerksModel" "historyLong" "I") (by decide +kernel)) (fun _ h9 => h9) rfl dX6_changes_1 ?_
  refine lv_bipush (v := (6 : Int32)) hx hb dX6_changes_4 (by decide) ?_
  refine lv_icmp_ne (tgt := 50) hx hb dX6_changes_6 (by decide) (fun c_6 => ?_) (fun c_6 => ?_)
  · refine lv_iconst (v := (0 : Int32)) hx hb dX6_changes_50 (by decide) ?_
    refine lv_istore_n (lv' := [(1, .int (0 : Int32)), (0, .ref (q 0))]) hx hb dX6_changes_51 rfl hl (by decide) rfl (fun ls hl => ?_)
    have L52 : ∀ (n52 : Nat) (i52 : Nat), i52 + n52 = 136 → ∀ (w52_0 : zCV) (H : Heap) (locs : List Loc) (ls : Array Slot), vp_in (w52_0.1 0) 6 → va_P g.1 vwCl (mo g q w52_0) H → va_D A (mo g q w52_0) → va_S A s.heap H locs → lv_has ls 2 [(1, .int (nI i52)), (0, .ref (q 0))] → (∀ (H : Heap) (locs : List Loc) (ls : Array Slot), va_P g.1 vwCl (mo g q (f_X6_changes_L52 n52 i52 w52_0)) H → va_D A (mo g q (f_X6_changes_L52 n52 i52 w52_0)) → va_S A s.heap H locs → lv_has ls 2 [(0, .ref (q 0))] → W p l e rm_X6_changes s m ([.ref (q 0)] : List Value).toArray below meth c H locs 0 0 Q (F0 m 86 ls [])) → W p l e rm_X6_changes s m ([.ref (q 0)] : List Value).toArray below meth c H locs 0 0 Q (F0 m 52 ls []) := by
      intro n52
      induction n52 with
      | zero =>
        intro i52 hin52 w52_0 H locs ls hh hP hD hS hl kx
        refine lv_iload_n hx hb dX6_changes_52 rfl (lv_at hl 0 rfl) ?_
        refine lv_sipush (v := (136 : Int32)) hx hb dX6_changes_53 (by decide) ?_
        refine lv_icmp_ge (tgt := 86) hx hb dX6_changes_56 (by decide) (fun c_56 => ?_) (fun c_56 => ?_)
        rotate_left
        · exact absurd (by rw [show i52 = 136 by omega]; decide) c_56
        have E : (f_X6_changes_L52 0 i52 w52_0) = w52_0 := rfl
        rw [E] at kx
        exact kx _ _ _ hP hD hS (lv_sub hl [1] rfl)
      | succ n52 ih52 =>
        intro i52 hin52 w52_0 H locs ls hh hP hD hS hl kx
        refine lv_iload_n hx hb dX6_changes_52 rfl (lv_at hl 0 rfl) ?_
        refine lv_sipush (v := (136 : Int32)) hx hb dX6_changes_53 (by decide) ?_
        refine lv_icmp_ge (tgt := 86) hx hb dX6_changes_56 (by decide) (fun c_56 => ?_) (fun c_56 => ?_)
        · exact absurd c_56 (nI_ge (a := i52) (b := 136) (by omega) (by omega))
        refine lv_aload_n hx hb dX6_changes_59 rfl (lv_at hl 1 rfl) ?_
        refine va_get (D := g.1) (ci := 6) (v := .ref (q 3)) (C := RX6) (T := TX6) (N := 12) hx hb hts (zin_X6_changes_X6) hown hK hP 0 rfl rfl 2 (by decide) (hts (.fieldLink RX6 16 "PegClerksModel" "history" "[I") (by decide +kernel)) (fun _ h9 => h9) rfl dX6_changes_60 ?_
        refine lv_sipush (v := (136 : Int32)) hx hb dX6_changes_63 (by decide) ?_
        refine lv_aload_n hx hb dX6_changes_66 rfl (lv_at hl 1 rfl) ?_
        refine va_get (D := g.1) (ci := 6) (v := .int (w52_0.1 0)) (C := RX6) (T := TX6) (N := 12) hx hb hts (zin_X6_changes_X6) hown hK hP 0 rfl rfl 3 (by decide) (hts (.fieldLink RX6 34 "PegClerksModel" "historyLong" "I") (by decide +kernel)) (fun _ h9 => h9) rfl dX6_changes_67 ?_
        refine lv_imul hx hb dX6_changes_70 ?_
        refine lv_iload_n hx hb dX6_changes_71 rfl (lv_at hl 0 rfl) ?_
        refine lv_iadd hx hb dX6_changes_72 ?_
        refine lv_aload_n hx hb dX6_changes_73 rfl (lv_at hl 1 rfl) ?_
        refine va_get (D := g.1) (ci := 6) (v := .ref (q 1)) (C := RX6) (T := TX6) (N := 12) hx hb hts (zin_X6_changes_X6) hown hK hP 0 rfl rfl 0 (by decide) (hts (.fieldLink RX6 7 "PegClerksModel" "all" "[I") (by decide +kernel)) (fun _ h9 => h9) rfl dX6_changes_74 ?_
        refine lv_iload_n hx hb dX6_changes_77 rfl (lv_at hl 0 rfl) ?_
        refine z_iald (f := (w52_0.2 0)) (k := (nI i52).toNatClampNeg) hx hb hK hP 1 0 rfl rfl (vp_in_nI (by omega) (by omega)) rfl dX6_changes_78 ?_
        refine z_iast (f := (w52_0.2 2)) (k := (((136 : Int32) * (w52_0.1 0)) + (nI i52)).toNatClampNeg) hx hb hK hP hD hS 3 0 rfl rfl (zin_hist hh (vp_in_nI (n := i52) (N := 136) (by omega) (by omega))) rfl dX6_changes_79 (fun H locs hP hD hS => ?_)
        have hP : va_P g.1 vwCl (mo g q (s_X6_changes_79 i52 w52_0)) H := (congrArg (fun z => va_P g.1 vwCl z H) (mo_A2 g q w52_0 (upd (w52_0.2 2) (((136 : Int32) * (w52_0.1 0)) + (nI i52)).toNatClampNeg ((w52_0.2 0) (nI i52).toNatClampNeg)))).mp hP
        have hD : va_D A (mo g q (s_X6_changes_79 i52 w52_0)) := (congrArg (fun z => va_D A z) (mo_A2 g q w52_0 (upd (w52_0.2 2) (((136 : Int32) * (w52_0.1 0)) + (nI i52)).toNatClampNeg ((w52_0.2 0) (nI i52).toNatClampNeg)))).mp hD
        refine lv_iinc (v := (nI (i52 + 1))) (lv' := [(1, .int (nI (i52 + 1))), (0, .ref (q 0))]) hx hb dX6_changes_80 hl (k := 0) rfl (nI_1 i52) (by decide) rfl (fun ls hl => ?_)
        refine lv_goto (tgt := 52) hx hb dX6_changes_83 (by decide) ?_
        have E : (f_X6_changes_L52 (n52 + 1) i52 w52_0) = (f_X6_changes_L52 n52 (i52 + 1) (s_X6_changes_79 i52 w52_0)) := rfl
        rw [E] at kx
        exact ih52 (i52 + 1) (by omega) (s_X6_changes_79 i52 w52_0) _ _ _ hh hP hD hS (lv_sub hl [0, 1] rfl) kx
    refine L52 (zfu 136) 0 (by rw [zfu_eq]) v _ _ _ (zch0 hh c_6) hP hD hS (lv_sub hl [0, 1] rfl) (fun H locs ls hP hD hS hl => ?_)
    refine lv_aload_n hx hb dX6_changes_86 rfl (lv_at hl 0 rfl) ?_
    refine lv_dup hx hb dX6_changes_87 rfl ?_
    refine va_get (D := g.1) (ci := 6) (v := .int ((f_X6_changes_L52 (zfu 136) 0 v).1 0)) (C := RX6) (T := TX6) (N := 12) hx hb hts (zin_X6_changes_X6) hown hK hP 0 rfl rfl 3 (by decide) (hts (.fieldLink RX6 34 "PegClerksModel" "historyLong" "I") (by decide +kernel)) (fun _ h9 => h9) rfl dX6_changes_88 ?_
    refine lv_iconst (v := (1 : Int32)) hx hb dX6_changes_91 (by decide) ?_
    refine lv_iadd hx hb dX6_changes_92 ?_
    refine va_put (D := g.1) (ci := 6) (v := .int (((f_X6_changes_L52 (zfu 136) 0 v).1 0) + (1 : Int32))) (ty := .int) (C := RX6) (T := TX6) (N := 12) hx hb hts (zin_X6_changes_X6) tyX6 tyX6_ok nmX6 hown hK hP hD hS 0 rfl rfl 3 (by decide) (hts (.fieldLink RX6 34 "PegClerksModel" "historyLong" "I") (by decide +kernel)) (fun _ h9 => h9) rfl (by decide +kernel) rfl rfl (Nat.le_of_ble_eq_true rfl) dX6_changes_93 (fun H locs hP hD hS => ?_)
    have hP : va_P g.1 vwCl (mo g q (s_X6_changes_93 v)) H := (congrArg (fun z => va_P g.1 vwCl z H) (mo_S0 g q (f_X6_changes_L52 (zfu 136) 0 v) (((f_X6_changes_L52 (zfu 136) 0 v).1 0) + (1 : Int32)))).mp hP
    have hD : va_D A (mo g q (s_X6_changes_93 v)) := (congrArg (fun z => va_D A z) (mo_S0 g q (f_X6_changes_L52 (zfu 136) 0 v) (((f_X6_changes_L52 (zfu 136) 0 v).1 0) + (1 : Int32)))).mp hD
    have E : (f_X6_changes v) = (s_X6_changes_93 v) := (if_neg c_6).trans rfl
    have e2 : (mo g q (s_X6_changes_93 v)) = (mo g q (f_X6_changes v)) := by rw [E]
    exact hret (mo g q (s_X6_changes_93 v)) _ _ _ _ dX6_changes_96 e2 hP hD hS
  · refine lv_iconst (v := (0 : Int32)) hx hb dX6_changes_9 (by decide) ?_
    refine lv_istore_n (lv' := [(1, .int (0 : Int32)), (0, .ref (q 0))]) hx hb dX6_changes_10 rfl hl (by decide) rfl (fun ls hl => ?_)
    have L11 : ∀ (n11 : Nat) (i11 : Nat), i11 + n11 = 680 → ∀ (w11_0 : zCV) (H : Heap) (locs : List Loc) (ls : Array Slot), va_P g.1 vwCl (mo g q w11_0) H → va_D A (mo g q w11_0) → va_S A s.heap H locs → lv_has ls 2 [(1, .int (nI i11)), (0, .ref (q 0))] → (∀ (H : Heap) (locs : List Loc) (ls : Array Slot), va_P g.1 vwCl (mo g q (f_X6_changes_L11 n11 i11 w11_0)) H → va_D A (mo g q (f_X6_changes_L11 n11 i11 w11_0)) → va_S A s.heap H locs → lv_has ls 2 [(0, .ref (q 0))] → W p l e rm_X6_changes s m ([.ref (q 0)] : List Value).toArray below meth c H locs 0 0 Q (F0 m 40 ls [])) → W p l e rm_X6_changes s m ([.ref (q 0)] : List Value).toArray below meth c H locs 0 0 Q (F0 m 11 ls []) := by
      intro n11
      induction n11 with
      | zero =>
        intro i11 hin11 w11_0 H locs ls hP hD hS hl kx
        refine lv_iload_n hx hb dX6_changes_11 rfl (lv_at hl 0 rfl) ?_
        refine lv_sipush (v := (680 : Int32)) hx hb dX6_changes_12 (by decide) ?_
        refine lv_icmp_ge (tgt := 40) hx hb dX6_changes_15 (by decide) (fun c_15 => ?_) (fun c_15 => ?_)
        rotate_left
        · exact absurd (by rw [show i11 = 680 by omega]; decide) c_15
        have E : (f_X6_changes_L11 0 i11 w11_0) = w11_0 := rfl
        rw [E] at kx
        exact kx _ _ _ hP hD hS (lv_sub hl [1] rfl)
      | succ n11 ih11 =>
        intro i11 hin11 w11_0 H locs ls hP hD hS hl kx
        refine lv_iload_n hx hb dX6_changes_11 rfl (lv_at hl 0 rfl) ?_
        refine lv_sipush (v := (680 : Int32)) hx hb dX6_changes_12 (by decide) ?_
        refine lv_icmp_ge (tgt := 40) hx hb dX6_changes_15 (by decide) (fun c_15 => ?_) (fun c_15 => ?_)
        · exact absurd c_15 (nI_ge (a := i11) (b := 680) (by omega) (by omega))
        refine lv_aload_n hx hb dX6_changes_18 rfl (lv_at hl 1 rfl) ?_
        refine va_get (D := g.1) (ci := 6) (v := .ref (q 3)) (C := RX6) (T := TX6) (N := 12) hx hb hts (zin_X6_changes_X6) hown hK hP 0 rfl rfl 2 (by decide) (hts (.fieldLink RX6 16 "PegClerksModel" "history" "[I") (by decide +kernel)) (fun _ h9 => h9) rfl dX6_changes_19 ?_
        refine lv_iload_n hx hb dX6_changes_22 rfl (lv_at hl 0 rfl) ?_
        refine lv_aload_n hx hb dX6_changes_23 rfl (lv_at hl 1 rfl) ?_
        refine va_get (D := g.1) (ci := 6) (v := .ref (q 3)) (C := RX6) (T := TX6) (N := 12) hx hb hts (zin_X6_changes_X6) hown hK hP 0 rfl rfl 2 (by decide) (hts (.fieldLink RX6 16 "PegClerksModel" "history" "[I") (by decide +kernel)) (fun _ h9 => h9) rfl dX6_changes_24 ?_
        refine lv_iload_n hx hb dX6_changes_27 rfl (lv_at hl 0 rfl) ?_
        refine lv_sipush (v := (136 : Int32)) hx hb dX6_changes_28 (by decide) ?_
        refine lv_iadd hx hb dX6_changes_31 ?_
        refine z_iald (f := (w11_0.2 2)) (k := ((nI i11) + (136 : Int32)).toNatClampNeg) hx hb hK hP 3 0 rfl rfl (zin_addr (c := 136) (k := 680) rfl (vp_in_nI (n := i11) (N := 680) (by omega) (by omega)) (by omega) (by omega)) rfl dX6_changes_32 ?_
        refine z_iast (f := (w11_0.2 2)) (k := (nI i11).toNatClampNeg) hx hb hK hP hD hS 3 0 rfl rfl (vp_in_nI (by omega) (by omega)) rfl dX6_changes_33 (fun H locs hP hD hS => ?_)
        have hP : va_P g.1 vwCl (mo g q (s_X6_changes_33 i11 w11_0)) H := (congrArg (fun z => va_P g.1 vwCl z H) (mo_A2 g q w11_0 (upd (w11_0.2 2) (nI i11).toNatClampNeg ((w11_0.2 2) ((nI i11) + (136 : Int32)).toNatClampNeg)))).mp hP
        have hD : va_D A (mo g q (s_X6_changes_33 i11 w11_0)) := (congrArg (fun z => va_D A z) (mo_A2 g q w11_0 (upd (w11_0.2 2) (nI i11).toNatClampNeg ((w11_0.2 2) ((nI i11) + (136 : Int32)).toNatClampNeg)))).mp hD
        refine lv_iinc (v := (nI (i11 + 1))) (lv' := [(1, .int (nI (i11 + 1))), (0, .ref (q 0))]) hx hb dX6_changes_34 hl (k := 0) rfl (nI_1 i11) (by decide) rfl (fun ls hl => ?_)
        refine lv_goto (tgt := 11) hx hb dX6_changes_37 (by decide) ?_
        have E : (f_X6_changes_L11 (n11 + 1) i11 w11_0) = (f_X6_changes_L11 n11 (i11 + 1) (s_X6_changes_33 i11 w11_0)) := rfl
        rw [E] at kx
        exact ih11 (i11 + 1) (by omega) (s_X6_changes_33 i11 w11_0) _ _ _  hP hD hS (lv_sub hl [0, 1] rfl) kx
    refine L11 (zfu 680) 0 (by rw [zfu_eq]) v _ _ _  hP hD hS (lv_sub hl [0, 1] rfl) (fun H locs ls hP hD hS hl => ?_)
    refine lv_aload_n hx hb dX6_changes_40 rfl (lv_at hl 0 rfl) ?_
    refine lv_dup hx hb dX6_changes_41 rfl ?_
    refine va_get (D := g.1) (ci := 6) (v := .int ((f_X6_changes_L11 (zfu 680) 0 v).1 0)) (C := RX6) (T := TX6) (N := 12) hx hb hts (zin_X6_changes_X6) hown hK hP 0 rfl rfl 3 (by decide) (hts (.fieldLink RX6 34 "PegClerksModel" "historyLong" "I") (by decide +kernel)) (fun _ h9 => h9) rfl dX6_changes_42 ?_
    refine lv_iconst (v := (1 : Int32)) hx hb dX6_changes_45 (by decide) ?_
    refine lv_isub hx hb dX6_changes_46 ?_
    refine va_put (D := g.1) (ci := 6) (v := .int (((f_X6_changes_L11 (zfu 680) 0 v).1 0) - (1 : Int32))) (ty := .int) (C := RX6) (T := TX6) (N := 12) hx hb hts (zin_X6_changes_X6) tyX6 tyX6_ok nmX6 hown hK hP hD hS 0 rfl rfl 3 (by decide) (hts (.fieldLink RX6 34 "PegClerksModel" "historyLong" "I") (by decide +kernel)) (fun _ h9 => h9) rfl (by decide +kernel) rfl rfl (Nat.le_of_ble_eq_true rfl) dX6_changes_47 (fun H locs hP hD hS => ?_)
    have hP : va_P g.1 vwCl (mo g q (s_X6_changes_47 v)) H := (congrArg (fun z => va_P g.1 vwCl z H) (mo_S0 g q (f_X6_changes_L11 (zfu 680) 0 v) (((f_X6_changes_L11 (zfu 680) 0 v).1 0) - (1 : Int32)))).mp hP
    have hD : va_D A (mo g q (s_X6_changes_47 v)) := (congrArg (fun z => va_D A z) (mo_S0 g q (f_X6_changes_L11 (zfu 680) 0 v) (((f_X6_changes_L11 (zfu 680) 0 v).1 0) - (1 : Int32)))).mp hD
    refine lv_iconst (v := (0 : Int32)) hx hb dX6_changes_50 (by decide) ?_
    refine lv_istore_n (lv' := [(1, .int (0 : Int32)), (0, .ref (q 0))]) hx hb dX6_changes_51 rfl hl (by decide) rfl (fun ls hl => ?_)
    have L52 : ∀ (n52 : Nat) (i52 : Nat), i52 + n52 = 136 → ∀ (w52_0 : zCV) (H : Heap) (locs : List Loc) (ls : Array Slot), vp_in (w52_0.1 0) 6 → va_P g.1 vwCl (mo g q w52_0) H → va_D A (mo g q w52_0) → va_S A s.heap H locs → lv_has ls 2 [(1, .int (nI i52)), (0, .ref (q 0))] → (∀ (H : Heap) (locs : List Loc) (ls : Array Slot), va_P g.1 vwCl (mo g q (f_X6_changes_L52 n52 i52 w52_0)) H → va_D A (mo g q (f_X6_changes_L52 n52 i52 w52_0)) → va_S A s.heap H locs → lv_has ls 2 [(0, .ref (q 0))] → W p l e rm_X6_changes s m ([.ref (q 0)] : List Value).toArray below meth c H locs 0 0 Q (F0 m 86 ls [])) → W p l e rm_X6_changes s m ([.ref (q 0)] : List Value).toArray below meth c H locs 0 0 Q (F0 m 52 ls []) := by
      intro n52
      induction n52 with
      | zero =>
        intro i52 hin52 w52_0 H locs ls hh hP hD hS hl kx
        refine lv_iload_n hx hb dX6_changes_52 rfl (lv_at hl 0 rfl) ?_
        refine lv_sipush (v := (136 : Int32)) hx hb dX6_changes_53 (by decide) ?_
        refine lv_icmp_ge (tgt := 86) hx hb dX6_changes_56 (by decide) (fun c_56 => ?_) (fun c_56 => ?_)
        rotate_left
        · exact absurd (by rw [show i52 = 136 by omega]; decide) c_56
        have E : (f_X6_changes_L52 0 i52 w52_0) = w52_0 := rfl
        rw [E] at kx
        exact kx _ _ _ hP hD hS (lv_sub hl [1] rfl)
      | succ n52 ih52 =>
        intro i52 hin52 w52_0 H locs ls hh hP hD hS hl kx
        refine lv_iload_n hx hb dX6_changes_52 rfl (lv_at hl 0 rfl) ?_
        refine lv_sipush (v := (136 : Int32)) hx hb dX6_changes_53 (by decide) ?_
        refine lv_icmp_ge (tgt := 86) hx hb dX6_changes_56 (by decide) (fun c_56 => ?_) (fun c_56 => ?_)
        · exact absurd c_56 (nI_ge (a := i52) (b := 136) (by omega) (by omega))
        refine lv_aload_n hx hb dX6_changes_59 rfl (lv_at hl 1 rfl) ?_
        refine va_get (D := g.1) (ci := 6) (v := .ref (q 3)) (C := RX6) (T := TX6) (N := 12) hx hb hts (zin_X6_changes_X6) hown hK hP 0 rfl rfl 2 (by decide) (hts (.fieldLink RX6 16 "PegClerksModel" "history" "[I") (by decide +kernel)) (fun _ h9 => h9) rfl dX6_changes_60 ?_
        refine lv_sipush (v := (136 : Int32)) hx hb dX6_changes_63 (by decide) ?_
        refine lv_aload_n hx hb dX6_changes_66 rfl (lv_at hl 1 rfl) ?_
        refine va_get (D := g.1) (ci := 6) (v := .int (w52_0.1 0)) (C := RX6) (T := TX6) (N := 12) hx hb hts (zin_X6_changes_X6) hown hK hP 0 rfl rfl 3 (by decide) (hts (.fieldLink RX6 34 "PegClerksModel" "historyLong" "I") (by decide +kernel)) (fun _ h9 => h9) rfl dX6_changes_67 ?_
        refine lv_imul hx hb dX6_changes_70 ?_
        refine lv_iload_n hx hb dX6_changes_71 rfl (lv_at hl 0 rfl) ?_
        refine lv_iadd hx hb dX6_changes_72 ?_
        refine lv_aload_n hx hb dX6_changes_73 rfl (lv_at hl 1 rfl) ?_
        refine va_get (D := g.1) (ci := 6) (v := .ref (q 1)) (C := RX6) (T := TX6) (N := 12) hx hb hts (zin_X6_changes_X6) hown hK hP 0 rfl rfl 0 (by decide) (hts (.fieldLink RX6 7 "PegClerksModel" "all" "[I") (by decide +kernel)) (fun _ h9 => h9) rfl dX6_changes_74 ?_
        refine lv_iload_n hx hb dX6_changes_77 rfl (lv_at hl 0 rfl) ?_
        refine z_iald (f := (w52_0.2 0)) (k := (nI i52).toNatClampNeg) hx hb hK hP 1 0 rfl rfl (vp_in_nI (by omega) (by omega)) rfl dX6_changes_78 ?_
        refine z_iast (f := (w52_0.2 2)) (k := (((136 : Int32) * (w52_0.1 0)) + (nI i52)).toNatClampNeg) hx hb hK hP hD hS 3 0 rfl rfl (zin_hist hh (vp_in_nI (n := i52) (N := 136) (by omega) (by omega))) rfl dX6_changes_79 (fun H locs hP hD hS => ?_)
        have hP : va_P g.1 vwCl (mo g q (s_X6_changes_79 i52 w52_0)) H := (congrArg (fun z => va_P g.1 vwCl z H) (mo_A2 g q w52_0 (upd (w52_0.2 2) (((136 : Int32) * (w52_0.1 0)) + (nI i52)).toNatClampNeg ((w52_0.2 0) (nI i52).toNatClampNeg)))).mp hP
        have hD : va_D A (mo g q (s_X6_changes_79 i52 w52_0)) := (congrArg (fun z => va_D A z) (mo_A2 g q w52_0 (upd (w52_0.2 2) (((136 : Int32) * (w52_0.1 0)) + (nI i52)).toNatClampNeg ((w52_0.2 0) (nI i52).toNatClampNeg)))).mp hD
        refine lv_iinc (v := (nI (i52 + 1))) (lv' := [(1, .int (nI (i52 + 1))), (0, .ref (q 0))]) hx hb dX6_changes_80 hl (k := 0) rfl (nI_1 i52) (by decide) rfl (fun ls hl => ?_)
        refine lv_goto (tgt := 52) hx hb dX6_changes_83 (by decide) ?_
        have E : (f_X6_changes_L52 (n52 + 1) i52 w52_0) = (f_X6_changes_L52 n52 (i52 + 1) (s_X6_changes_79 i52 w52_0)) := rfl
        rw [E] at kx
        exact ih52 (i52 + 1) (by omega) (s_X6_changes_79 i52 w52_0) _ _ _ hh hP hD hS (lv_sub hl [0, 1] rfl) kx
    refine L52 (zfu 136) 0 (by rw [zfu_eq]) (s_X6_changes_47 v) _ _ _ (zch1 hh c_6) hP hD hS (lv_sub hl [0, 1] rfl) (fun H locs ls hP hD hS hl => ?_)
    refine lv_aload_n hx hb dX6_changes_86 rfl (lv_at hl 0 rfl) ?_
    refine lv_dup hx hb dX6_changes_87 rfl ?_
    refine va_get (D := g.1) (ci := 6) (v := .int ((f_X6_changes_L52 (zfu 136) 0 (s_X6_changes_47 v)).1 0)) (C := RX6) (T := TX6) (N := 12) hx hb hts (zin_X6_changes_X6) hown hK hP 0 rfl rfl 3 (by decide) (hts (.fieldLink RX6 34 "PegClerksModel" "historyLong" "I") (by decide +kernel)) (fun _ h9 => h9) rfl dX6_changes_88 ?_
    refine lv_iconst (v := (1 : Int32)) hx hb dX6_changes_91 (by decide) ?_
    refine lv_iadd hx hb dX6_changes_92 ?_
    refine va_put (D := g.1) (ci := 6) (v := .int (((f_X6_changes_L52 (zfu 136) 0 (s_X6_changes_47 v)).1 0) + (1 : Int32))) (ty := .int) (C := RX6) (T := TX6) (N := 12) hx hb hts (zin_X6_changes_X6) tyX6 tyX6_ok nmX6 hown hK hP hD hS 0 rfl rfl 3 (by decide) (hts (.fieldLink RX6 34 "PegClerksModel" "historyLong" "I") (by decide +kernel)) (fun _ h9 => h9) rfl (by decide +kernel) rfl rfl (Nat.le_of_ble_eq_true rfl) dX6_changes_93 (fun H locs hP hD hS => ?_)
    have hP : va_P g.1 vwCl (mo g q (s_X6_changes_93_2 v)) H := (congrArg (fun z => va_P g.1 vwCl z H) (mo_S0 g q (f_X6_changes_L52 (zfu 136) 0 (s_X6_changes_47 v)) (((f_X6_changes_L52 (zfu 136) 0 (s_X6_changes_47 v)).1 0) + (1 : Int32)))).mp hP
    have hD : va_D A (mo g q (s_X6_changes_93_2 v)) := (congrArg (fun z => va_D A z) (mo_S0 g q (f_X6_changes_L52 (zfu 136) 0 (s_X6_changes_47 v)) (((f_X6_changes_L52 (zfu 136) 0 (s_X6_changes_47 v)).1 0) + (1 : Int32)))).mp hD
    have E : (f_X6_changes v) = (s_X6_changes_93_2 v) := (if_pos c_6).trans rfl
    have e2 : (mo g q (s_X6_changes_93_2 v)) = (mo g q (f_X6_changes v)) := by rw [E]
    exact hret (mo g q (s_X6_changes_93_2 v)) _ _ _ _ dX6_changes_96 e2 hP hD hS
theorem e0_changesL11 : ∀ (n i : Nat) (w : zCV), zFr 2 w (f_X6_changes_L11 n i w)
  | 0, i, w => zFr.rf
  | n + 1, i, w => by
    unfold f_X6_changes_L11
    exact zFr.wr.tr (e0_changesL11 n (i + 1) _)
theorem e0_changesL52 : ∀ (n i : Nat) (w : zCV), zFr 2 w (f_X6_changes_L52 n i w)
  | 0, i, w => zFr.rf
  | n + 1, i, w => by
    unfold f_X6_changes_L52
    exact zFr.wr.tr (e0_changesL52 n (i + 1) _)
theorem e2_changes (v : zCV) (i : Nat) (hi : i ≠ 2) : (f_X6_changes v).2 i = v.2 i := by
  unfold f_X6_changes
  simp only [s_X6_changes_93, s_X6_changes_93_2, s_X6_changes_47, zS]
  split
  · simp only
    rw [(e0_changesL52 _ _ _).2 i hi]
    try simp only
    try rw [(e0_changesL11 _ _ _).2 i hi]
  · simp only
    rw [(e0_changesL52 _ _ _).2 i hi]
    try simp only
    try rw [(e0_changesL11 _ _ _).2 i hi]
theorem e1_changes (v : zCV) (k : Nat) (hk : k ≠ 0) : (f_X6_changes v).1 k = v.1 k := by
  unfold f_X6_changes
  simp only [s_X6_changes_93, s_X6_changes_93_2, s_X6_changes_47, zS]
  split
  · simp only
    rw [pk_un hk, (e0_changesL52 _ _ _).1]
    try simp only
    try rw [pk_un hk, (e0_changesL11 _ _ _).1]
  · simp only
    rw [pk_un hk, (e0_changesL52 _ _ _).1]
    try simp only
    try rw [pk_un hk, (e0_changesL11 _ _ _).1]
theorem zrow_changes {v : zCV} (h : vp_in (v.2 0 4) 16) : vp_in ((f_X6_changes v).2 0 4) 16 := by rw [e2_changes v 0 (by omega)]; exact h
abbrev rm_X6_isSetting : Room := { frames := 1, cells := 0, slots := 0, locals := 25 }
def f_X6_isSetting (p0 : Int32) (p1 : Int32) : Int32 := if p0 = (0 : Int32) then ((f_X6_in (p1.toInt64) (1 : Int64) (8 : Int64))) else (if p0 = (1 : Int32) then ((f_X6_in (p1.toInt64) (0 : Int64) (9 : Int64))) else (if p0 = (2 : Int32) then ((f_X6_in (p1.toInt64) (0 : Int64) (99 : Int64))) else (if p0 = (3 : Int32) then ((f_X6_in (p1.toInt64) (1 : Int64) (4 : Int64))) else ((0 : Int32)))))
set_option maxRecDepth 100000 in
set_option maxHeartbeats 4000000 in
theorem m_X6_isSetting (l : Launch) (g : zG) (p0 : Int32) (p1 : Int32) : ZI l yX6_isSetting wsX6_isSetting rm_X6_isSetting g [] [.int p0, .int p1] (f_X6_isSetting p0 p1) [] := by
  refine zopenI (cc := cX6_isSetting) (maxL := 2) (ret := .boolean) (by decide +kernel) rfl (Nat.le_of_ble_eq_true rfl) ?_
  intro p e s m below meth c A Q ls hx hb hml hown hts hP hK hD hA hN hl hret
  have hS : va_S A s.heap s.heap [] := va_S.rf
  have hl : lv_has ls 2 [(0, .int p0), (1, .int p1)] := hl
  have hown : s.vm.findClass RX6 = some m.cls := hown
  refine lv_iload_n hx hb dX6_isSetting_0 rfl (lv_at hl 0 rfl) ?_
  by_cases c_1_0 : p0 = (0 : Int32)
  · refine lv_tableIn (off := 31) (tgt := 32) hx hb dX6_isSetting_1 (by rw [c_1_0]; decide) (by rw [c_1_0]; decide) (by rw [c_1_0]; rfl) (by decide) ?_
    refine lv_iload_n hx hb dX6_isSetting_32 rfl (lv_at hl 1 rfl) ?_
    refine lv_i2l hx hb dX6_isSetting_33 rfl ?_
    refine lv_lconst (v := (1 : Int64)) hx hb dX6_isSetting_34 (by decide) ?_
    refine lv_ldc2 (v := (8 : Int64)) hx hb hown (hts (.constantLong RX6 80 (8)) (by decide +kernel)) dX6_isSetting_35 ?_
    refine zcSi (n := 3) (As := [.long (p1.toInt64), .long (1 : Int64), .long (8 : Int64)]) (rest := []) hx hb hml hown hts hN (m_X6_in l g (p1.toInt64) (1 : Int64) (8 : Int64)) gX6_isSetting_X6_in rfl (by decide +kernel) ⟨rfl, rfl⟩ ⟨Nat.le_of_ble_eq_true rfl, Nat.le_of_ble_eq_true rfl⟩ hK hP hD hS hA rfl hl.1 rfl (Nat.le_of_ble_eq_true rfl) dX6_isSetting_38 ⟨Nat.zero_le _, Nat.zero_le _⟩ (fun H locs hP hD hS => ?_)
    have E : (f_X6_isSetting p0 p1) = (f_X6_in (p1.toInt64) (1 : Int64) (8 : Int64)) := (if_pos c_1_0).trans rfl
    exact hret _ _ _ _ _ _ dX6_isSetting_41 E.symm (znar_in) rfl hP hD hS
  by_cases c_1_1 : p0 = (1 : Int32)
  · refine lv_tableIn (off := 41) (tgt := 42) hx hb dX6_isSetting_1 (by rw [c_1_1]; decide) (by rw [c_1_1]; decide) (by rw [c_1_1]; rfl) (by decide) ?_
    refine lv_iload_n hx hb dX6_isSetting_42 rfl (lv_at hl 1 rfl) ?_
    refine lv_i2l hx hb dX6_isSetting_43 rfl ?_
    refine lv_lconst (v := (0 : Int64)) hx hb dX6_isSetting_44 (by decide) ?_
    refine lv_ldc2 (v := (9 : Int64)) hx hb hown (hts (.constantLong RX6 82 (9)) (by decide +kernel)) dX6_isSetting_45 ?_
    refine zcSi (n := 3) (As := [.long (p1.toInt64), .long (0 : Int64), .long (9 : Int64)]) (rest := []) hx hb hml hown hts hN (m_X6_in l g (p1.toInt64) (0 : Int64) (9 : Int64)) gX6_isSetting_X6_in rfl (by decide +kernel) ⟨rfl, rfl⟩ ⟨Nat.le_of_ble_eq_true rfl, Nat.le_of_ble_eq_true rfl⟩ hK hP hD hS hA rfl hl.1 rfl (Nat.le_of_ble_eq_true rfl) dX6_isSetting_48 ⟨Nat.zero_le _, Nat.zero_le _⟩ (fun H locs hP hD hS => ?_)
    have E : (f_X6_isSetting p0 p1) = (f_X6_in (p1.toInt64) (0 : Int64) (9 : Int64)) := (if_neg c_1_0).trans ((if_pos c_1_1).trans rfl)
    exact hret _ _ _ _ _ _ dX6_isSetting_51 E.symm (znar_in) rfl hP hD hS
  by_cases c_1_2 : p0 = (2 : Int32)
  · refine lv_tableIn (off := 51) (tgt := 52) hx hb dX6_isSetting_1 (by rw [c_1_2]; decide) (by rw [c_1_2]; decide) (by rw [c_1_2]; rfl) (by decide) ?_
    refine lv_iload_n hx hb dX6_isSetting_52 rfl (lv_at hl 1 rfl) ?_
    refine lv_i2l hx hb dX6_isSetting_53 rfl ?_
    refine lv_lconst (v := (0 : Int64)) hx hb dX6_isSetting_54 (by decide) ?_
    refine lv_ldc2 (v := (99 : Int64)) hx hb hown (hts (.constantLong RX6 84 (99)) (by decide +kernel)) dX6_isSetting_55 ?_
    refine zcSi (n := 3) (As := [.long (p1.toInt64), .long (0 : Int64), .long (99 : Int64)]) (rest := []) hx hb hml hown hts hN (m_X6_in l g (p1.toInt64) (0 : Int64) (99 : Int64)) gX6_isSetting_X6_in rfl (by decide +kernel) ⟨rfl, rfl⟩ ⟨Nat.le_of_ble_eq_true rfl, Nat.le_of_ble_eq_true rfl⟩ hK hP hD hS hA rfl hl.1 rfl (Nat.le_of_ble_eq_true rfl) dX6_isSetting_58 ⟨Nat.zero_le _, Nat.zero_le _⟩ (fun H locs hP hD hS => ?_)
    have E : (f_X6_isSetting p0 p1) = (f_X6_in (p1.toInt64) (0 : Int64) (99 : Int64)) := (if_neg c_1_0).trans ((if_neg c_1_1).trans ((if_pos c_1_2).trans rfl))
    exact hret _ _ _ _ _ _ dX6_isSetting_61 E.symm (znar_in) rfl hP hD hS
  by_cases c_1_3 : p0 = (3 : Int32)
  · refine lv_tableIn (off := 61) (tgt := 62) hx hb dX6_isSetting_1 (by rw [c_1_3]; decide) (by rw [c_1_3]; decide) (by rw [c_1_3]; rfl) (by decide) ?_
    refine lv_iload_n hx hb dX6_isSetting_62 rfl (lv_at hl 1 rfl) ?_
    refine lv_i2l hx hb dX6_isSetting_63 rfl ?_
    refine lv_lconst (v := (1 : Int64)) hx hb dX6_isSetting_64 (by decide) ?_
    refine lv_ldc2 (v := (4 : Int64)) hx hb hown (hts (.constantLong RX6 86 (4)) (by decide +kernel)) dX6_isSetting_65 ?_
    refine zcSi (n := 3) (As := [.long (p1.toInt64), .long (1 : Int64), .long (4 : Int64)]) (rest := []) hx hb hml hown hts hN (m_X6_in l g (p1.toInt64) (1 : Int64) (4 : Int64)) gX6_isSetting_X6_in rfl (by decide +kernel) ⟨rfl, rfl⟩ ⟨Nat.le_of_ble_eq_true rfl, Nat.le_of_ble_eq_true rfl⟩ hK hP hD hS hA rfl hl.1 rfl (Nat.le_of_ble_eq_true rfl) dX6_isSetting_68 ⟨Nat.zero_le _, Nat.zero_le _⟩ (fun H locs hP hD hS => ?_)
    have E : (f_X6_isSetting p0 p1) = (f_X6_in (p1.toInt64) (1 : Int64) (4 : Int64)) := (if_neg c_1_0).trans ((if_neg c_1_1).trans ((if_neg c_1_2).trans ((if_pos c_1_3).trans rfl)))
    exact hret _ _ _ _ _ _ dX6_isSetting_71 E.symm (znar_in) rfl hP hD hS
  refine lv_tableOut (tgt := 72) hx hb dX6_isSetting_1 (zsw4 (lv_neT c_1_0 (a := 0) (by decide)) (lv_neT c_1_1 (a := 1) (by decide)) (lv_neT c_1_2 (a := 2) (by decide)) (lv_neT c_1_3 (a := 3) (by decide))) (by decide) ?_
  refine lv_iconst (v := (0 : Int32)) hx hb dX6_isSetting_72 (by decide) ?_
  have E : (f_X6_isSetting p0 p1) = (0 : Int32) := (if_neg c_1_0).trans ((if_neg c_1_1).trans ((if_neg c_1_2).trans ((if_neg c_1_3).trans rfl)))
  exact hret _ _ _ _ _ _ dX6_isSetting_73 E.symm (rfl) rfl hP hD hS
theorem zi64 (x : Int32) : x.toInt64.toInt = x.toInt := Int32.toInt_toInt64 x
theorem zcmp_lt {x y : Int64} : lg_cmp x y < 0 ↔ x < y := by
  unfold lg_cmp
  by_cases h1 : x > y
  · rw [if_pos h1]
    constructor
    · intro h; exact absurd h (by decide)
    · intro h; exact absurd h (Int64.not_lt.mpr (Int64.le_of_lt h1))
  · rw [if_neg h1]
    by_cases h2 : x = y
    · rw [if_pos h2]
      constructor
      · intro h; exact absurd h (by decide)
      · intro h; rw [h2] at h; exact absurd h (Int64.lt_irrefl)
    · rw [if_neg h2]
      constructor
      · intro _
        have h3 := Int64.le_iff_toInt_le.mp (Int64.not_lt.mp h1)
        refine Int64.lt_iff_toInt_lt.mpr ?_
        have h4 : x.toInt ≠ y.toInt := fun e => h2 (Int64.toInt_inj.mp e)
        omega
      · intro _; decide
theorem zcmp_gt {x y : Int64} : 0 < lg_cmp x y ↔ y < x := by
  unfold lg_cmp
  by_cases h1 : x > y
  · rw [if_pos h1]
    exact ⟨fun _ => h1, fun _ => by decide⟩
  · rw [if_neg h1]
    by_cases h2 : x = y
    · rw [if_pos h2]
      exact ⟨fun h => absurd h (by decide), fun h => absurd h h1⟩
    · rw [if_neg h2]
      exact ⟨fun h => absurd h (by decide), fun h => absurd h h1⟩
theorem zin_iff (x a b : Int64) : ¬ f_X6_in x a b = (0 : Int32) ↔ a.toInt ≤ x.toInt ∧ x.toInt ≤ b.toInt := by
  unfold f_X6_in
  by_cases h1 : lg_cmp x a < (0 : Int32)
  · rw [if_pos h1]
    have := Int64.lt_iff_toInt_lt.mp (zcmp_lt.mp h1)
    exact ⟨fun h => absurd rfl h, fun h => by omega⟩
  · rw [if_neg h1]
    have h1' : ¬ x < a := fun h => h1 (zcmp_lt.mpr h)
    have h1'' : a.toInt ≤ x.toInt := Int64.le_iff_toInt_le.mp (Int64.not_lt.mp h1')
    by_cases h2 : (0 : Int32) < lg_cmp x b
    · rw [if_pos h2]
      have := Int64.lt_iff_toInt_lt.mp (zcmp_gt.mp h2)
      exact ⟨fun h => absurd rfl h, fun h => by omega⟩
    · rw [if_neg h2]
      have h2' : ¬ b < x := fun h => h2 (zcmp_gt.mpr h)
      have h2'' : x.toInt ≤ b.toInt := Int64.le_iff_toInt_le.mp (Int64.not_lt.mp h2')
      exact ⟨fun _ => ⟨h1'', h2''⟩, fun _ => by decide⟩
theorem zin_i {x : Int32} {a b : Int64} {A B : Int} (ha : a.toInt = A) (hb : b.toInt = B) : ¬ f_X6_in x.toInt64 a b = (0 : Int32) ↔ A ≤ x.toInt ∧ x.toInt ≤ B := by
  rw [zin_iff, zi64, ha, hb]
theorem zrow_iff {x : Int32} : ¬ f_X6_isRow x = (0 : Int32) ↔ vp_in x 16 := by
  rw [show f_X6_isRow x = f_X6_in x.toInt64 0 15 from rfl, zin_i (A := 0) (B := 15) rfl rfl, vp_in_iff]
  omega
theorem zplace_iff {x : Int32} : ¬ f_X6_isPlace x = (0 : Int32) ↔ vp_in x 6 := by
  rw [show f_X6_isPlace x = f_X6_in x.toInt64 0 5 from rfl, zin_i (A := 0) (B := 5) rfl rfl, vp_in_iff]
  omega
theorem zset_in {x y : Int32} (h : ¬ f_X6_isSetting x y = (0 : Int32)) : vp_in x 4 := by
  unfold f_X6_isSetting at h
  split at h
  · rename_i c; rw [c]; exact zlit _ 4 (by decide +kernel)
  split at h
  · rename_i c; rw [c]; exact zlit _ 4 (by decide +kernel)
  split at h
  · rename_i c; rw [c]; exact zlit _ 4 (by decide +kernel)
  split at h
  · rename_i c; rw [c]; exact zlit _ 4 (by decide +kernel)
  · exact absurd rfl h
abbrev rm_X6_set : Room := { frames := 2, cells := 0, slots := 0, locals := 46 }
set_option maxRecDepth 20000 in
theorem zin_X6_set_X6 : ∀ w ∈ wsX60, w ∈ wsX6_set := by decide +kernel
def s_X6_set_12 (v : zCV) : zCV := (f_X6_changes v)
def s_X6_set_28 (v : zCV) (p0 : Int32) (p1 : Int32) : zCV := zA (s_X6_set_12 v) 0 (upd ((s_X6_set_12 v).2 0) p0.toNatClampNeg p1)
def f_X6_set (v : zCV) (p0 : Int32) (p1 : Int32) : Int32 × zCV := if (f_X6_isSetting p0 p1) = (0 : Int32) then (((-2 : Int32), v)) else (((((s_X6_set_12 v).2 0) p0.toNatClampNeg), (s_X6_set_28 v p0 p1)))
set_option maxRecDepth 100000 in
set_option maxHeartbeats 4000000 in
theorem m_X6_set (l : Launch) (g : zG) (q : Nat → Nat) (v : zCV) (p0 : Int32) (p1 : Int32) (hh : vp_in (v.1 0) 7) : ZI l yX6_set wsX6_set rm_X6_set g (mo g q v) [.ref (q 0), .int p0, .int p1] (f_X6_set v p0 p1).1 (mo g q (f_X6_set v p0 p1).2) := by
  refine zopenI (cc := cX6_set) (maxL := 4) (ret := .int) (by decide +kernel) rfl (Nat.le_of_ble_eq_true rfl) ?_
  intro p e s m below meth c A Q ls hx hb hml hown hts hP hK hD hA hN hl hret
  have hS : va_S A s.heap s.heap [] := va_S.rf
  have hl : lv_has ls 4 [(0, .ref (q 0)), (1, .int p0), (2, .int p1)] := hl
  have hown : s.vm.findClass RX6 = some m.cls := hown
  refine lv_iload_n hx hb dX6_set_0 rfl (lv_at hl 1 rfl) ?_
  refine lv_iload_n hx hb dX6_set_1 rfl (lv_at hl 2 rfl) ?_
  refine zcSi (n := 2) (As := [.int p0, .int p1]) (rest := []) hx hb hml hown hts hN (m_X6_isSetting l g p0 p1) gX6_set_X6_isSetting rfl (by decide +kernel) ⟨rfl, rfl⟩ ⟨Nat.le_of_ble_eq_true rfl, Nat.le_of_ble_eq_true rfl⟩ hK hP hD hS hA rfl hl.1 rfl (Nat.le_of_ble_eq_true rfl) dX6_set_2 ⟨Nat.zero_le _, Nat.zero_le _⟩ (fun H locs hP hD hS => ?_)
  refine lv_if_ne (tgt := 11) hx hb dX6_set_5 (by decide) (fun c_5 => ?_) (fun c_5 => ?_)
  · refine lv_aload_n hx hb dX6_set_11 rfl (lv_at hl 0 rfl) ?_
    refine zcVv (n := 0) (As := []) (rest := []) (Xr := []) (Xn := (mo g q (s_X6_set_12 v))) (ci := 6) (C := RX6) (T := TX6) (N := 12) (q0 := 0) hx hb hml hown hts hN (m_X6_changes l g q v hh) gX6_set_X6_changes rfl (by decide +kernel) ⟨rfl, rfl⟩ ⟨Nat.le_of_ble_eq_true rfl, Nat.le_of_ble_eq_true rfl⟩ hK hP hD hS hA (zpn _) rfl rfl rfl hl.1 rfl (Nat.le_of_ble_eq_true rfl) dX6_set_12 ⟨Nat.zero_le _, Nat.zero_le _⟩ (zpn' _) (fun H locs hP hD hS => ?_)
    refine lv_aload_n hx hb dX6_set_15 rfl (lv_at hl 0 rfl) ?_
    refine va_get (D := g.1) (ci := 6) (v := .ref (q 1)) (C := RX6) (T := TX6) (N := 12) hx hb hts (zin_X6_set_X6) hown hK hP 0 rfl rfl 0 (by decide) (hts (.fieldLink RX6 7 "PegClerksModel" "all" "[I") (by decide +kernel)) (fun _ h9 => h9) rfl dX6_set_16 ?_
    refine lv_iload_n hx hb dX6_set_19 rfl (lv_at hl 1 rfl) ?_
    refine z_iald (f := ((s_X6_set_12 v).2 0)) (k := p0.toNatClampNeg) hx hb hK hP 1 0 rfl rfl (zin_mono (zset_in c_5) (by omega)) rfl dX6_set_20 ?_
    refine lv_istore_n (lv' := [(3, .int (((s_X6_set_12 v).2 0) p0.toNatClampNeg)), (0, .ref (q 0)), (1, .int p0), (2, .int p1)]) hx hb dX6_set_21 rfl hl (by decide) rfl (fun ls hl => ?_)
    refine lv_aload_n hx hb dX6_set_22 rfl (lv_at hl 1 rfl) ?_
    refine va_get (D := g.1) (ci := 6) (v := .ref (q 1)) (C := RX6) (T := TX6) (N := 12) hx hb hts (zin_X6_set_X6) hown hK hP 0 rfl rfl 0 (by decide) (hts (.fieldLink RX6 7 "PegClerksModel" "all" "[I") (by decide +kernel)) (fun _ h9 => h9) rfl dX6_set_23 ?_
    refine lv_iload_n hx hb dX6_set_26 rfl (lv_at hl 2 rfl) ?_
    refine lv_iload_n hx hb dX6_set_27 rfl (lv_at hl 3 rfl) ?_
    refine z_iast (f := ((s_X6_set_12 v).2 0)) (k := p0.toNatClampNeg) hx hb hK hP hD hS 1 0 rfl rfl (zin_mono (zset_in c_5) (by omega)) rfl dX6_set_28 (fun H locs hP hD hS => ?_)
    have hP : va_P g.1 vwCl (mo g q (s_X6_set_28 v p0 p1)) H := (congrArg (fun z => va_P g.1 vwCl z H) (mo_A0 g q (s_X6_set_12 v) (upd ((s_X6_set_12 v).2 0) p0.toNatClampNeg p1))).mp hP
    have hD : va_D A (mo g q (s_X6_set_28 v p0 p1)) := (congrArg (fun z => va_D A z) (mo_A0 g q (s_X6_set_12 v) (upd ((s_X6_set_12 v).2 0) p0.toNatClampNeg p1))).mp hD
    refine lv_iload_n hx hb dX6_set_29 rfl (lv_at hl 0 rfl) ?_
    have E : (f_X6_set v p0 p1) = ((((s_X6_set_12 v).2 0) p0.toNatClampNeg), (s_X6_set_28 v p0 p1)) := (if_neg c_5).trans rfl
    have e1 : (((s_X6_set_12 v).2 0) p0.toNatClampNeg) = (f_X6_set v p0 p1).1 := by rw [E]
    have e2 : (mo g q (s_X6_set_28 v p0 p1)) = (mo g q (f_X6_set v p0 p1).2) := by rw [E]
    exact hret (((s_X6_set_12 v).2 0) p0.toNatClampNeg) (mo g q (s_X6_set_28 v p0 p1)) _ _ _ _ dX6_set_30 e1 (rfl) e2 hP hD hS
  · refine lv_bipush (v := (-2 : Int32)) hx hb dX6_set_8 (by decide) ?_
    have E : (f_X6_set v p0 p1) = ((-2 : Int32), v) := (if_pos c_5).trans rfl
    have e1 : (-2 : Int32) = (f_X6_set v p0 p1).1 := by rw [E]
    have e2 : (mo g q v) = (mo g q (f_X6_set v p0 p1).2) := by rw [E]
    exact hret (-2 : Int32) (mo g q v) _ _ _ _ dX6_set_10 e1 (rfl) e2 hP hD hS
abbrev rm_X6_peg : Room := { frames := 3, cells := 0, slots := 0, locals := 66 }
set_option maxRecDepth 20000 in
theorem zin_X6_peg_X6 : ∀ w ∈ wsX60, w ∈ wsX6_peg := by decide +kernel
def s_X6_peg_17 (v : zCV) : zCV := (f_X6_changes v)
def r_X6_peg_32 (v : zCV) (p0 : Int32) (p1 : Int32) : Int32 := (f_X6_hasPeg (s_X6_peg_17 v) p0 p1)
def s_X6_peg_44 (v : zCV) (p0 : Int32) (p1 : Int32) : zCV := zA (s_X6_peg_17 v) 0 (upd ((s_X6_peg_17 v).2 0) (f_X6_at p0 p1).toNatClampNeg (0 : Int32))
def r_X6_peg_47 (v : zCV) (p0 : Int32) (p1 : Int32) : Int32 := (f_X6_pegsIn (s_X6_peg_44 v p0 p1) p0)
def s_X6_peg_44_2 (v : zCV) (p0 : Int32) (p1 : Int32) : zCV := zA (s_X6_peg_17 v) 0 (upd ((s_X6_peg_17 v).2 0) (f_X6_at p0 p1).toNatClampNeg (-6 : Int32))
def r_X6_peg_47_2 (v : zCV) (p0 : Int32) (p1 : Int32) : Int32 := (f_X6_pegsIn (s_X6_peg_44_2 v p0 p1) p0)
def f_X6_peg (v : zCV) (p0 : Int32) (p1 : Int32) : Int32 × zCV := if (f_X6_isRow p0) = (0 : Int32) then (((-1 : Int32), v)) else (if (f_X6_isPlace p1) = (0 : Int32) then (((-1 : Int32), v)) else (if (r_X6_peg_32 v p0 p1) = (0 : Int32) then (((r_X6_peg_47 v p0 p1), (s_X6_peg_44 v p0 p1))) else (((r_X6_peg_47_2 v p0 p1), (s_X6_peg_44_2 v p0 p1)))))
set_option maxRecDepth 100000 in
set_option maxHeartbeats 4000000 in
theorem m_X6_peg (l : Launch) (g : zG) (q : Nat → Nat) (v : zCV) (p0 : Int32) (p1 : Int32) (hh : vp_in (v.1 0) 7) : ZI l yX6_peg wsX6_peg rm_X6_peg g (mo g q v) [.ref (q 0), .int p0, .int p1] (f_X6_peg v p0 p1).1 (mo g q (f_X6_peg v p0 p1).2) := by
  refine zopenI (cc := cX6_peg) (maxL := 3) (ret := .int) (by decide +kernel) rfl (Nat.le_of_ble_eq_true rfl) ?_
  intro p e s m below meth c A Q ls hx hb hml hown hts hP hK hD hA hN hl hret
  have hS : va_S A s.heap s.heap [] := va_S.rf
  have hl : lv_has ls 3 [(0, .ref (q 0)), (1, .int p0), (2, .int p1)] := hl
  have hown : s.vm.findClass RX6 = some m.cls := hown
  refine lv_iload_n hx hb dX6_peg_0 rfl (lv_at hl 1 rfl) ?_
  refine zcSi (n := 1) (As := [.int p0]) (rest := []) hx hb hml hown hts hN (m_X6_isRow l g p0) gX6_peg_X6_isRow rfl (by decide +kernel) ⟨rfl, rfl⟩ ⟨Nat.le_of_ble_eq_true rfl, Nat.le_of_ble_eq_true rfl⟩ hK hP hD hS hA rfl hl.1 rfl (Nat.le_of_ble_eq_true rfl) dX6_peg_1 ⟨Nat.zero_le _, Nat.zero_le _⟩ (fun H locs hP hD hS => ?_)
  refine lv_if_eq (tgt := 14) hx hb dX6_peg_4 (by decide) (fun c_4 => ?_) (fun c_4 => ?_)
  · refine lv_iconst (v := (-1 : Int32)) hx hb dX6_peg_14 (by decide) ?_
    have E : (f_X6_peg v p0 p1) = ((-1 : Int32), v) := (if_pos c_4).trans rfl
    have e1 : (-1 : Int32) = (f_X6_peg v p0 p1).1 := by rw [E]
    have e2 : (mo g q v) = (mo g q (f_X6_peg v p0 p1).2) := by rw [E]
    exact hret (-1 : Int32) (mo g q v) _ _ _ _ dX6_peg_15 e1 (rfl) e2 hP hD hS
  · refine lv_iload_n hx hb dX6_peg_7 rfl (lv_at hl 2 rfl) ?_
    refine zcSi (n := 1) (As := [.int p1]) (rest := []) hx hb hml hown hts hN (m_X6_isPlace l g p1) gX6_peg_X6_isPlace rfl (by decide +kernel) ⟨rfl, rfl⟩ ⟨Nat.le_of_ble_eq_true rfl, Nat.le_of_ble_eq_true rfl⟩ hK hP hD hS hA rfl hl.1 rfl (Nat.le_of_ble_eq_true rfl) dX6_peg_8 ⟨Nat.zero_le _, Nat.zero_le _⟩ (fun H locs hP hD hS => ?_)
    refine lv_if_ne (tgt := 16) hx hb dX6_peg_11 (by decide) (fun c_11 => ?_) (fun c_11 => ?_)
    · refine lv_aload_n hx hb dX6_peg_16 rfl (lv_at hl 0 rfl) ?_
      refine zcVv (n := 0) (As := []) (rest := []) (Xr := []) (Xn := (mo g q (s_X6_peg_17 v))) (ci := 6) (C := RX6) (T := TX6) (N := 12) (q0 := 0) hx hb hml hown hts hN (m_X6_changes l g q v hh) gX6_peg_X6_changes rfl (by decide +kernel) ⟨rfl, rfl⟩ ⟨Nat.le_of_ble_eq_true rfl, Nat.le_of_ble_eq_true rfl⟩ hK hP hD hS hA (zpn _) rfl rfl rfl hl.1 rfl (Nat.le_of_ble_eq_true rfl) dX6_peg_17 ⟨Nat.zero_le _, Nat.zero_le _⟩ (zpn' _) (fun H locs hP hD hS => ?_)
      refine lv_aload_n hx hb dX6_peg_20 rfl (lv_at hl 0 rfl) ?_
      refine va_get (D := g.1) (ci := 6) (v := .ref (q 1)) (C := RX6) (T := TX6) (N := 12) hx hb hts (zin_X6_peg_X6) hown hK hP 0 rfl rfl 0 (by decide) (hts (.fieldLink RX6 7 "PegClerksModel" "all" "[I") (by decide +kernel)) (fun _ h9 => h9) rfl dX6_peg_21 ?_
      refine lv_iload_n hx hb dX6_peg_24 rfl (lv_at hl 1 rfl) ?_
      refine lv_iload_n hx hb dX6_peg_25 rfl (lv_at hl 2 rfl) ?_
      refine zcSi (n := 2) (As := [.int p0, .int p1]) (rest := [.ref (q 1)]) hx hb hml hown hts hN (m_X6_at l g p0 p1) gX6_peg_X6_at rfl (by decide +kernel) ⟨rfl, rfl⟩ ⟨Nat.le_of_ble_eq_true rfl, Nat.le_of_ble_eq_true rfl⟩ hK hP hD hS hA rfl hl.1 rfl (Nat.le_of_ble_eq_true rfl) dX6_peg_26 ⟨Nat.zero_le _, Nat.zero_le _⟩ (fun H locs hP hD hS => ?_)
      refine lv_aload_n hx hb dX6_peg_29 rfl (lv_at hl 0 rfl) ?_
      refine lv_iload_n hx hb dX6_peg_30 rfl (lv_at hl 1 rfl) ?_
      refine lv_iload_n hx hb dX6_peg_31 rfl (lv_at hl 2 rfl) ?_
      refine zcVi (n := 2) (As := [.int p0, .int p1]) (rest := [.int (f_X6_at p0 p1), .ref (q 1)]) (Xr := []) (Xn := (mo g q (s_X6_peg_17 v))) (ci := 6) (C := RX6) (T := TX6) (N := 12) (q0 := 0) hx hb hml hown hts hN (m_X6_hasPeg l g q (s_X6_peg_17 v) p0 p1 (zrow_iff.mp c_4) (zplace_iff.mp c_11)) gX6_peg_X6_hasPeg rfl (by decide +kernel) ⟨rfl, rfl⟩ ⟨Nat.le_of_ble_eq_true rfl, Nat.le_of_ble_eq_true rfl⟩ hK hP hD hS hA (zpn _) rfl rfl rfl hl.1 rfl (Nat.le_of_ble_eq_true rfl) dX6_peg_32 ⟨Nat.zero_le _, Nat.zero_le _⟩ (zpn' _) (fun H locs hP hD hS => ?_)
      refine lv_if_eq (tgt := 43) hx hb dX6_peg_35 (by decide) (fun c_35 => ?_) (fun c_35 => ?_)
      · refine lv_iconst (v := (0 : Int32)) hx hb dX6_peg_43 (by decide) ?_
        refine z_iast (f := ((s_X6_peg_17 v).2 0)) (k := (f_X6_at p0 p1).toNatClampNeg) hx hb hK hP hD hS 1 0 rfl rfl (zin_at (zrow_iff.mp c_4) (zplace_iff.mp c_11)) rfl dX6_peg_44 (fun H locs hP hD hS => ?_)
        have hP : va_P g.1 vwCl (mo g q (s_X6_peg_44 v p0 p1)) H := (congrArg (fun z => va_P g.1 vwCl z H) (mo_A0 g q (s_X6_peg_17 v) (upd ((s_X6_peg_17 v).2 0) (f_X6_at p0 p1).toNatClampNeg (0 : Int32)))).mp hP
        have hD : va_D A (mo g q (s_X6_peg_44 v p0 p1)) := (congrArg (fun z => va_D A z) (mo_A0 g q (s_X6_peg_17 v) (upd ((s_X6_peg_17 v).2 0) (f_X6_at p0 p1).toNatClampNeg (0 : Int32)))).mp hD
        refine lv_aload_n hx hb dX6_peg_45 rfl (lv_at hl 0 rfl) ?_
        refine lv_iload_n hx hb dX6_peg_46 rfl (lv_at hl 1 rfl) ?_
        refine zcVi (n := 1) (As := [.int p0]) (rest := []) (Xr := []) (Xn := (mo g q (s_X6_peg_44 v p0 p1))) (ci := 6) (C := RX6) (T := TX6) (N := 12) (q0 := 0) hx hb hml hown hts hN (m_X6_pegsIn l g q (s_X6_peg_44 v p0 p1) p0 (zrow_iff.mp c_4)) gX6_peg_X6_pegsIn rfl (by decide +kernel) ⟨rfl, rfl⟩ ⟨Nat.le_of_ble_eq_true rfl, Nat.le_of_ble_eq_true rfl⟩ hK hP hD hS hA (zpn _) rfl rfl rfl hl.1 rfl (Nat.le_of_ble_eq_true rfl) dX6_peg_47 ⟨Nat.zero_le _, Nat.zero_le _⟩ (zpn' _) (fun H locs hP hD hS => ?_)
        have E : (f_X6_peg v p0 p1) = ((r_X6_peg_47 v p0 p1), (s_X6_peg_44 v p0 p1)) := (if_neg c_4).trans ((if_neg c_11).trans ((if_pos c_35).trans rfl))
        have e1 : (r_X6_peg_47 v p0 p1) = (f_X6_peg v p0 p1).1 := by rw [E]
        have e2 : (mo g q (s_X6_peg_44 v p0 p1)) = (mo g q (f_X6_peg v p0 p1).2) := by rw [E]
        exact hret (r_X6_peg_47 v p0 p1) (mo g q (s_X6_peg_44 v p0 p1)) _ _ _ _ dX6_peg_50 e1 (rfl) e2 hP hD hS
      · refine lv_bipush (v := (-6 : Int32)) hx hb dX6_peg_38 (by decide) ?_
        refine lv_goto (tgt := 44) hx hb dX6_peg_40 (by decide) ?_
        refine z_iast (f := ((s_X6_peg_17 v).2 0)) (k := (f_X6_at p0 p1).toNatClampNeg) hx hb hK hP hD hS 1 0 rfl rfl (zin_at (zrow_iff.mp c_4) (zplace_iff.mp c_11)) rfl dX6_peg_44 (fun H locs hP hD hS => ?_)
        have hP : va_P g.1 vwCl (mo g q (s_X6_peg_44_2 v p0 p1)) H := (congrArg (fun z => va_P g.1 vwCl z H) (mo_A0 g q (s_X6_peg_17 v) (upd ((s_X6_peg_17 v).2 0) (f_X6_at p0 p1).toNatClampNeg (-6 : Int32)))).mp hP
        have hD : va_D A (mo g q (s_X6_peg_44_2 v p0 p1)) := (congrArg (fun z => va_D A z) (mo_A0 g q (s_X6_peg_17 v) (upd ((s_X6_peg_17 v).2 0) (f_X6_at p0 p1).toNatClampNeg (-6 : Int32)))).mp hD
        refine lv_aload_n hx hb dX6_peg_45 rfl (lv_at hl 0 rfl) ?_
        refine lv_iload_n hx hb dX6_peg_46 rfl (lv_at hl 1 rfl) ?_
        refine zcVi (n := 1) (As := [.int p0]) (rest := []) (Xr := []) (Xn := (mo g q (s_X6_peg_44_2 v p0 p1))) (ci := 6) (C := RX6) (T := TX6) (N := 12) (q0 := 0) hx hb hml hown hts hN (m_X6_pegsIn l g q (s_X6_peg_44_2 v p0 p1) p0 (zrow_iff.mp c_4)) gX6_peg_X6_pegsIn rfl (by decide +kernel) ⟨rfl, rfl⟩ ⟨Nat.le_of_ble_eq_true rfl, Nat.le_of_ble_eq_true rfl⟩ hK hP hD hS hA (zpn _) rfl rfl rfl hl.1 rfl (Nat.le_of_ble_eq_true rfl) dX6_peg_47 ⟨Nat.zero_le _, Nat.zero_le _⟩ (zpn' _) (fun H locs hP hD hS => ?_)
        have E : (f_X6_peg v p0 p1) = ((r_X6_peg_47_2 v p0 p1), (s_X6_peg_44_2 v p0 p1)) := (if_neg c_4).trans ((if_neg c_11).trans ((if_neg c_35).trans rfl))
        have e1 : (r_X6_peg_47_2 v p0 p1) = (f_X6_peg v p0 p1).1 := by rw [E]
        have e2 : (mo g q (s_X6_peg_44_2 v p0 p1)) = (mo g q (f_X6_peg v p0 p1).2) := by rw [E]
        exact hret (r_X6_peg_47_2 v p0 p1) (mo g q (s_X6_peg_44_2 v p0 p1)) _ _ _ _ dX6_peg_50 e1 (rfl) e2 hP hD hS
    · refine lv_iconst (v := (-1 : Int32)) hx hb dX6_peg_14 (by decide) ?_
      have E : (f_X6_peg v p0 p1) = ((-1 : Int32), v) := (if_neg c_4).trans ((if_pos c_11).trans rfl)
      have e1 : (-1 : Int32) = (f_X6_peg v p0 p1).1 := by rw [E]
      have e2 : (mo g q v) = (mo g q (f_X6_peg v p0 p1).2) := by rw [E]
      exact hret (-1 : Int32) (mo g q v) _ _ _ _ dX6_peg_15 e1 (rfl) e2 hP hD hS
abbrev rm_X6_order : Room := { frames := 1, cells := 0, slots := 0, locals := 25 }
set_option maxRecDepth 20000 in
theorem zin_X6_order_X6 : ∀ w ∈ wsX60, w ∈ wsX6_order := by decide +kernel
def s_X6_order_16 (v : zCV) : zCV := (f_X6_changes v)
def s_X6_order_34 (v : zCV) (p0 : Int32) : zCV := zA (s_X6_order_16 v) 0 (upd ((s_X6_order_16 v).2 0) 6 p0)
def f_X6_order (v : zCV) (p0 : Int32) : Int32 × zCV := if (f_X6_in (p0.toInt64) (0 : Int64) (63 : Int64)) = (0 : Int32) then (((-2 : Int32), v)) else (((((s_X6_order_16 v).2 0) 6), (s_X6_order_34 v p0)))
set_option maxRecDepth 100000 in
set_option maxHeartbeats 4000000 in
theorem m_X6_order (l : Launch) (g : zG) (q : Nat → Nat) (v : zCV) (p0 : Int32) (hh : vp_in (v.1 0) 7) : ZI l yX6_order wsX6_order rm_X6_order g (mo g q v) [.ref (q 0), .int p0] (f_X6_order v p0).1 (mo g q (f_X6_order v p0).2) := by
  refine zopenI (cc := cX6_order) (maxL := 3) (ret := .int) (by decide +kernel) rfl (Nat.le_of_ble_eq_true rfl) ?_
  intro p e s m below meth c A Q ls hx hb hml hown hts hP hK hD hA hN hl hret
  have hS : va_S A s.heap s.heap [] := va_S.rf
  have hl : lv_has ls 3 [(0, .ref (q 0)), (1, .int p0)] := hl
  have hown : s.vm.findClass RX6 = some m.cls := hown
  refine lv_iload_n hx hb dX6_order_0 rfl (lv_at hl 1 rfl) ?_
  refine lv_i2l hx hb dX6_order_1 rfl ?_
  refine lv_lconst (v := (0 : Int64)) hx hb dX6_order_2 (by decide) ?_
  refine lv_ldc2 (v := (63 : Int64)) hx hb hown (hts (.constantLong RX6 100 (63)) (by decide +kernel)) dX6_order_3 ?_
  refine zcSi (n := 3) (As := [.long (p0.toInt64), .long (0 : Int64), .long (63 : Int64)]) (rest := []) hx hb hml hown hts hN (m_X6_in l g (p0.toInt64) (0 : Int64) (63 : Int64)) gX6_order_X6_in rfl (by decide +kernel) ⟨rfl, rfl⟩ ⟨Nat.le_of_ble_eq_true rfl, Nat.le_of_ble_eq_true rfl⟩ hK hP hD hS hA rfl hl.1 rfl (Nat.le_of_ble_eq_true rfl) dX6_order_6 ⟨Nat.zero_le _, Nat.zero_le _⟩ (fun H locs hP hD hS => ?_)
  refine lv_if_ne (tgt := 15) hx hb dX6_order_9 (by decide) (fun c_9 => ?_) (fun c_9 => ?_)
  · refine lv_aload_n hx hb dX6_order_15 rfl (lv_at hl 0 rfl) ?_
    refine zcVv (n := 0) (As := []) (rest := []) (Xr := []) (Xn := (mo g q (s_X6_order_16 v))) (ci := 6) (C := RX6) (T := TX6) (N := 12) (q0 := 0) hx hb hml hown hts hN (m_X6_changes l g q v hh) gX6_order_X6_changes rfl (by decide +kernel) ⟨rfl, rfl⟩ ⟨Nat.le_of_ble_eq_true rfl, Nat.le_of_ble_eq_true rfl⟩ hK hP hD hS hA (zpn _) rfl rfl rfl hl.1 rfl (Nat.le_of_ble_eq_true rfl) dX6_order_16 ⟨Nat.zero_le _, Nat.zero_le _⟩ (zpn' _) (fun H locs hP hD hS => ?_)
    refine lv_aload_n hx hb dX6_order_19 rfl (lv_at hl 0 rfl) ?_
    refine va_get (D := g.1) (ci := 6) (v := .ref (q 1)) (C := RX6) (T := TX6) (N := 12) hx hb hts (zin_X6_order_X6) hown hK hP 0 rfl rfl 0 (by decide) (hts (.fieldLink RX6 7 "PegClerksModel" "all" "[I") (by decide +kernel)) (fun _ h9 => h9) rfl dX6_order_20 ?_
    refine lv_bipush (v := (6 : Int32)) hx hb dX6_order_23 (by decide) ?_
    refine z_iald (f := ((s_X6_order_16 v).2 0)) (k := 6) hx hb hK hP 1 0 rfl rfl (zlit (6 : Int32) 136 (by decide +kernel)) (by decide +kernel) dX6_order_25 ?_
    refine lv_istore_n (lv' := [(2, .int (((s_X6_order_16 v).2 0) 6)), (0, .ref (q 0)), (1, .int p0)]) hx hb dX6_order_26 rfl hl (by decide) rfl (fun ls hl => ?_)
    refine lv_aload_n hx hb dX6_order_27 rfl (lv_at hl 1 rfl) ?_
    refine va_get (D := g.1) (ci := 6) (v := .ref (q 1)) (C := RX6) (T := TX6) (N := 12) hx hb hts (zin_X6_order_X6) hown hK hP 0 rfl rfl 0 (by decide) (hts (.fieldLink RX6 7 "PegClerksModel" "all" "[I") (by decide +kernel)) (fun _ h9 => h9) rfl dX6_order_28 ?_
    refine lv_bipush (v := (6 : Int32)) hx hb dX6_order_31 (by decide) ?_
    refine lv_iload_n hx hb dX6_order_33 rfl (lv_at hl 2 rfl) ?_
    refine z_iast (f := ((s_X6_order_16 v).2 0)) (k := 6) hx hb hK hP hD hS 1 0 rfl rfl (zlit (6 : Int32) 136 (by decide +kernel)) (by decide +kernel) dX6_order_34 (fun H locs hP hD hS => ?_)
    have hP : va_P g.1 vwCl (mo g q (s_X6_order_34 v p0)) H := (congrArg (fun z => va_P g.1 vwCl z H) (mo_A0 g q (s_X6_order_16 v) (upd ((s_X6_order_16 v).2 0) 6 p0))).mp hP
    have hD : va_D A (mo g q (s_X6_order_34 v p0)) := (congrArg (fun z => va_D A z) (mo_A0 g q (s_X6_order_16 v) (upd ((s_X6_order_16 v).2 0) 6 p0))).mp hD
    refine lv_iload_n hx hb dX6_order_35 rfl (lv_at hl 0 rfl) ?_
    have E : (f_X6_order v p0) = ((((s_X6_order_16 v).2 0) 6), (s_X6_order_34 v p0)) := (if_neg c_9).trans rfl
    have e1 : (((s_X6_order_16 v).2 0) 6) = (f_X6_order v p0).1 := by rw [E]
    have e2 : (mo g q (s_X6_order_34 v p0)) = (mo g q (f_X6_order v p0).2) := by rw [E]
    exact hret (((s_X6_order_16 v).2 0) 6) (mo g q (s_X6_order_34 v p0)) _ _ _ _ dX6_order_36 e1 (rfl) e2 hP hD hS
  · refine lv_bipush (v := (-2 : Int32)) hx hb dX6_order_12 (by decide) ?_
    have E : (f_X6_order v p0) = ((-2 : Int32), v) := (if_pos c_9).trans rfl
    have e1 : (-2 : Int32) = (f_X6_order v p0).1 := by rw [E]
    have e2 : (mo g q v) = (mo g q (f_X6_order v p0).2) := by rw [E]
    exact hret (-2 : Int32) (mo g q v) _ _ _ _ dX6_order_14 e1 (rfl) e2 hP hD hS
abbrev rm_X6_ink : Room := { frames := 2, cells := 0, slots := 0, locals := 45 }
set_option maxRecDepth 20000 in
theorem zin_X6_ink_X6 : ∀ w ∈ wsX60, w ∈ wsX6_ink := by decide +kernel
def s_X6_ink_10 (v : zCV) : zCV := (f_X6_changes v)
def s_X6_ink_36 (v : zCV) (p0 : Int32) : zCV := zA (s_X6_ink_10 v) 0 (upd ((s_X6_ink_10 v).2 0) ((16 : Int32) + p0).toNatClampNeg (99 : Int32))
def f_X6_ink (v : zCV) (p0 : Int32) : Int32 × zCV := if (f_X6_isPlace p0) = (0 : Int32) then (((-1 : Int32), v)) else ((((99 : Int32) - (((s_X6_ink_10 v).2 0) ((16 : Int32) + p0).toNatClampNeg)), (s_X6_ink_36 v p0)))
set_option maxRecDepth 100000 in
set_option maxHeartbeats 4000000 in
theorem m_X6_ink (l : Launch) (g : zG) (q : Nat → Nat) (v : zCV) (p0 : Int32) (hh : vp_in (v.1 0) 7) : ZI l yX6_ink wsX6_ink rm_X6_ink g (mo g q v) [.ref (q 0), .int p0] (f_X6_ink v p0).1 (mo g q (f_X6_ink v p0).2) := by
  refine zopenI (cc := cX6_ink) (maxL := 3) (ret := .int) (by decide +kernel) rfl (Nat.le_of_ble_eq_true rfl) ?_
  intro p e s m below meth c A Q ls hx hb hml hown hts hP hK hD hA hN hl hret
  have hS : va_S A s.heap s.heap [] := va_S.rf
  have hl : lv_has ls 3 [(0, .ref (q 0)), (1, .int p0)] := hl
  have hown : s.vm.findClass RX6 = some m.cls := hown
  refine lv_iload_n hx hb dX6_ink_0 rfl (lv_at hl 1 rfl) ?_
  refine zcSi (n := 1) (As := [.int p0]) (rest := []) hx hb hml hown hts hN (m_X6_isPlace l g p0) gX6_ink_X6_isPlace rfl (by decide +kernel) ⟨rfl, rfl⟩ ⟨Nat.le_of_ble_eq_true rfl, Nat.le_of_ble_eq_true rfl⟩ hK hP hD hS hA rfl hl.1 rfl (Nat.le_of_ble_eq_true rfl) dX6_ink_1 ⟨Nat.zero_le _, Nat.zero_le _⟩ (fun H locs hP hD hS => ?_)
  refine lv_if_ne (tgt := 9) hx hb dX6_ink_4 (by decide) (fun c_4 => ?_) (fun c_4 => ?_)
  · refine lv_aload_n hx hb dX6_ink_9 rfl (lv_at hl 0 rfl) ?_
    refine zcVv (n := 0) (As := []) (rest := []) (Xr := []) (Xn := (mo g q (s_X6_ink_10 v))) (ci := 6) (C := RX6) (T := TX6) (N := 12) (q0 := 0) hx hb hml hown hts hN (m_X6_changes l g q v hh) gX6_ink_X6_changes rfl (by decide +kernel) ⟨rfl, rfl⟩ ⟨Nat.le_of_ble_eq_true rfl, Nat.le_of_ble_eq_true rfl⟩ hK hP hD hS hA (zpn _) rfl rfl rfl hl.1 rfl (Nat.le_of_ble_eq_true rfl) dX6_ink_10 ⟨Nat.zero_le _, Nat.zero_le _⟩ (zpn' _) (fun H locs hP hD hS => ?_)
    refine lv_bipush (v := (99 : Int32)) hx hb dX6_ink_13 (by decide) ?_
    refine lv_aload_n hx hb dX6_ink_15 rfl (lv_at hl 0 rfl) ?_
    refine va_get (D := g.1) (ci := 6) (v := .ref (q 1)) (C := RX6) (T := TX6) (N := 12) hx hb hts (zin_X6_ink_X6) hown hK hP 0 rfl rfl 0 (by decide) (hts (.fieldLink RX6 7 "PegClerksModel" "all" "[I") (by decide +kernel)) (fun _ h9 => h9) rfl dX6_ink_16 ?_
    refine lv_bipush (v := (16 : Int32)) hx hb dX6_ink_19 (by decide) ?_
    refine lv_iload_n hx hb dX6_ink_21 rfl (lv_at hl 1 rfl) ?_
    refine lv_iadd hx hb dX6_ink_22 ?_
    refine z_iald (f := ((s_X6_ink_10 v).2 0)) (k := ((16 : Int32) + p0).toNatClampNeg) hx hb hK hP 1 0 rfl rfl (zin_add (c := 16) (k := 6) rfl (zplace_iff.mp c_4) (by omega) (by omega)) rfl dX6_ink_23 ?_
    refine lv_isub hx hb dX6_ink_24 ?_
    refine lv_istore_n (lv' := [(2, .int ((99 : Int32) - (((s_X6_ink_10 v).2 0) ((16 : Int32) + p0).toNatClampNeg))), (0, .ref (q 0)), (1, .int p0)]) hx hb dX6_ink_25 rfl hl (by decide) rfl (fun ls hl => ?_)
    refine lv_aload_n hx hb dX6_ink_26 rfl (lv_at hl 1 rfl) ?_
    refine va_get (D := g.1) (ci := 6) (v := .ref (q 1)) (C := RX6) (T := TX6) (N := 12) hx hb hts (zin_X6_ink_X6) hown hK hP 0 rfl rfl 0 (by decide) (hts (.fieldLink RX6 7 "PegClerksModel" "all" "[I") (by decide +kernel)) (fun _ h9 => h9) rfl dX6_ink_27 ?_
    refine lv_bipush (v := (16 : Int32)) hx hb dX6_ink_30 (by decide) ?_
    refine lv_iload_n hx hb dX6_ink_32 rfl (lv_at hl 2 rfl) ?_
    refine lv_iadd hx hb dX6_ink_33 ?_
    refine lv_bipush (v := (99 : Int32)) hx hb dX6_ink_34 (by decide) ?_
    refine z_iast (f := ((s_X6_ink_10 v).2 0)) (k := ((16 : Int32) + p0).toNatClampNeg) hx hb hK hP hD hS 1 0 rfl rfl (zin_add (c := 16) (k := 6) rfl (zplace_iff.mp c_4) (by omega) (by omega)) rfl dX6_ink_36 (fun H locs hP hD hS => ?_)
    have hP : va_P g.1 vwCl (mo g q (s_X6_ink_36 v p0)) H := (congrArg (fun z => va_P g.1 vwCl z H) (mo_A0 g q (s_X6_ink_10 v) (upd ((s_X6_ink_10 v).2 0) ((16 : Int32) + p0).toNatClampNeg (99 : Int32)))).mp hP
    have hD : va_D A (mo g q (s_X6_ink_36 v p0)) := (congrArg (fun z => va_D A z) (mo_A0 g q (s_X6_ink_10 v) (upd ((s_X6_ink_10 v).2 0) ((16 : Int32) + p0).toNatClampNeg (99 : Int32)))).mp hD
    refine lv_iload_n hx hb dX6_ink_37 rfl (lv_at hl 0 rfl) ?_
    have E : (f_X6_ink v p0) = (((99 : Int32) - (((s_X6_ink_10 v).2 0) ((16 : Int32) + p0).toNatClampNeg)), (s_X6_ink_36 v p0)) := (if_neg c_4).trans rfl
    have e1 : ((99 : Int32) - (((s_X6_ink_10 v).2 0) ((16 : Int32) + p0).toNatClampNeg)) = (f_X6_ink v p0).1 := by rw [E]
    have e2 : (mo g q (s_X6_ink_36 v p0)) = (mo g q (f_X6_ink v p0).2) := by rw [E]
    exact hret ((99 : Int32) - (((s_X6_ink_10 v).2 0) ((16 : Int32) + p0).toNatClampNeg)) (mo g q (s_X6_ink_36 v p0)) _ _ _ _ dX6_ink_38 e1 (rfl) e2 hP hD hS
  · refine lv_iconst (v := (-1 : Int32)) hx hb dX6_ink_7 (by decide) ?_
    have E : (f_X6_ink v p0) = ((-1 : Int32), v) := (if_pos c_4).trans rfl
    have e1 : (-1 : Int32) = (f_X6_ink v p0).1 := by rw [E]
    have e2 : (mo g q v) = (mo g q (f_X6_ink v p0).2) := by rw [E]
    exact hret (-1 : Int32) (mo g q v) _ _ _ _ dX6_ink_8 e1 (rfl) e2 hP hD hS
abbrev rm_X6_step : Room := { frames := 6, cells := 0, slots := 0, locals := 131 }
set_option maxRecDepth 20000 in
theorem zin_X6_step_X6 : ∀ w ∈ wsX60, w ∈ wsX6_step := by decide +kernel
def s_X6_step_46 (v : zCV) : zCV := (f_X6_changes v)
def r_X6_step_51 (v : zCV) (p0 : Int32) : Int32 × zCV := (f_X6_stepsUpTo (s_X6_step_46 v) p0)
def f_X6_step (v : zCV) (p0 : Int32) : Int32 × zCV := if (f_X6_in (p0.toInt64) (1 : Int64) (200 : Int64)) = (0 : Int32) then (((-2 : Int32), v)) else (if ((v.2 0) 5) = (1 : Int32) then (((-5 : Int32), v)) else (if (((v.2 0) 10) + p0) ≤ (99999 : Int32) then ((((r_X6_step_51 v p0).1), (r_X6_step_51 v p0).2)) else (((-4 : Int32), v))))
set_option maxRecDepth 100000 in
set_option maxHeartbeats 4000000 in
theorem m_X6_step (l : Launch) (g : zG) (q : Nat → Nat) (v : zCV) (p0 : Int32) (hh : vp_in (v.1 0) 7) (hat : vp_in (v.2 0 4) 16) : ZI l yX6_step wsX6_step rm_X6_step g (mo g q v) [.ref (q 0), .int p0] (f_X6_step v p0).1 (mo g q (f_X6_step v p0).2) := by
  refine zopenI (cc := cX6_step) (maxL := 2) (ret := .int) (by decide +kernel) rfl (Nat.le_of_ble_eq_true rfl) ?_
  intro p e s m below meth c A Q ls hx hb hml hown hts hP hK hD hA hN hl hret
  have hS : va_S A s.heap s.heap [] := va_S.rf
  have hl : lv_has ls 2 [(0, .ref (q 0)), (1, .int p0)] := hl
  have hown : s.vm.findClass RX6 = some m.cls := hown
  refine lv_iload_n hx hb dX6_step_0 rfl (lv_at hl 1 rfl) ?_
  refine lv_i2l hx hb dX6_step_1 rfl ?_
  refine lv_lconst (v := (1 : Int64)) hx hb dX6_step_2 (by decide) ?_
  refine lv_ldc2 (v := (200 : Int64)) hx hb hown (hts (.constantLong RX6 102 (200)) (by decide +kernel)) dX6_step_3 ?_
  refine zcSi (n := 3) (As := [.long (p0.toInt64), .long (1 : Int64), .long (200 : Int64)]) (rest := []) hx hb hml hown hts hN (m_X6_in l g (p0.toInt64) (1 : Int64) (200 : Int64)) gX6_step_X6_in rfl (by decide +kernel) ⟨rfl, rfl⟩ ⟨Nat.le_of_ble_eq_true rfl, Nat.le_of_ble_eq_true rfl⟩ hK hP hD hS hA rfl hl.1 rfl (Nat.le_of_ble_eq_true rfl) dX6_step_6 ⟨Nat.zero_le _, Nat.zero_le _⟩ (fun H locs hP hD hS => ?_)
  refine lv_if_ne (tgt := 15) hx hb dX6_step_9 (by decide) (fun c_9 => ?_) (fun c_9 => ?_)
  · refine lv_aload_n hx hb dX6_step_15 rfl (lv_at hl 0 rfl) ?_
    refine va_get (D := g.1) (ci := 6) (v := .ref (q 1)) (C := RX6) (T := TX6) (N := 12) hx hb hts (zin_X6_step_X6) hown hK hP 0 rfl rfl 0 (by decide) (hts (.fieldLink RX6 7 "PegClerksModel" "all" "[I") (by decide +kernel)) (fun _ h9 => h9) rfl dX6_step_16 ?_
    refine lv_iconst (v := (5 : Int32)) hx hb dX6_step_19 (by decide) ?_
    refine z_iald (f := (v.2 0)) (k := 5) hx hb hK hP 1 0 rfl rfl (zlit (5 : Int32) 136 (by decide +kernel)) (by decide +kernel) dX6_step_20 ?_
    refine lv_iconst (v := (1 : Int32)) hx hb dX6_step_21 (by decide) ?_
    refine lv_icmp_ne (tgt := 28) hx hb dX6_step_22 (by decide) (fun c_22 => ?_) (fun c_22 => ?_)
    · refine lv_aload_n hx hb dX6_step_28 rfl (lv_at hl 0 rfl) ?_
      refine va_get (D := g.1) (ci := 6) (v := .ref (q 1)) (C := RX6) (T := TX6) (N := 12) hx hb hts (zin_X6_step_X6) hown hK hP 0 rfl rfl 0 (by decide) (hts (.fieldLink RX6 7 "PegClerksModel" "all" "[I") (by decide +kernel)) (fun _ h9 => h9) rfl dX6_step_29 ?_
      refine lv_bipush (v := (10 : Int32)) hx hb dX6_step_32 (by decide) ?_
      refine z_iald (f := (v.2 0)) (k := 10) hx hb hK hP 1 0 rfl rfl (zlit (10 : Int32) 136 (by decide +kernel)) (by decide +kernel) dX6_step_34 ?_
      refine lv_iload_n hx hb dX6_step_35 rfl (lv_at hl 1 rfl) ?_
      refine lv_iadd hx hb dX6_step_36 ?_
      refine lv_ldc (v := (99999 : Int32)) hx hb hown (hts (.constant RX6 104 (99999)) (by decide +kernel)) dX6_step_37 ?_
      refine lv_icmp_le (tgt := 45) hx hb dX6_step_39 (by decide) (fun c_39 => ?_) (fun c_39 => ?_)
      · refine lv_aload_n hx hb dX6_step_45 rfl (lv_at hl 0 rfl) ?_
        refine zcVv (n := 0) (As := []) (rest := []) (Xr := []) (Xn := (mo g q (s_X6_step_46 v))) (ci := 6) (C := RX6) (T := TX6) (N := 12) (q0 := 0) hx hb hml hown hts hN (m_X6_changes l g q v hh) gX6_step_X6_changes rfl (by decide +kernel) ⟨rfl, rfl⟩ ⟨Nat.le_of_ble_eq_true rfl, Nat.le_of_ble_eq_true rfl⟩ hK hP hD hS hA (zpn _) rfl rfl rfl hl.1 rfl (Nat.le_of_ble_eq_true rfl) dX6_step_46 ⟨Nat.zero_le _, Nat.zero_le _⟩ (zpn' _) (fun H locs hP hD hS => ?_)
        refine lv_aload_n hx hb dX6_step_49 rfl (lv_at hl 0 rfl) ?_
        refine lv_iload_n hx hb dX6_step_50 rfl (lv_at hl 1 rfl) ?_
        refine zcVi (n := 1) (As := [.int p0]) (rest := []) (Xr := []) (Xn := (mo g q (r_X6_step_51 v p0).2)) (ci := 6) (C := RX6) (T := TX6) (N := 12) (q0 := 0) hx hb hml hown hts hN (m_X6_stepsUpTo l g q (s_X6_step_46 v) p0 (zrow_changes hat)) gX6_step_X6_stepsUpTo rfl (by decide +kernel) ⟨rfl, rfl⟩ ⟨Nat.le_of_ble_eq_true rfl, Nat.le_of_ble_eq_true rfl⟩ hK hP hD hS hA (zpn _) rfl rfl rfl hl.1 rfl (Nat.le_of_ble_eq_true rfl) dX6_step_51 ⟨Nat.zero_le _, Nat.zero_le _⟩ (zpn' _) (fun H locs hP hD hS => ?_)
        have E : (f_X6_step v p0) = (((r_X6_step_51 v p0).1), (r_X6_step_51 v p0).2) := (if_neg c_9).trans ((if_neg c_22).trans ((if_pos c_39).trans rfl))
        have e1 : ((r_X6_step_51 v p0).1) = (f_X6_step v p0).1 := by rw [E]
        have e2 : (mo g q (r_X6_step_51 v p0).2) = (mo g q (f_X6_step v p0).2) := by rw [E]
        exact hret ((r_X6_step_51 v p0).1) (mo g q (r_X6_step_51 v p0).2) _ _ _ _ dX6_step_54 e1 (rfl) e2 hP hD hS
      · refine lv_bipush (v := (-4 : Int32)) hx hb dX6_step_42 (by decide) ?_
        have E : (f_X6_step v p0) = ((-4 : Int32), v) := (if_neg c_9).trans ((if_neg c_22).trans ((if_neg c_39).trans rfl))
        have e1 : (-4 : Int32) = (f_X6_step v p0).1 := by rw [E]
        have e2 : (mo g q v) = (mo g q (f_X6_step v p0).2) := by rw [E]
        exact hret (-4 : Int32) (mo g q v) _ _ _ _ dX6_step_44 e1 (rfl) e2 hP hD hS
    · refine lv_bipush (v := (-5 : Int32)) hx hb dX6_step_25 (by decide) ?_
      have E : (f_X6_step v p0) = ((-5 : Int32), v) := (if_neg c_9).trans ((if_pos c_22).trans rfl)
      have e1 : (-5 : Int32) = (f_X6_step v p0).1 := by rw [E]
      have e2 : (mo g q v) = (mo g q (f_X6_step v p0).2) := by rw [E]
      exact hret (-5 : Int32) (mo g q v) _ _ _ _ dX6_step_27 e1 (rfl) e2 hP hD hS
  · refine lv_bipush (v := (-2 : Int32)) hx hb dX6_step_12 (by decide) ?_
    have E : (f_X6_step v p0) = ((-2 : Int32), v) := (if_pos c_9).trans rfl
    have e1 : (-2 : Int32) = (f_X6_step v p0).1 := by rw [E]
    have e2 : (mo g q v) = (mo g q (f_X6_step v p0).2) := by rw [E]
    exact hret (-2 : Int32) (mo g q v) _ _ _ _ dX6_step_14 e1 (rfl) e2 hP hD hS
abbrev rm_X6_free : Room := { frames := 1, cells := 0, slots := 0, locals := 21 }
set_option maxRecDepth 20000 in
theorem zin_X6_free_X6 : ∀ w ∈ wsX60, w ∈ wsX6_free := by decide +kernel
def s_X6_free_13 (v : zCV) : zCV := (f_X6_changes v)
def s_X6_free_29 (v : zCV) : zCV := zA (s_X6_free_13 v) 0 (upd ((s_X6_free_13 v).2 0) 5 (0 : Int32))
def s_X6_free_41 (v : zCV) : zCV := zA (s_X6_free_29 v) 0 (upd ((s_X6_free_29 v).2 0) 4 (((((s_X6_free_13 v).2 0) 4) + (1 : Int32)) - ((((((s_X6_free_13 v).2 0) 4) + (1 : Int32)) / (16 : Int32)) * (16 : Int32))))
def f_X6_free (v : zCV) : Int32 × zCV := if ((v.2 0) 5) = (0 : Int32) then (((-5 : Int32), v)) else (((((s_X6_free_13 v).2 0) 4), (s_X6_free_41 v)))
set_option maxRecDepth 100000 in
set_option maxHeartbeats 4000000 in
theorem m_X6_free (l : Launch) (g : zG) (q : Nat → Nat) (v : zCV) (hh : vp_in (v.1 0) 7) : ZI l yX6_free wsX6_free rm_X6_free g (mo g q v) [.ref (q 0)] (f_X6_free v).1 (mo g q (f_X6_free v).2) := by
  refine zopenI (cc := cX6_free) (maxL := 2) (ret := .int) (by decide +kernel) rfl (Nat.le_of_ble_eq_true rfl) ?_
  intro p e s m below meth c A Q ls hx hb hml hown hts hP hK hD hA hN hl hret
  have hS : va_S A s.heap s.heap [] := va_S.rf
  have hl : lv_has ls 2 [(0, .ref (q 0))] := hl
  have hown : s.vm.findClass RX6 = some m.cls := hown
  refine lv_aload_n hx hb dX6_free_0 rfl (lv_at hl 0 rfl) ?_
  refine va_get (D := g.1) (ci := 6) (v := .ref (q 1)) (C := RX6) (T := TX6) (N := 12) hx hb hts (zin_X6_free_X6) hown hK hP 0 rfl rfl 0 (by decide) (hts (.fieldLink RX6 7 "PegClerksModel" "all" "[I") (by decide +kernel)) (fun _ h9 => h9) rfl dX6_free_1 ?_
  refine lv_iconst (v := (5 : Int32)) hx hb dX6_free_4 (by decide) ?_
  refine z_iald (f := (v.2 0)) (k := 5) hx hb hK hP 1 0 rfl rfl (zlit (5 : Int32) 136 (by decide +kernel)) (by decide +kernel) dX6_free_5 ?_
  refine lv_if_ne (tgt := 12) hx hb dX6_free_6 (by decide) (fun c_6 => ?_) (fun c_6 => ?_)
  · refine lv_aload_n hx hb dX6_free_12 rfl (lv_at hl 0 rfl) ?_
    refine zcVv (n := 0) (As := []) (rest := []) (Xr := []) (Xn := (mo g q (s_X6_free_13 v))) (ci := 6) (C := RX6) (T := TX6) (N := 12) (q0 := 0) hx hb hml hown hts hN (m_X6_changes l g q v hh) gX6_free_X6_changes rfl (by decide +kernel) ⟨rfl, rfl⟩ ⟨Nat.le_of_ble_eq_true rfl, Nat.le_of_ble_eq_true rfl⟩ hK hP hD hS hA (zpn _) rfl rfl rfl hl.1 rfl (Nat.le_of_ble_eq_true rfl) dX6_free_13 ⟨Nat.zero_le _, Nat.zero_le _⟩ (zpn' _) (fun H locs hP hD hS => ?_)
    refine lv_aload_n hx hb dX6_free_16 rfl (lv_at hl 0 rfl) ?_
    refine va_get (D := g.1) (ci := 6) (v := .ref (q 1)) (C := RX6) (T := TX6) (N := 12) hx hb hts (zin_X6_free_X6) hown hK hP 0 rfl rfl 0 (by decide) (hts (.fieldLink RX6 7 "PegClerksModel" "all" "[I") (by decide +kernel)) (fun _ h9 => h9) rfl dX6_free_17 ?_
    refine lv_iconst (v := (4 : Int32)) hx hb dX6_free_20 (by decide) ?_
    refine z_iald (f := ((s_X6_free_13 v).2 0)) (k := 4) hx hb hK hP 1 0 rfl rfl (zlit (4 : Int32) 136 (by decide +kernel)) (by decide +kernel) dX6_free_21 ?_
    refine lv_istore_n (lv' := [(1, .int (((s_X6_free_13 v).2 0) 4)), (0, .ref (q 0))]) hx hb dX6_free_22 rfl hl (by decide) rfl (fun ls hl => ?_)
    refine lv_aload_n hx hb dX6_free_23 rfl (lv_at hl 1 rfl) ?_
    refine va_get (D := g.1) (ci := 6) (v := .ref (q 1)) (C := RX6) (T := TX6) (N := 12) hx hb hts (zin_X6_free_X6) hown hK hP 0 rfl rfl 0 (by decide) (hts (.fieldLink RX6 7 "PegClerksModel" "all" "[I") (by decide +kernel)) (fun _ h9 => h9) rfl dX6_free_24 ?_
    refine lv_iconst (v := (5 : Int32)) hx hb dX6_free_27 (by decide) ?_
    refine lv_iconst (v := (0 : Int32)) hx hb dX6_free_28 (by decide) ?_
    refine z_iast (f := ((s_X6_free_13 v).2 0)) (k := 5) hx hb hK hP hD hS 1 0 rfl rfl (zlit (5 : Int32) 136 (by decide +kernel)) (by decide +kernel) dX6_free_29 (fun H locs hP hD hS => ?_)
    have hP : va_P g.1 vwCl (mo g q (s_X6_free_29 v)) H := (congrArg (fun z => va_P g.1 vwCl z H) (mo_A0 g q (s_X6_free_13 v) (upd ((s_X6_free_13 v).2 0) 5 (0 : Int32)))).mp hP
    have hD : va_D A (mo g q (s_X6_free_29 v)) := (congrArg (fun z => va_D A z) (mo_A0 g q (s_X6_free_13 v) (upd ((s_X6_free_13 v).2 0) 5 (0 : Int32)))).mp hD
    refine lv_aload_n hx hb dX6_free_30 rfl (lv_at hl 1 rfl) ?_
    refine va_get (D := g.1) (ci := 6) (v := .ref (q 1)) (C := RX6) (T := TX6) (N := 12) hx hb hts (zin_X6_free_X6) hown hK hP 0 rfl rfl 0 (by decide) (hts (.fieldLink RX6 7 "PegClerksModel" "all" "[I") (by decide +kernel)) (fun _ h9 => h9) rfl dX6_free_31 ?_
    refine lv_iconst (v := (4 : Int32)) hx hb dX6_free_34 (by decide) ?_
    refine lv_iload_n hx hb dX6_free_35 rfl (lv_at hl 0 rfl) ?_
    refine lv_iconst (v := (1 : Int32)) hx hb dX6_free_36 (by decide) ?_
    refine lv_iadd hx hb dX6_free_37 ?_
    refine lv_bipush (v := (16 : Int32)) hx hb dX6_free_38 (by decide) ?_
    refine lv_irem hx hb dX6_free_40 (by decide) ?_
    refine z_iast (f := ((s_X6_free_29 v).2 0)) (k := 4) hx hb hK hP hD hS 1 0 rfl rfl (zlit (4 : Int32) 136 (by decide +kernel)) (by decide +kernel) dX6_free_41 (fun H locs hP hD hS => ?_)
    have hP : va_P g.1 vwCl (mo g q (s_X6_free_41 v)) H := (congrArg (fun z => va_P g.1 vwCl z H) (mo_A0 g q (s_X6_free_29 v) (upd ((s_X6_free_29 v).2 0) 4 (((((s_X6_free_13 v).2 0) 4) + (1 : Int32)) - ((((((s_X6_free_13 v).2 0) 4) + (1 : Int32)) / (16 : Int32)) * (16 : Int32)))))).mp hP
    have hD : va_D A (mo g q (s_X6_free_41 v)) := (congrArg (fun z => va_D A z) (mo_A0 g q (s_X6_free_29 v) (upd ((s_X6_free_29 v).2 0) 4 (((((s_X6_free_13 v).2 0) 4) + (1 : Int32)) - ((((((s_X6_free_13 v).2 0) 4) + (1 : Int32)) / (16 : Int32)) * (16 : Int32)))))).mp hD
    refine lv_iload_n hx hb dX6_free_42 rfl (lv_at hl 0 rfl) ?_
    have E : (f_X6_free v) = ((((s_X6_free_13 v).2 0) 4), (s_X6_free_41 v)) := (if_neg c_6).trans rfl
    have e1 : (((s_X6_free_13 v).2 0) 4) = (f_X6_free v).1 := by rw [E]
    have e2 : (mo g q (s_X6_free_41 v)) = (mo g q (f_X6_free v).2) := by rw [E]
    exact hret (((s_X6_free_13 v).2 0) 4) (mo g q (s_X6_free_41 v)) _ _ _ _ dX6_free_43 e1 (rfl) e2 hP hD hS
  · refine lv_bipush (v := (-5 : Int32)) hx hb dX6_free_9 (by decide) ?_
    have E : (f_X6_free v) = ((-5 : Int32), v) := (if_pos c_6).trans rfl
    have e1 : (-5 : Int32) = (f_X6_free v).1 := by rw [E]
    have e2 : (mo g q v) = (mo g q (f_X6_free v).2) := by rw [E]
    exact hret (-5 : Int32) (mo g q v) _ _ _ _ dX6_free_11 e1 (rfl) e2 hP hD hS
abbrev rm_X6_newForm : Room := { frames := 1, cells := 0, slots := 0, locals := 21 }
set_option maxRecDepth 20000 in
theorem zin_X6_newForm_X6 : ∀ w ∈ wsX60, w ∈ wsX6_newForm := by decide +kernel
def s_X6_newForm_1 (v : zCV) : zCV := (f_X6_changes v)
def s_X6_newForm_13 (v : zCV) : zCV := (f_X6_newOne (s_X6_newForm_1 v))
def f_X6_newForm (v : zCV) : Int32 × zCV := ((((s_X6_newForm_1 v).2 0) 7), (s_X6_newForm_13 v))
set_option maxRecDepth 100000 in
set_option maxHeartbeats 4000000 in
theorem m_X6_newForm (l : Launch) (g : zG) (q : Nat → Nat) (v : zCV) (hh : vp_in (v.1 0) 7) : ZI l yX6_newForm wsX6_newForm rm_X6_newForm g (mo g q v) [.ref (q 0)] (f_X6_newForm v).1 (mo g q (f_X6_newForm v).2) := by
  refine zopenI (cc := cX6_newForm) (maxL := 2) (ret := .int) (by decide +kernel) rfl (Nat.le_of_ble_eq_true rfl) ?_
  intro p e s m below meth c A Q ls hx hb hml hown hts hP hK hD hA hN hl hret
  have hS : va_S A s.heap s.heap [] := va_S.rf
  have hl : lv_has ls 2 [(0, .ref (q 0))] := hl
  have hown : s.vm.findClass RX6 = some m.cls := hown
  refine lv_aload_n hx hb dX6_newForm_0 rfl (lv_at hl 0 rfl) ?_
  refine zcVv (n := 0) (As := []) (rest := []) (Xr := []) (Xn := (mo g q (s_X6_newForm_1 v))) (ci := 6) (C := RX6) (T := TX6) (N := 12) (q0 := 0) hx hb hml hown hts hN (m_X6_changes l g q v hh) gX6_newForm_X6_changes rfl (by decide +kernel) ⟨rfl, rfl⟩ ⟨Nat.le_of_ble_eq_true rfl, Nat.le_of_ble_eq_true rfl⟩ hK hP hD hS hA (zpn _) rfl rfl rfl hl.1 rfl (Nat.le_of_ble_eq_true rfl) dX6_newForm_1 ⟨Nat.zero_le _, Nat.zero_le _⟩ (zpn' _) (fun H locs hP hD hS => ?_)
  refine lv_aload_n hx hb dX6_newForm_4 rfl (lv_at hl 0 rfl) ?_
  refine va_get (D := g.1) (ci := 6) (v := .ref (q 1)) (C := RX6) (T := TX6) (N := 12) hx hb hts (zin_X6_newForm_X6) hown hK hP 0 rfl rfl 0 (by decide) (hts (.fieldLink RX6 7 "PegClerksModel" "all" "[I") (by decide +kernel)) (fun _ h9 => h9) rfl dX6_newForm_5 ?_
  refine lv_bipush (v := (7 : Int32)) hx hb dX6_newForm_8 (by decide) ?_
  refine z_iald (f := ((s_X6_newForm_1 v).2 0)) (k := 7) hx hb hK hP 1 0 rfl rfl (zlit (7 : Int32) 136 (by decide +kernel)) (by decide +kernel) dX6_newForm_10 ?_
  refine lv_istore_n (lv' := [(1, .int (((s_X6_newForm_1 v).2 0) 7)), (0, .ref (q 0))]) hx hb dX6_newForm_11 rfl hl (by decide) rfl (fun ls hl => ?_)
  refine lv_aload_n hx hb dX6_newForm_12 rfl (lv_at hl 1 rfl) ?_
  refine zcVv (n := 0) (As := []) (rest := []) (Xr := []) (Xn := (mo g q (s_X6_newForm_13 v))) (ci := 6) (C := RX6) (T := TX6) (N := 12) (q0 := 0) hx hb hml hown hts hN (m_X6_newOne l g q (s_X6_newForm_1 v) ) gX6_newForm_X6_newOne rfl (by decide +kernel) ⟨rfl, rfl⟩ ⟨Nat.le_of_ble_eq_true rfl, Nat.le_of_ble_eq_true rfl⟩ hK hP hD hS hA (zpn _) rfl rfl rfl hl.1 rfl (Nat.le_of_ble_eq_true rfl) dX6_newForm_13 ⟨Nat.zero_le _, Nat.zero_le _⟩ (zpn' _) (fun H locs hP hD hS => ?_)
  refine lv_iload_n hx hb dX6_newForm_16 rfl (lv_at hl 0 rfl) ?_
  have E : (f_X6_newForm v) = ((((s_X6_newForm_1 v).2 0) 7), (s_X6_newForm_13 v)) := rfl
  have e1 : (((s_X6_newForm_1 v).2 0) 7) = (f_X6_newForm v).1 := by rw [E]
  have e2 : (mo g q (s_X6_newForm_13 v)) = (mo g q (f_X6_newForm v).2) := by rw [E]
  exact hret (((s_X6_newForm_1 v).2 0) 7) (mo g q (s_X6_newForm_13 v)) _ _ _ _ dX6_newForm_17 e1 (rfl) e2 hP hD hS
abbrev rm_X6_row : Room := { frames := 4, cells := 0, slots := 0, locals := 87 }
set_option maxRecDepth 20000 in
theorem zin_X6_row_X6 : ∀ w ∈ wsX60, w ∈ wsX6_row := by decide +kernel
def r_X6_row_42 (v : zCV) (p0 : Int32) : Int32 := (f_X6_setIn v p0)
def r_X6_row_48 (v : zCV) (p0 : Int32) : Int32 := (f_X6_pegsIn v p0)
def r_X6_row_54 (v : zCV) (p0 : Int32) : Int32 := (f_X6_wouldJam v p0)
def f_X6_row (v : zCV) (p0 : Int32) (p1 : Int32) : Int32 := if (f_X6_isRow p0) = (0 : Int32) then ((-1 : Int32)) else (if p1 = (0 : Int32) then ((r_X6_row_42 v p0)) else (if p1 = (1 : Int32) then ((r_X6_row_48 v p0)) else (if p1 = (2 : Int32) then (if (r_X6_row_54 v p0) = (0 : Int32) then ((0 : Int32)) else ((1 : Int32))) else (if p1 = (3 : Int32) then ((((p0 + (16 : Int32)) - ((v.2 0) 4)) - ((((p0 + (16 : Int32)) - ((v.2 0) 4)) / (16 : Int32)) * (16 : Int32)))) else ((-2 : Int32))))))
set_option maxRecDepth 100000 in
set_option maxHeartbeats 4000000 in
theorem m_X6_row (l : Launch) (g : zG) (q : Nat → Nat) (v : zCV) (p0 : Int32) (p1 : Int32) : ZI l yX6_row wsX6_row rm_X6_row g (mo g q v) [.ref (q 0), .int p0, .int p1] (f_X6_row v p0 p1) (mo g q v) := by
  refine zopenI (cc := cX6_row) (maxL := 3) (ret := .int) (by decide +kernel) rfl (Nat.le_of_ble_eq_true rfl) ?_
  intro p e s m below meth c A Q ls hx hb hml hown hts hP hK hD hA hN hl hret
  have hS : va_S A s.heap s.heap [] := va_S.rf
  have hl : lv_has ls 3 [(0, .ref (q 0)), (1, .int p0), (2, .int p1)] := hl
  have hown : s.vm.findClass RX6 = some m.cls := hown
  refine lv_iload_n hx hb dX6_row_0 rfl (lv_at hl 1 rfl) ?_
  refine zcSi (n := 1) (As := [.int p0]) (rest := []) hx hb hml hown hts hN (m_X6_isRow l g p0) gX6_row_X6_isRow rfl (by decide +kernel) ⟨rfl, rfl⟩ ⟨Nat.le_of_ble_eq_true rfl, Nat.le_of_ble_eq_true rfl⟩ hK hP hD hS hA rfl hl.1 rfl (Nat.le_of_ble_eq_true rfl) dX6_row_1 ⟨Nat.zero_le _, Nat.zero_le _⟩ (fun H locs hP hD hS => ?_)
  refine lv_if_ne (tgt := 9) hx hb dX6_row_4 (by decide) (fun c_4 => ?_) (fun c_4 => ?_)
  · refine lv_iload_n hx hb dX6_row_9 rfl (lv_at hl 2 rfl) ?_
    by_cases c_10_0 : p1 = (0 : Int32)
    · refine lv_tableIn (off := 30) (tgt := 40) hx hb dX6_row_10 (by rw [c_10_0]; decide) (by rw [c_10_0]; decide) (by rw [c_10_0]; rfl) (by decide) ?_
      refine lv_aload_n hx hb dX6_row_40 rfl (lv_at hl 0 rfl) ?_
      refine lv_iload_n hx hb dX6_row_41 rfl (lv_at hl 1 rfl) ?_
      refine zcVi (n := 1) (As := [.int p0]) (rest := []) (Xr := []) (Xn := (mo g q v)) (ci := 6) (C := RX6) (T := TX6) (N := 12) (q0 := 0) hx hb hml hown hts hN (m_X6_setIn l g q v p0 (zrow_iff.mp c_4)) gX6_row_X6_setIn rfl (by decide +kernel) ⟨rfl, rfl⟩ ⟨Nat.le_of_ble_eq_true rfl, Nat.le_of_ble_eq_true rfl⟩ hK hP hD hS hA (zpn _) rfl rfl rfl hl.1 rfl (Nat.le_of_ble_eq_true rfl) dX6_row_42 ⟨Nat.zero_le _, Nat.zero_le _⟩ (zpn' _) (fun H locs hP hD hS => ?_)
      have E : (f_X6_row v p0 p1) = (r_X6_row_42 v p0) := (if_neg c_4).trans ((if_pos c_10_0).trans rfl)
      exact hret _ _ _ _ _ _ dX6_row_45 E.symm (rfl) rfl hP hD hS
    by_cases c_10_1 : p1 = (1 : Int32)
    · refine lv_tableIn (off := 36) (tgt := 46) hx hb dX6_row_10 (by rw [c_10_1]; decide) (by rw [c_10_1]; decide) (by rw [c_10_1]; rfl) (by decide) ?_
      refine lv_aload_n hx hb dX6_row_46 rfl (lv_at hl 0 rfl) ?_
      refine lv_iload_n hx hb dX6_row_47 rfl (lv_at hl 1 rfl) ?_
      refine zcVi (n := 1) (As := [.int p0]) (rest := []) (Xr := []) (Xn := (mo g q v)) (ci := 6) (C := RX6) (T := TX6) (N := 12) (q0 := 0) hx hb hml hown hts hN (m_X6_pegsIn l g q v p0 (zrow_iff.mp c_4)) gX6_row_X6_pegsIn rfl (by decide +kernel) ⟨rfl, rfl⟩ ⟨Nat.le_of_ble_eq_true rfl, Nat.le_of_ble_eq_true rfl⟩ hK hP hD hS hA (zpn _) rfl rfl rfl hl.1 rfl (Nat.le_of_ble_eq_true rfl) dX6_row_48 ⟨Nat.zero_le _, Nat.zero_le _⟩ (zpn' _) (fun H locs hP hD hS => ?_)
      have E : (f_X6_row v p0 p1) = (r_X6_row_48 v p0) := (if_neg c_4).trans ((if_neg c_10_0).trans ((if_pos c_10_1).trans rfl))
      exact hret _ _ _ _ _ _ dX6_row_51 E.symm (rfl) rfl hP hD hS
    by_cases c_10_2 : p1 = (2 : Int32)
    · refine lv_tableIn (off := 42) (tgt := 52) hx hb dX6_row_10 (by rw [c_10_2]; decide) (by rw [c_10_2]; decide) (by rw [c_10_2]; rfl) (by decide) ?_
      refine lv_aload_n hx hb dX6_row_52 rfl (lv_at hl 0 rfl) ?_
      refine lv_iload_n hx hb dX6_row_53 rfl (lv_at hl 1 rfl) ?_
      refine zcVi (n := 1) (As := [.int p0]) (rest := []) (Xr := []) (Xn := (mo g q v)) (ci := 6) (C := RX6) (T := TX6) (N := 12) (q0 := 0) hx hb hml hown hts hN (m_X6_wouldJam l g q v p0 (zrow_iff.mp c_4)) gX6_row_X6_wouldJam rfl (by decide +kernel) ⟨rfl, rfl⟩ ⟨Nat.le_of_ble_eq_true rfl, Nat.le_of_ble_eq_true rfl⟩ hK hP hD hS hA (zpn _) rfl rfl rfl hl.1 rfl (Nat.le_of_ble_eq_true rfl) dX6_row_54 ⟨Nat.zero_le _, Nat.zero_le _⟩ (zpn' _) (fun H locs hP hD hS => ?_)
      refine lv_if_eq (tgt := 64) hx hb dX6_row_57 (by decide) (fun c_57 => ?_) (fun c_57 => ?_)
      · refine lv_iconst (v := (0 : Int32)) hx hb dX6_row_64 (by decide) ?_
        have E : (f_X6_row v p0 p1) = (0 : Int32) := (if_neg c_4).trans ((if_neg c_10_0).trans ((if_neg c_10_1).trans ((if_pos c_10_2).trans ((if_pos c_57).trans rfl))))
        exact hret _ _ _ _ _ _ dX6_row_65 E.symm (rfl) rfl hP hD hS
      · refine lv_iconst (v := (1 : Int32)) hx hb dX6_row_60 (by decide) ?_
        refine lv_goto (tgt := 65) hx hb dX6_row_61 (by decide) ?_
        have E : (f_X6_row v p0 p1) = (1 : Int32) := (if_neg c_4).trans ((if_neg c_10_0).trans ((if_neg c_10_1).trans ((if_pos c_10_2).trans ((if_neg c_57).trans rfl))))
        exact hret _ _ _ _ _ _ dX6_row_65 E.symm (rfl) rfl hP hD hS
    by_cases c_10_3 : p1 = (3 : Int32)
    · refine lv_tableIn (off := 56) (tgt := 66) hx hb dX6_row_10 (by rw [c_10_3]; decide) (by rw [c_10_3]; decide) (by rw [c_10_3]; rfl) (by decide) ?_
      refine lv_iload_n hx hb dX6_row_66 rfl (lv_at hl 1 rfl) ?_
      refine lv_bipush (v := (16 : Int32)) hx hb dX6_row_67 (by decide) ?_
      refine lv_iadd hx hb dX6_row_69 ?_
      refine lv_aload_n hx hb dX6_row_70 rfl (lv_at hl 0 rfl) ?_
      refine va_get (D := g.1) (ci := 6) (v := .ref (q 1)) (C := RX6) (T := TX6) (N := 12) hx hb hts (zin_X6_row_X6) hown hK hP 0 rfl rfl 0 (by decide) (hts (.fieldLink RX6 7 "PegClerksModel" "all" "[I") (by decide +kernel)) (fun _ h9 => h9) rfl dX6_row_71 ?_
      refine lv_iconst (v := (4 : Int32)) hx hb dX6_row_74 (by decide) ?_
      refine z_iald (f := (v.2 0)) (k := 4) hx hb hK hP 1 0 rfl rfl (zlit (4 : Int32) 136 (by decide +kernel)) (by decide +kernel) dX6_row_75 ?_
      refine lv_isub hx hb dX6_row_76 ?_
      refine lv_bipush (v := (16 : Int32)) hx hb dX6_row_77 (by decide) ?_
      refine lv_irem hx hb dX6_row_79 (by decide) ?_
      have E : (f_X6_row v p0 p1) = (((p0 + (16 : Int32)) - ((v.2 0) 4)) - ((((p0 + (16 : Int32)) - ((v.2 0) 4)) / (16 : Int32)) * (16 : Int32))) := (if_neg c_4).trans ((if_neg c_10_0).trans ((if_neg c_10_1).trans ((if_neg c_10_2).trans ((if_pos c_10_3).trans rfl))))
      exact hret _ _ _ _ _ _ dX6_row_80 E.symm (rfl) rfl hP hD hS
    refine lv_tableOut (tgt := 81) hx hb dX6_row_10 (zsw4 (lv_neT c_10_0 (a := 0) (by decide)) (lv_neT c_10_1 (a := 1) (by decide)) (lv_neT c_10_2 (a := 2) (by decide)) (lv_neT c_10_3 (a := 3) (by decide))) (by decide) ?_
    refine lv_bipush (v := (-2 : Int32)) hx hb dX6_row_81 (by decide) ?_
    have E : (f_X6_row v p0 p1) = (-2 : Int32) := (if_neg c_4).trans ((if_neg c_10_0).trans ((if_neg c_10_1).trans ((if_neg c_10_2).trans ((if_neg c_10_3).trans rfl))))
    exact hret _ _ _ _ _ _ dX6_row_83 E.symm (rfl) rfl hP hD hS
  · refine lv_iconst (v := (-1 : Int32)) hx hb dX6_row_7 (by decide) ?_
    have E : (f_X6_row v p0 p1) = (-1 : Int32) := (if_pos c_4).trans rfl
    exact hret _ _ _ _ _ _ dX6_row_8 E.symm (rfl) rfl hP hD hS
abbrev rm_X6_stamped : Room := { frames := 2, cells := 0, slots := 0, locals := 45 }
set_option maxRecDepth 20000 in
theorem zin_X6_stamped_X6 : ∀ w ∈ wsX60, w ∈ wsX6_stamped := by decide +kernel
def f_X6_stamped (v : zCV) (p0 : Int32) (p1 : Int32) : Int32 := if (f_X6_isRow p0) = (0 : Int32) then ((-1 : Int32)) else (if (f_X6_isPlace p1) = (0 : Int32) then ((-1 : Int32)) else (((v.2 0) (f_X6_at p0 p1).toNatClampNeg)))
set_option maxRecDepth 100000 in
set_option maxHeartbeats 4000000 in
theorem m_X6_stamped (l : Launch) (g : zG) (q : Nat → Nat) (v : zCV) (p0 : Int32) (p1 : Int32) : ZI l yX6_stamped wsX6_stamped rm_X6_stamped g (mo g q v) [.ref (q 0), .int p0, .int p1] (f_X6_stamped v p0 p1) (mo g q v) := by
  refine zopenI (cc := cX6_stamped) (maxL := 3) (ret := .int) (by decide +kernel) rfl (Nat.le_of_ble_eq_true rfl) ?_
  intro p e s m below meth c A Q ls hx hb hml hown hts hP hK hD hA hN hl hret
  have hS : va_S A s.heap s.heap [] := va_S.rf
  have hl : lv_has ls 3 [(0, .ref (q 0)), (1, .int p0), (2, .int p1)] := hl
  have hown : s.vm.findClass RX6 = some m.cls := hown
  refine lv_iload_n hx hb dX6_stamped_0 rfl (lv_at hl 1 rfl) ?_
  refine zcSi (n := 1) (As := [.int p0]) (rest := []) hx hb hml hown hts hN (m_X6_isRow l g p0) gX6_stamped_X6_isRow rfl (by decide +kernel) ⟨rfl, rfl⟩ ⟨Nat.le_of_ble_eq_true rfl, Nat.le_of_ble_eq_true rfl⟩ hK hP hD hS hA rfl hl.1 rfl (Nat.le_of_ble_eq_true rfl) dX6_stamped_1 ⟨Nat.zero_le _, Nat.zero_le _⟩ (fun H locs hP hD hS => ?_)
  refine lv_if_eq (tgt := 27) hx hb dX6_stamped_4 (by decide) (fun c_4 => ?_) (fun c_4 => ?_)
  · refine lv_iconst (v := (-1 : Int32)) hx hb dX6_stamped_27 (by decide) ?_
    have E : (f_X6_stamped v p0 p1) = (-1 : Int32) := (if_pos c_4).trans rfl
    exact hret _ _ _ _ _ _ dX6_stamped_28 E.symm (rfl) rfl hP hD hS
  · refine lv_iload_n hx hb dX6_stamped_7 rfl (lv_at hl 2 rfl) ?_
    refine zcSi (n := 1) (As := [.int p1]) (rest := []) hx hb hml hown hts hN (m_X6_isPlace l g p1) gX6_stamped_X6_isPlace rfl (by decide +kernel) ⟨rfl, rfl⟩ ⟨Nat.le_of_ble_eq_true rfl, Nat.le_of_ble_eq_true rfl⟩ hK hP hD hS hA rfl hl.1 rfl (Nat.le_of_ble_eq_true rfl) dX6_stamped_8 ⟨Nat.zero_le _, Nat.zero_le _⟩ (fun H locs hP hD hS => ?_)
    refine lv_if_eq (tgt := 27) hx hb dX6_stamped_11 (by decide) (fun c_11 => ?_) (fun c_11 => ?_)
    · refine lv_iconst (v := (-1 : Int32)) hx hb dX6_stamped_27 (by decide) ?_
      have E : (f_X6_stamped v p0 p1) = (-1 : Int32) := (if_neg c_4).trans ((if_pos c_11).trans rfl)
      exact hret _ _ _ _ _ _ dX6_stamped_28 E.symm (rfl) rfl hP hD hS
    · refine lv_aload_n hx hb dX6_stamped_14 rfl (lv_at hl 0 rfl) ?_
      refine va_get (D := g.1) (ci := 6) (v := .ref (q 1)) (C := RX6) (T := TX6) (N := 12) hx hb hts (zin_X6_stamped_X6) hown hK hP 0 rfl rfl 0 (by decide) (hts (.fieldLink RX6 7 "PegClerksModel" "all" "[I") (by decide +kernel)) (fun _ h9 => h9) rfl dX6_stamped_15 ?_
      refine lv_iload_n hx hb dX6_stamped_18 rfl (lv_at hl 1 rfl) ?_
      refine lv_iload_n hx hb dX6_stamped_19 rfl (lv_at hl 2 rfl) ?_
      refine zcSi (n := 2) (As := [.int p0, .int p1]) (rest := [.ref (q 1)]) hx hb hml hown hts hN (m_X6_at l g p0 p1) gX6_stamped_X6_at rfl (by decide +kernel) ⟨rfl, rfl⟩ ⟨Nat.le_of_ble_eq_true rfl, Nat.le_of_ble_eq_true rfl⟩ hK hP hD hS hA rfl hl.1 rfl (Nat.le_of_ble_eq_true rfl) dX6_stamped_20 ⟨Nat.zero_le _, Nat.zero_le _⟩ (fun H locs hP hD hS => ?_)
      refine z_iald (f := (v.2 0)) (k := (f_X6_at p0 p1).toNatClampNeg) hx hb hK hP 1 0 rfl rfl (zin_at (zrow_iff.mp c_4) (zplace_iff.mp c_11)) rfl dX6_stamped_23 ?_
      refine lv_goto (tgt := 28) hx hb dX6_stamped_24 (by decide) ?_
      have E : (f_X6_stamped v p0 p1) = ((v.2 0) (f_X6_at p0 p1).toNatClampNeg) := (if_neg c_4).trans ((if_neg c_11).trans rfl)
      exact hret _ _ _ _ _ _ dX6_stamped_28 E.symm (rfl) rfl hP hD hS
theorem zin_st {x y : Int32} {k : Nat} (hx : vp_in x 6) (hy : y = nI k) (hk : k < 3) : vp_in (((16 : Int32) + ((6 : Int32) * y)) + x) 136 := by
  obtain ⟨r, hr, rfl⟩ := vp_in_of hx (by omega)
  subst hy
  rw [show (6 : Int32) = nI 6 from rfl, show (16 : Int32) = nI 16 from rfl, pk_mul, nI_add, nI_add]
  exact vp_in_nI (by omega) (by omega)
abbrev rm_X6_stamp : Room := { frames := 3, cells := 0, slots := 0, locals := 66 }
set_option maxRecDepth 20000 in
theorem zin_X6_stamp_X6 : ∀ w ∈ wsX60, w ∈ wsX6_stamp := by decide +kernel
def r_X6_stamp_61 (v : zCV) (p0 : Int32) : Int32 := (f_X6_pegsOf v p0)
def f_X6_stamp (v : zCV) (p0 : Int32) (p1 : Int32) : Int32 := if (f_X6_isPlace p0) = (0 : Int32) then ((-1 : Int32)) else (if p1 = (0 : Int32) then (((v.2 0) (((16 : Int32) + ((6 : Int32) * p1)) + p0).toNatClampNeg)) else (if p1 = (1 : Int32) then (((v.2 0) (((16 : Int32) + ((6 : Int32) * p1)) + p0).toNatClampNeg)) else (if p1 = (2 : Int32) then (((v.2 0) (((16 : Int32) + ((6 : Int32) * p1)) + p0).toNatClampNeg)) else (if p1 = (3 : Int32) then ((r_X6_stamp_61 v p0)) else (if p1 = (4 : Int32) then (((v.2 0) ((34 : Int32) + p0).toNatClampNeg)) else ((-2 : Int32)))))))
set_option maxRecDepth 100000 in
set_option maxHeartbeats 4000000 in
theorem m_X6_stamp (l : Launch) (g : zG) (q : Nat → Nat) (v : zCV) (p0 : Int32) (p1 : Int32) : ZI l yX6_stamp wsX6_stamp rm_X6_stamp g (mo g q v) [.ref (q 0), .int p0, .int p1] (f_X6_stamp v p0 p1) (mo g q v) := by
  refine zopenI (cc := cX6_stamp) (maxL := 3) (ret := .int) (by decide +kernel) rfl (Nat.le_of_ble_eq_true rfl) ?_
  intro p e s m below meth c A Q ls hx hb hml hown hts hP hK hD hA hN hl hret
  have hS : va_S A s.heap s.heap [] := va_S.rf
  have hl : lv_has ls 3 [(0, .ref (q 0)), (1, .int p0), (2, .int p1)] := hl
  have hown : s.vm.findClass RX6 = some m.cls := hown
  refine lv_iload_n hx hb dX6_stamp_0 rfl (lv_at hl 1 rfl) ?_
  refine zcSi (n := 1) (As := [.int p0]) (rest := []) hx hb hml hown hts hN (m_X6_isPlace l g p0) gX6_stamp_X6_isPlace rfl (by decide +kernel) ⟨rfl, rfl⟩ ⟨Nat.le_of_ble_eq_true rfl, Nat.le_of_ble_eq_true rfl⟩ hK hP hD hS hA rfl hl.1 rfl (Nat.le_of_ble_eq_true rfl) dX6_stamp_1 ⟨Nat.zero_le _, Nat.zero_le _⟩ (fun H locs hP hD hS => ?_)
  refine lv_if_ne (tgt := 9) hx hb dX6_stamp_4 (by decide) (fun c_4 => ?_) (fun c_4 => ?_)
  · refine lv_iload_n hx hb dX6_stamp_9 rfl (lv_at hl 2 rfl) ?_
    by_cases c_10_0 : p1 = (0 : Int32)
    · refine lv_tableIn (off := 34) (tgt := 44) hx hb dX6_stamp_10 (by rw [c_10_0]; decide) (by rw [c_10_0]; decide) (by rw [c_10_0]; rfl) (by decide) ?_
      refine lv_aload_n hx hb dX6_stamp_44 rfl (lv_at hl 0 rfl) ?_
      refine va_get (D := g.1) (ci := 6) (v := .ref (q 1)) (C := RX6) (T := TX6) (N := 12) hx hb hts (zin_X6_stamp_X6) hown hK hP 0 rfl rfl 0 (by decide) (hts (.fieldLink RX6 7 "PegClerksModel" "all" "[I") (by decide +kernel)) (fun _ h9 => h9) rfl dX6_stamp_45 ?_
      refine lv_bipush (v := (16 : Int32)) hx hb dX6_stamp_48 (by decide) ?_
      refine lv_bipush (v := (6 : Int32)) hx hb dX6_stamp_50 (by decide) ?_
      refine lv_iload_n hx hb dX6_stamp_52 rfl (lv_at hl 2 rfl) ?_
      refine lv_imul hx hb dX6_stamp_53 ?_
      refine lv_iadd hx hb dX6_stamp_54 ?_
      refine lv_iload_n hx hb dX6_stamp_55 rfl (lv_at hl 1 rfl) ?_
      refine lv_iadd hx hb dX6_stamp_56 ?_
      refine z_iald (f := (v.2 0)) (k := (((16 : Int32) + ((6 : Int32) * p1)) + p0).toNatClampNeg) hx hb hK hP 1 0 rfl rfl (zin_st (zplace_iff.mp c_4) (k := 0) c_10_0 (by omega)) rfl dX6_stamp_57 ?_
      have E : (f_X6_stamp v p0 p1) = ((v.2 0) (((16 : Int32) + ((6 : Int32) * p1)) + p0).toNatClampNeg) := (if_neg c_4).trans ((if_pos c_10_0).trans rfl)
      exact hret _ _ _ _ _ _ dX6_stamp_58 E.symm (rfl) rfl hP hD hS
    by_cases c_10_1 : p1 = (1 : Int32)
    · refine lv_tableIn (off := 34) (tgt := 44) hx hb dX6_stamp_10 (by rw [c_10_1]; decide) (by rw [c_10_1]; decide) (by rw [c_10_1]; rfl) (by decide) ?_
      refine lv_aload_n hx hb dX6_stamp_44 rfl (lv_at hl 0 rfl) ?_
      refine va_get (D := g.1) (ci := 6) (v := .ref (q 1)) (C := RX6) (T := TX6) (N := 12) hx hb hts (zin_X6_stamp_X6) hown hK hP 0 rfl rfl 0 (by decide) (hts (.fieldLink RX6 7 "PegClerksModel" "all" "[I") (by decide +kernel)) (fun _ h9 => h9) rfl dX6_stamp_45 ?_
      refine lv_bipush (v := (16 : Int32)) hx hb dX6_stamp_48 (by decide) ?_
      refine lv_bipush (v := (6 : Int32)) hx hb dX6_stamp_50 (by decide) ?_
      refine lv_iload_n hx hb dX6_stamp_52 rfl (lv_at hl 2 rfl) ?_
      refine lv_imul hx hb dX6_stamp_53 ?_
      refine lv_iadd hx hb dX6_stamp_54 ?_
      refine lv_iload_n hx hb dX6_stamp_55 rfl (lv_at hl 1 rfl) ?_
      refine lv_iadd hx hb dX6_stamp_56 ?_
      refine z_iald (f := (v.2 0)) (k := (((16 : Int32) + ((6 : Int32) * p1)) + p0).toNatClampNeg) hx hb hK hP 1 0 rfl rfl (zin_st (zplace_iff.mp c_4) (k := 1) c_10_1 (by omega)) rfl dX6_stamp_57 ?_
      have E : (f_X6_stamp v p0 p1) = ((v.2 0) (((16 : Int32) + ((6 : Int32) * p1)) + p0).toNatClampNeg) := (if_neg c_4).trans ((if_neg c_10_0).trans ((if_pos c_10_1).trans rfl))
      exact hret _ _ _ _ _ _ dX6_stamp_58 E.symm (rfl) rfl hP hD hS
    by_cases c_10_2 : p1 = (2 : Int32)
    · refine lv_tableIn (off := 34) (tgt := 44) hx hb dX6_stamp_10 (by rw [c_10_2]; decide) (by rw [c_10_2]; decide) (by rw [c_10_2]; rfl) (by decide) ?_
      refine lv_aload_n hx hb dX6_stamp_44 rfl (lv_at hl 0 rfl) ?_
      refine va_get (D := g.1) (ci := 6) (v := .ref (q 1)) (C := RX6) (T := TX6) (N := 12) hx hb hts (zin_X6_stamp_X6) hown hK hP 0 rfl rfl 0 (by decide) (hts (.fieldLink RX6 7 "PegClerksModel" "all" "[I") (by decide +kernel)) (fun _ h9 => h9) rfl dX6_stamp_45 ?_
      refine lv_bipush (v := (16 : Int32)) hx hb dX6_stamp_48 (by decide) ?_
      refine lv_bipush (v := (6 : Int32)) hx hb dX6_stamp_50 (by decide) ?_
      refine lv_iload_n hx hb dX6_stamp_52 rfl (lv_at hl 2 rfl) ?_
      refine lv_imul hx hb dX6_stamp_53 ?_
      refine lv_iadd hx hb dX6_stamp_54 ?_
      refine lv_iload_n hx hb dX6_stamp_55 rfl (lv_at hl 1 rfl) ?_
      refine lv_iadd hx hb dX6_stamp_56 ?_
      refine z_iald (f := (v.2 0)) (k := (((16 : Int32) + ((6 : Int32) * p1)) + p0).toNatClampNeg) hx hb hK hP 1 0 rfl rfl (zin_st (zplace_iff.mp c_4) (k := 2) c_10_2 (by omega)) rfl dX6_stamp_57 ?_
      have E : (f_X6_stamp v p0 p1) = ((v.2 0) (((16 : Int32) + ((6 : Int32) * p1)) + p0).toNatClampNeg) := (if_neg c_4).trans ((if_neg c_10_0).trans ((if_neg c_10_1).trans ((if_pos c_10_2).trans rfl)))
      exact hret _ _ _ _ _ _ dX6_stamp_58 E.symm (rfl) rfl hP hD hS
    by_cases c_10_3 : p1 = (3 : Int32)
    · refine lv_tableIn (off := 49) (tgt := 59) hx hb dX6_stamp_10 (by rw [c_10_3]; decide) (by rw [c_10_3]; decide) (by rw [c_10_3]; rfl) (by decide) ?_
      refine lv_aload_n hx hb dX6_stamp_59 rfl (lv_at hl 0 rfl) ?_
      refine lv_iload_n hx hb dX6_stamp_60 rfl (lv_at hl 1 rfl) ?_
      refine zcVi (n := 1) (As := [.int p0]) (rest := []) (Xr := []) (Xn := (mo g q v)) (ci := 6) (C := RX6) (T := TX6) (N := 12) (q0 := 0) hx hb hml hown hts hN (m_X6_pegsOf l g q v p0 (zplace_iff.mp c_4)) gX6_stamp_X6_pegsOf rfl (by decide +kernel) ⟨rfl, rfl⟩ ⟨Nat.le_of_ble_eq_true rfl, Nat.le_of_ble_eq_true rfl⟩ hK hP hD hS hA (zpn _) rfl rfl rfl hl.1 rfl (Nat.le_of_ble_eq_true rfl) dX6_stamp_61 ⟨Nat.zero_le _, Nat.zero_le _⟩ (zpn' _) (fun H locs hP hD hS => ?_)
      have E : (f_X6_stamp v p0 p1) = (r_X6_stamp_61 v p0) := (if_neg c_4).trans ((if_neg c_10_0).trans ((if_neg c_10_1).trans ((if_neg c_10_2).trans ((if_pos c_10_3).trans rfl))))
      exact hret _ _ _ _ _ _ dX6_stamp_64 E.symm (rfl) rfl hP hD hS
    by_cases c_10_4 : p1 = (4 : Int32)
    · refine lv_tableIn (off := 55) (tgt := 65) hx hb dX6_stamp_10 (by rw [c_10_4]; decide) (by rw [c_10_4]; decide) (by rw [c_10_4]; rfl) (by decide) ?_
      refine lv_aload_n hx hb dX6_stamp_65 rfl (lv_at hl 0 rfl) ?_
      refine va_get (D := g.1) (ci := 6) (v := .ref (q 1)) (C := RX6) (T := TX6) (N := 12) hx hb hts (zin_X6_stamp_X6) hown hK hP 0 rfl rfl 0 (by decide) (hts (.fieldLink RX6 7 "PegClerksModel" "all" "[I") (by decide +kernel)) (fun _ h9 => h9) rfl dX6_stamp_66 ?_
      refine lv_bipush (v := (34 : Int32)) hx hb dX6_stamp_69 (by decide) ?_
      refine lv_iload_n hx hb dX6_stamp_71 rfl (lv_at hl 1 rfl) ?_
      refine lv_iadd hx hb dX6_stamp_72 ?_
      refine z_iald (f := (v.2 0)) (k := ((34 : Int32) + p0).toNatClampNeg) hx hb hK hP 1 0 rfl rfl (zin_add (c := 34) (k := 6) rfl (zplace_iff.mp c_4) (by omega) (by omega)) rfl dX6_stamp_73 ?_
      have E : (f_X6_stamp v p0 p1) = ((v.2 0) ((34 : Int32) + p0).toNatClampNeg) := (if_neg c_4).trans ((if_neg c_10_0).trans ((if_neg c_10_1).trans ((if_neg c_10_2).trans ((if_neg c_10_3).trans ((if_pos c_10_4).trans rfl)))))
      exact hret _ _ _ _ _ _ dX6_stamp_74 E.symm (rfl) rfl hP hD hS
    refine lv_tableOut (tgt := 75) hx hb dX6_stamp_10 (zsw5 (lv_neT c_10_0 (a := 0) (by decide)) (lv_neT c_10_1 (a := 1) (by decide)) (lv_neT c_10_2 (a := 2) (by decide)) (lv_neT c_10_3 (a := 3) (by decide)) (lv_neT c_10_4 (a := 4) (by decide))) (by decide) ?_
    refine lv_bipush (v := (-2 : Int32)) hx hb dX6_stamp_75 (by decide) ?_
    have E : (f_X6_stamp v p0 p1) = (-2 : Int32) := (if_neg c_4).trans ((if_neg c_10_0).trans ((if_neg c_10_1).trans ((if_neg c_10_2).trans ((if_neg c_10_3).trans ((if_neg c_10_4).trans rfl)))))
    exact hret _ _ _ _ _ _ dX6_stamp_77 E.symm (rfl) rfl hP hD hS
  · refine lv_iconst (v := (-1 : Int32)) hx hb dX6_stamp_7 (by decide) ?_
    have E : (f_X6_stamp v p0 p1) = (-1 : Int32) := (if_pos c_4).trans rfl
    exact hret _ _ _ _ _ _ dX6_stamp_8 E.symm (rfl) rfl hP hD hS
theorem zin_cnt {x : Int32} (h : ¬ f_X6_in x.toInt64 0 14 = (0 : Int32)) : vp_in x 136 := by
  have h1 := (zin_i (A := 0) (B := 14) rfl rfl).mp h
  exact vp_in_iff.mpr (by omega)
abbrev rm_X6_count : Room := { frames := 4, cells := 0, slots := 0, locals := 88 }
set_option maxRecDepth 20000 in
theorem zin_X6_count_X6 : ∀ w ∈ wsX60, w ∈ wsX6_count := by decide +kernel
def r_X6_count_37 (v : zCV) : Int32 := (f_X6_pegs v)
def r_X6_count_50 (v : zCV) : Int32 := (f_X6_marks v)
def f_X6_count (v : zCV) (p0 : Int32) : Int32 := if p0 = (15 : Int32) then ((r_X6_count_37 v)) else (if p0 = (16 : Int32) then (((v.2 0) 15)) else (if p0 = (17 : Int32) then ((r_X6_count_50 v)) else (if p0 = (18 : Int32) then ((v.1 1)) else (if p0 = (19 : Int32) then ((v.1 0)) else (if (f_X6_in (p0.toInt64) (0 : Int64) (14 : Int64)) = (0 : Int32) then ((-2 : Int32)) else (((v.2 0) p0.toNatClampNeg)))))))
set_option maxRecDepth 100000 in
set_option maxHeartbeats 4000000 in
theorem m_X6_count (l : Launch) (g : zG) (q : Nat → Nat) (v : zCV) (p0 : Int32) : ZI l yX6_count wsX6_count rm_X6_count g (mo g q v) [.ref (q 0), .int p0] (f_X6_count v p0) (mo g q v) := by
  refine zopenI (cc := cX6_count) (maxL := 2) (ret := .int) (by decide +kernel) rfl (Nat.le_of_ble_eq_true rfl) ?_
  intro p e s m below meth c A Q ls hx hb hml hown hts hP hK hD hA hN hl hret
  have hS : va_S A s.heap s.heap [] := va_S.rf
  have hl : lv_has ls 2 [(0, .ref (q 0)), (1, .int p0)] := hl
  have hown : s.vm.findClass RX6 = some m.cls := hown
  refine lv_iload_n hx hb dX6_count_0 rfl (lv_at hl 1 rfl) ?_
  by_cases c_1_15 : p0 = (15 : Int32)
  · refine lv_tableIn (off := 35) (tgt := 36) hx hb dX6_count_1 (by rw [c_1_15]; decide) (by rw [c_1_15]; decide) (by rw [c_1_15]; rfl) (by decide) ?_
    refine lv_aload_n hx hb dX6_count_36 rfl (lv_at hl 0 rfl) ?_
    refine zcVi (n := 0) (As := []) (rest := []) (Xr := []) (Xn := (mo g q v)) (ci := 6) (C := RX6) (T := TX6) (N := 12) (q0 := 0) hx hb hml hown hts hN (m_X6_pegs l g q v ) gX6_count_X6_pegs rfl (by decide +kernel) ⟨rfl, rfl⟩ ⟨Nat.le_of_ble_eq_true rfl, Nat.le_of_ble_eq_true rfl⟩ hK hP hD hS hA (zpn _) rfl rfl rfl hl.1 rfl (Nat.le_of_ble_eq_true rfl) dX6_count_37 ⟨Nat.zero_le _, Nat.zero_le _⟩ (zpn' _) (fun H locs hP hD hS => ?_)
    have E : (f_X6_count v p0) = (r_X6_count_37 v) := (if_pos c_1_15).trans rfl
    exact hret _ _ _ _ _ _ dX6_count_40 E.symm (rfl) rfl hP hD hS
  by_cases c_1_16 : p0 = (16 : Int32)
  · refine lv_tableIn (off := 40) (tgt := 41) hx hb dX6_count_1 (by rw [c_1_16]; decide) (by rw [c_1_16]; decide) (by rw [c_1_16]; rfl) (by decide) ?_
    refine lv_aload_n hx hb dX6_count_41 rfl (lv_at hl 0 rfl) ?_
    refine va_get (D := g.1) (ci := 6) (v := .ref (q 1)) (C := RX6) (T := TX6) (N := 12) hx hb hts (zin_X6_count_X6) hown hK hP 0 rfl rfl 0 (by decide) (hts (.fieldLink RX6 7 "PegClerksModel" "all" "[I") (by decide +kernel)) (fun _ h9 => h9) rfl dX6_count_42 ?_
    refine lv_bipush (v := (15 : Int32)) hx hb dX6_count_45 (by decide) ?_
    refine z_iald (f := (v.2 0)) (k := 15) hx hb hK hP 1 0 rfl rfl (zlit (15 : Int32) 136 (by decide +kernel)) (by decide +kernel) dX6_count_47 ?_
    have E : (f_X6_count v p0) = ((v.2 0) 15) := (if_neg c_1_15).trans ((if_pos c_1_16).trans rfl)
    exact hret _ _ _ _ _ _ dX6_count_48 E.symm (rfl) rfl hP hD hS
  by_cases c_1_17 : p0 = (17 : Int32)
  · refine lv_tableIn (off := 48) (tgt := 49) hx hb dX6_count_1 (by rw [c_1_17]; decide) (by rw [c_1_17]; decide) (by rw [c_1_17]; rfl) (by decide) ?_
    refine lv_aload_n hx hb dX6_count_49 rfl (lv_at hl 0 rfl) ?_
    refine zcVi (n := 0) (As := []) (rest := []) (Xr := []) (Xn := (mo g q v)) (ci := 6) (C := RX6) (T := TX6) (N := 12) (q0 := 0) hx hb hml hown hts hN (m_X6_marks l g q v ) gX6_count_X6_marks rfl (by decide +kernel) ⟨rfl, rfl⟩ ⟨Nat.le_of_ble_eq_true rfl, Nat.le_of_ble_eq_true rfl⟩ hK hP hD hS hA (zpn _) rfl rfl rfl hl.1 rfl (Nat.le_of_ble_eq_true rfl) dX6_count_50 ⟨Nat.zero_le _, Nat.zero_le _⟩ (zpn' _) (fun H locs hP hD hS => ?_)
    have E : (f_X6_count v p0) = (r_X6_count_50 v) := (if_neg c_1_15).trans ((if_neg c_1_16).trans ((if_pos c_1_17).trans rfl))
    exact hret _ _ _ _ _ _ dX6_count_53 E.symm (rfl) rfl hP hD hS
  by_cases c_1_18 : p0 = (18 : Int32)
  · refine lv_tableIn (off := 53) (tgt := 54) hx hb dX6_count_1 (by rw [c_1_18]; decide) (by rw [c_1_18]; decide) (by rw [c_1_18]; rfl) (by decide) ?_
    refine lv_aload_n hx hb dX6_count_54 rfl (lv_at hl 0 rfl) ?_
    refine va_get (D := g.1) (ci := 6) (v := .int (v.1 1)) (C := RX6) (T := TX6) (N := 12) hx hb hts (zin_X6_count_X6) hown hK hP 0 rfl rfl 7 (by decide) (hts (.fieldLink RX6 121 "PegClerksModel" "textLong" "I") (by decide +kernel)) (fun _ h9 => h9) rfl dX6_count_55 ?_
    have E : (f_X6_count v p0) = (v.1 1) := (if_neg c_1_15).trans ((if_neg c_1_16).trans ((if_neg c_1_17).trans ((if_pos c_1_18).trans rfl)))
    exact hret _ _ _ _ _ _ dX6_count_58 E.symm (rfl) rfl hP hD hS
  by_cases c_1_19 : p0 = (19 : Int32)
  · refine lv_tableIn (off := 58) (tgt := 59) hx hb dX6_count_1 (by rw [c_1_19]; decide) (by rw [c_1_19]; decide) (by rw [c_1_19]; rfl) (by decide) ?_
    refine lv_aload_n hx hb dX6_count_59 rfl (lv_at hl 0 rfl) ?_
    refine va_get (D := g.1) (ci := 6) (v := .int (v.1 0)) (C := RX6) (T := TX6) (N := 12) hx hb hts (zin_X6_count_X6) hown hK hP 0 rfl rfl 3 (by decide) (hts (.fieldLink RX6 34 "PegClerksModel" "historyLong" "I") (by decide +kernel)) (fun _ h9 => h9) rfl dX6_count_60 ?_
    have E : (f_X6_count v p0) = (v.1 0) := (if_neg c_1_15).trans ((if_neg c_1_16).trans ((if_neg c_1_17).trans ((if_neg c_1_18).trans ((if_pos c_1_19).trans rfl))))
    exact hret _ _ _ _ _ _ dX6_count_63 E.symm (rfl) rfl hP hD hS
  refine lv_tableOut (tgt := 64) hx hb dX6_count_1 (zsw5 (lv_neT c_1_15 (a := 15) (by decide)) (lv_neT c_1_16 (a := 16) (by decide)) (lv_neT c_1_17 (a := 17) (by decide)) (lv_neT c_1_18 (a := 18) (by decide)) (lv_neT c_1_19 (a := 19) (by decide))) (by decide) ?_
  refine lv_iload_n hx hb dX6_count_64 rfl (lv_at hl 1 rfl) ?_
  refine lv_i2l hx hb dX6_count_65 rfl ?_
  refine lv_lconst (v := (0 : Int64)) hx hb dX6_count_66 (by decide) ?_
  refine lv_ldc2 (v := (14 : Int64)) hx hb hown (hts (.constantLong RX6 124 (14)) (by decide +kernel)) dX6_count_67 ?_
  refine zcSi (n := 3) (As := [.long (p0.toInt64), .long (0 : Int64), .long (14 : Int64)]) (rest := []) hx hb hml hown hts hN (m_X6_in l g (p0.toInt64) (0 : Int64) (14 : Int64)) gX6_count_X6_in rfl (by decide +kernel) ⟨rfl, rfl⟩ ⟨Nat.le_of_ble_eq_true rfl, Nat.le_of_ble_eq_true rfl⟩ hK hP hD hS hA rfl hl.1 rfl (Nat.le_of_ble_eq_true rfl) dX6_count_70 ⟨Nat.zero_le _, Nat.zero_le _⟩ (fun H locs hP hD hS => ?_)
  refine lv_if_eq (tgt := 85) hx hb dX6_count_73 (by decide) (fun c_73 => ?_) (fun c_73 => ?_)
  · refine lv_bipush (v := (-2 : Int32)) hx hb dX6_count_85 (by decide) ?_
    have E : (f_X6_count v p0) = (-2 : Int32) := (if_neg c_1_15).trans ((if_neg c_1_16).trans ((if_neg c_1_17).trans ((if_neg c_1_18).trans ((if_neg c_1_19).trans ((if_pos c_73).trans rfl)))))
    exact hret _ _ _ _ _ _ dX6_count_87 E.symm (rfl) rfl hP hD hS
  · refine lv_aload_n hx hb dX6_count_76 rfl (lv_at hl 0 rfl) ?_
    refine va_get (D := g.1) (ci := 6) (v := .ref (q 1)) (C := RX6) (T := TX6) (N := 12) hx hb hts (zin_X6_count_X6) hown hK hP 0 rfl rfl 0 (by decide) (hts (.fieldLink RX6 7 "PegClerksModel" "all" "[I") (by decide +kernel)) (fun _ h9 => h9) rfl dX6_count_77 ?_
    refine lv_iload_n hx hb dX6_count_80 rfl (lv_at hl 1 rfl) ?_
    refine z_iald (f := (v.2 0)) (k := p0.toNatClampNeg) hx hb hK hP 1 0 rfl rfl (zin_cnt c_73) rfl dX6_count_81 ?_
    refine lv_goto (tgt := 87) hx hb dX6_count_82 (by decide) ?_
    have E : (f_X6_count v p0) = ((v.2 0) p0.toNatClampNeg) := (if_neg c_1_15).trans ((if_neg c_1_16).trans ((if_neg c_1_17).trans ((if_neg c_1_18).trans ((if_neg c_1_19).trans ((if_neg c_73).trans rfl)))))
    exact hret _ _ _ _ _ _ dX6_count_87 E.symm (rfl) rfl hP hD hS
