theorem zfault_L : ∀ (n : Nat) (v : zCV) (x : Int32) (w : zCV), zFI x w → 62 ≤ n + (w.1 2).toNatClampNeg → (f_X6_fault_L12 v n x w).2.1 0 = w.1 0 ∧ (f_X6_fault_L12 v n x w).2.1 1 = w.1 1 ∧ (∀ i, i ≠ 6 → i ≠ 7 → (f_X6_fault_L12 v n x w).2.2 i = w.2 i) ∧ vp_in ((f_X6_fault_L12 v n x w).2.1 2) 61 ∧ ((f_X6_fault_L12 v n x w).1 = (-6 : Int32) → vp_in ((f_X6_fault_L12 v n x w).2.1 3) 22 ∧ ∀ k : Nat, k < ((f_X6_fault_L12 v n x w).2.1 3).toNatClampNeg → vp_in ((f_X6_fault_L12 v n x w).2.2 6 k) 16)
  | 0, v, x, w, hfi, hfu => absurd hfu (by have h7 := vp_in_iff.mp hfi.1; have h8 := zclamp (w.1 2); omega)
  | n + 1, v, x, w, hfi, hfu => by
    have hn6 : ∀ y : Int32, vp_in y 61 → ¬ y = (-6 : Int32) := fun y hy e => by
      have h1 := vp_in_iff.mp hy
      rw [e] at h1
      exact absurd h1.1 (by decide)
    unfold f_X6_fault_L12
    split
    · split
      · exact ⟨rfl, rfl, fun _ _ _ => rfl, hfi.1, fun _ => ⟨hfi.2.2.2.1, hfi.2.2.1⟩⟩
      · exact ⟨rfl, rfl, fun _ _ _ => rfl, hfi.1, fun e => absurd e (hn6 _ hfi.1)⟩
    · rename_i cx
      obtain ⟨a, b, c0, d⟩ := zrr_spec hfi.1 hfi.2.1
      split
      · rename_i c
        rcases d with ⟨d1, d2, d3⟩ | ⟨d1, -⟩
        · exact ⟨c0, b, fun i _ _ => congrFun d3 i, a, fun e => absurd e (hn6 _ a)⟩
        · exact absurd (d1.symm.trans c) (by decide)
      · rename_i c
        obtain ⟨g1, g2⟩ := zFI_step hfi cx c
        obtain ⟨i0, i1, i2, i3, i4⟩ := zfault_L n v (r_X6_fault_31 w).1 (r_X6_fault_31 w).2 g1 (by show 62 ≤ n + ((f_X6_takesOne (f_X6_readsRow w).2 (59 : Int32)).2.1 2).toNatClampNeg; omega)
        have t1 : ∀ k, k ≠ 2 → (r_X6_fault_31 w).2.1 k = (f_X6_readsRow w).2.1 k := fun k hk => e1_takes _ _ k hk
        have t2 : (r_X6_fault_31 w).2.2 = (f_X6_readsRow w).2.2 := e2_takes _ _
        refine ⟨i0.trans ((t1 0 (by omega)).trans c0), i1.trans ((t1 1 (by omega)).trans b), fun i h6 h7 => (i2 i h6 h7).trans ?_, i3, i4⟩
        rw [t2]
        rcases d with ⟨d1, -⟩ | ⟨-, -, -, row, st, -, d5⟩
        · exact absurd d1 c
        · rw [d5]
          show (zA (zA w 6 _) 7 _).2 i = _
          rw [zA_ne _ _ h7, zA_ne _ _ h6]
theorem zfault_spec {v : zCV} (ht : vp_in (v.1 1) 61) : (f_X6_fault v).2.1 0 = v.1 0 ∧ (f_X6_fault v).2.1 1 = v.1 1 ∧ (∀ i, i ≠ 6 → i ≠ 7 → (f_X6_fault v).2.2 i = v.2 i) ∧ vp_in ((f_X6_fault v).2.1 2) 61 ∧ ((f_X6_fault v).1 = (-6 : Int32) → vp_in ((f_X6_fault v).2.1 3) 22 ∧ ∀ k : Nat, k < ((f_X6_fault v).2.1 3).toNatClampNeg → vp_in ((f_X6_fault v).2.2 6 k) 16) :=
  zfault_L (zfu 62) v (1 : Int32) (s_X6_fault_7 v) (zFI_0 ht) (by rw [zfu_eq]; omega)
theorem zrd1 {t : Int32} {i n : Nat} (ht : vp_in t 22) (e : i + (n + 1) = (((6 : Int32) * t)).toNatClampNeg) : vp_in ((nI i) / (6 : Int32)) 31 ∧ ((nI i) / (6 : Int32)).toNatClampNeg < t.toNatClampNeg ∧ vp_in ((nI i) - (((nI i) / (6 : Int32)) * (6 : Int32))) 6 := by
  obtain ⟨k, hk, rfl⟩ := vp_in_of ht (by omega)
  rw [show (6 : Int32) = nI 6 from rfl, pk_mul, nI_clamp (by omega)] at e
  rw [show (6 : Int32) = nI 6 from rfl, pk_rem (by omega) (by omega) (by omega), pk_div (by omega) (by omega) (by omega), nI_clamp (by omega), nI_clamp (by omega)]
  exact ⟨vp_in_nI (by omega) (by omega), by omega, vp_in_nI (by omega) (by omega)⟩
theorem zrd0 {v : zCV} (ht : vp_in (v.1 1) 61) (hh : vp_in (v.1 0) 7) : vp_in ((f_X6_fault v).2.1 0) 7 := by rw [(zfault_spec ht).1]; exact hh
abbrev rm_X6_read : Room := { frames := 5, cells := 0, slots := 0, locals := 113 }
set_option maxRecDepth 20000 in
theorem zin_X6_read_X6 : ∀ w ∈ wsX60, w ∈ wsX6_read := by decide +kernel
def r_X6_read_1 (v : zCV) : Int32 × zCV := (f_X6_fault v)
def s_X6_read_13 (v : zCV) : zCV := (f_X6_changes (r_X6_read_1 v).2)
def s_X6_read_107 (i18 : Nat) (w18_0 : zCV) : zCV := zA w18_0 0 (upd (w18_0.2 0) (f_X6_at ((w18_0.2 6) ((nI i18) / (6 : Int32)).toNatClampNeg) ((nI i18) - (((nI i18) / (6 : Int32)) * (6 : Int32)))).toNatClampNeg ((w18_0.2 0) (f_X6_at ((w18_0.2 6) ((nI i18) / (6 : Int32)).toNatClampNeg) ((nI i18) - (((nI i18) / (6 : Int32)) * (6 : Int32)))).toNatClampNeg))
def s_X6_read_107_2 (i18 : Nat) (w18_0 : zCV) : zCV := zA w18_0 0 (upd (w18_0.2 0) (f_X6_at ((w18_0.2 6) ((nI i18) / (6 : Int32)).toNatClampNeg) ((nI i18) - (((nI i18) / (6 : Int32)) * (6 : Int32)))).toNatClampNeg (0 : Int32))
def s_X6_read_107_3 (i18 : Nat) (w18_0 : zCV) : zCV := zA w18_0 0 (upd (w18_0.2 0) (f_X6_at ((w18_0.2 6) ((nI i18) / (6 : Int32)).toNatClampNeg) ((nI i18) - (((nI i18) / (6 : Int32)) * (6 : Int32)))).toNatClampNeg (-6 : Int32))
def f_X6_read_L18  : Nat → Nat → zCV → zCV
  | 0, i18, w18_0 => w18_0
  | n18 + 1, i18, w18_0 => if ((((w18_0.2 7) ((nI i18) / (6 : Int32)).toNatClampNeg) >>> (((nI i18) - (((nI i18) / (6 : Int32)) * (6 : Int32))) &&& 31)) &&& (1 : Int32)) = (1 : Int32) then (if (1 : Int32) = (0 : Int32) then ((f_X6_read_L18 n18 (i18 + 1) (s_X6_read_107_3 i18 w18_0))) else (if ((w18_0.2 0) (f_X6_at ((w18_0.2 6) ((nI i18) / (6 : Int32)).toNatClampNeg) ((nI i18) - (((nI i18) / (6 : Int32)) * (6 : Int32)))).toNatClampNeg) = (-6 : Int32) then ((f_X6_read_L18 n18 (i18 + 1) (s_X6_read_107_2 i18 w18_0))) else ((f_X6_read_L18 n18 (i18 + 1) (s_X6_read_107 i18 w18_0))))) else (if (0 : Int32) = (0 : Int32) then ((f_X6_read_L18 n18 (i18 + 1) (s_X6_read_107_3 i18 w18_0))) else (if ((w18_0.2 0) (f_X6_at ((w18_0.2 6) ((nI i18) / (6 : Int32)).toNatClampNeg) ((nI i18) - (((nI i18) / (6 : Int32)) * (6 : Int32)))).toNatClampNeg) = (-6 : Int32) then ((f_X6_read_L18 n18 (i18 + 1) (s_X6_read_107_2 i18 w18_0))) else ((f_X6_read_L18 n18 (i18 + 1) (s_X6_read_107 i18 w18_0)))))
def s_X6_read_116 (v : zCV) : zCV := zS (f_X6_read_L18 (zfu ((6 : Int32) * ((s_X6_read_13 v).1 3)).toNatClampNeg) 0 (s_X6_read_13 v)) 1 (0 : Int32)
def r_X6_read_120 (v : zCV) : Int32 := (f_X6_pegs (s_X6_read_116 v))
def f_X6_read (v : zCV) : Int32 × zCV := if ((r_X6_read_1 v).1) = (-6 : Int32) then (((r_X6_read_120 v), (s_X6_read_116 v))) else (((-3 : Int32), (r_X6_read_1 v).2))
theorem zrd2 {v : zCV} (ht : vp_in (v.1 1) 61) (c : (r_X6_read_1 v).1 = (-6 : Int32)) : vp_in ((s_X6_read_13 v).1 3) 22 ∧ ∀ k : Nat, k < ((s_X6_read_13 v).1 3).toNatClampNeg → vp_in ((s_X6_read_13 v).2 6 k) 16 := by
  have h := (zfault_spec ht).2.2.2.2 c
  have e1 : (s_X6_read_13 v).1 3 = (f_X6_fault v).2.1 3 := e1_changes _ 3 (by omega)
  have e2 : (s_X6_read_13 v).2 6 = (f_X6_fault v).2.2 6 := e2_changes _ 6 (by omega)
  rw [e1, e2]
  exact h
set_option maxRecDepth 100000 in
set_option maxHeartbeats 4000000 in
theorem m_X6_read (l : Launch) (g : zG) (q : Nat → Nat) (v : zCV) (ht : vp_in (v.1 1) 61) (hh : vp_in (v.1 0) 7) : ZI l yX6_read wsX6_read rm_X6_read g (mo g q v) [.ref (q 0)] (f_X6_read v).1 (mo g q (f_X6_read v).2) := by
  refine zopenI (cc := cX6_read) (maxL := 4) (ret := .int) (by decide +kernel) rfl (Nat.le_of_ble_eq_true rfl) ?_
  intro p e s m below meth c A Q ls hx hb hml hown hts hP hK hD hA hN hl hret
  have hS : va_S A s.heap s.heap [] := va_S.rf
  have hl : lv_has ls 4 [(0, .ref (q 0))] := hl
  have hown : s.vm.findClass RX6 = some m.cls := hown
  refine lv_aload_n hx hb dX6_read_0 rfl (lv_at hl 0 rfl) ?_
  refine zcVi (n := 0) (As := []) (rest := []) (Xr := []) (Xn := (mo g q (r_X6_read_1 v).2)) (ci := 6) (C := RX6) (T := TX6) (N := 12) (q0 := 0) hx hb hml hown hts hN (m_X6_fault l g q v ht) gX6_read_X6_fault rfl (by decide +kernel) ⟨rfl, rfl⟩ ⟨Nat.le_of_ble_eq_true rfl, Nat.le_of_ble_eq_true rfl⟩ hK hP hD hS hA (zpn _) rfl rfl rfl hl.1 rfl (Nat.le_of_ble_eq_true rfl) dX6_read_1 ⟨Nat.zero_le _, Nat.zero_le _⟩ (zpn' _) (fun H locs hP hD hS => ?_)
  refine lv_bipush (v := (-6 : Int32)) hx hb dX6_read_4 (by decide) ?_
  refine lv_icmp_eq (tgt := 12) hx hb dX6_read_6 (by decide) (fun c_6 => ?_) (fun c_6 => ?_)
  · refine lv_aload_n hx hb dX6_read_12 rfl (lv_at hl 0 rfl) ?_
    refine zcVv (n := 0) (As := []) (rest := []) (Xr := []) (Xn := (mo g q (s_X6_read_13 v))) (ci := 6) (C := RX6) (T := TX6) (N := 12) (q0 := 0) hx hb hml hown hts hN (m_X6_changes l g q (r_X6_read_1 v).2 (zrd0 ht hh)) gX6_read_X6_changes rfl (by decide +kernel) ⟨rfl, rfl⟩ ⟨Nat.le_of_ble_eq_true rfl, Nat.le_of_ble_eq_true rfl⟩ hK hP hD hS hA (zpn _) rfl rfl rfl hl.1 rfl (Nat.le_of_ble_eq_true rfl) dX6_read_13 ⟨Nat.zero_le _, Nat.zero_le _⟩ (zpn' _) (fun H locs hP hD hS => ?_)
    refine lv_iconst (v := (0 : Int32)) hx hb dX6_read_16 (by decide) ?_
    refine lv_istore_n (lv' := [(1, .int (0 : Int32)), (0, .ref (q 0))]) hx hb dX6_read_17 rfl hl (by decide) rfl (fun ls hl => ?_)
    have L18 : ∀ (n18 : Nat) (i18 : Nat), i18 + n18 = ((6 : Int32) * ((s_X6_read_13 v).1 3)).toNatClampNeg → ∀ (w18_0 : zCV) (H : Heap) (locs : List Loc) (ls : Array Slot), zFr 0 (s_X6_read_13 v) w18_0 → va_P g.1 vwCl (mo g q w18_0) H → va_D A (mo g q w18_0) → va_S A s.heap H locs → lv_has ls 4 [(1, .int (nI i18)), (0, .ref (q 0))] → (∀ (H : Heap) (locs : List Loc) (ls : Array Slot), va_P g.1 vwCl (mo g q (f_X6_read_L18 n18 i18 w18_0)) H → va_D A (mo g q (f_X6_read_L18 n18 i18 w18_0)) → va_S A s.heap H locs → lv_has ls 4 [(0, .ref (q 0))] → W p l e rm_X6_read s m ([.ref (q 0)] : List Value).toArray below meth c H locs 0 0 Q (F0 m 114 ls [])) → W p l e rm_X6_read s m ([.ref (q 0)] : List Value).toArray below meth c H locs 0 0 Q (F0 m 18 ls []) := by
      intro n18
      induction n18 with
      | zero =>
        intro i18 hin18 w18_0 H locs ls hf hP hD hS hl kx
        refine lv_iload_n hx hb dX6_read_18 rfl (lv_at hl 0 rfl) ?_
        refine lv_bipush (v := (6 : Int32)) hx hb dX6_read_19 (by decide) ?_
        refine lv_aload_n hx hb dX6_read_21 rfl (lv_at hl 1 rfl) ?_
        refine va_get (D := g.1) (ci := 6) (v := .int (w18_0.1 3)) (C := RX6) (T := TX6) (N := 12) hx hb hts (zin_X6_read_X6) hown hK hP 0 rfl rfl 11 (by decide) (hts (.fieldLink RX6 156 "PegClerksModel" "told" "I") (by decide +kernel)) (fun _ h9 => h9) rfl dX6_read_22 ?_
        refine lv_imul hx hb dX6_read_25 ?_
        refine lv_icmp_ge (tgt := 114) hx hb dX6_read_26 (by decide) (fun c_26 => ?_) (fun c_26 => ?_)
        rotate_left
        · exact absurd (by rw [hf.1]; exact zge0 (by omega)) c_26
        have E : (f_X6_read_L18 0 i18 w18_0) = w18_0 := rfl
        rw [E] at kx
        exact kx _ _ _ hP hD hS (lv_sub hl [1] rfl)
      | succ n18 ih18 =>
        intro i18 hin18 w18_0 H locs ls hf hP hD hS hl kx
        obtain ⟨hq1, hq2, hq3⟩ := zrd1 (zrd2 ht c_6).1 hin18; have hq4 : vp_in ((w18_0.2 6) ((nI i18) / (6 : Int32)).toNatClampNeg) 16 := by (rw [hf.2 6 (by decide)]; exact (zrd2 ht c_6).2 _ hq2)
        refine lv_iload_n hx hb dX6_read_18 rfl (lv_at hl 0 rfl) ?_
        refine lv_bipush (v := (6 : Int32)) hx hb dX6_read_19 (by decide) ?_
        refine lv_aload_n hx hb dX6_read_21 rfl (lv_at hl 1 rfl) ?_
        refine va_get (D := g.1) (ci := 6) (v := .int (w18_0.1 3)) (C := RX6) (T := TX6) (N := 12) hx hb hts (zin_X6_read_X6) hown hK hP 0 rfl rfl 11 (by decide) (hts (.fieldLink RX6 156 "PegClerksModel" "told" "I") (by decide +kernel)) (fun _ h9 => h9) rfl dX6_read_22 ?_
        refine lv_imul hx hb dX6_read_25 ?_
        refine lv_icmp_ge (tgt := 114) hx hb dX6_read_26 (by decide) (fun c_26 => ?_) (fun c_26 => ?_)
        · exact absurd c_26 (by rw [hf.1]; exact zge1 (by omega))
        refine lv_aload_n hx hb dX6_read_29 rfl (lv_at hl 1 rfl) ?_
        refine va_get (D := g.1) (ci := 6) (v := .ref (q 7)) (C := RX6) (T := TX6) (N := 12) hx hb hts (zin_X6_read_X6) hown hK hP 0 rfl rfl 9 (by decide) (hts (.fieldLink RX6 28 "PegClerksModel" "toldRows" "[I") (by decide +kernel)) (fun _ h9 => h9) rfl dX6_read_30 ?_
        refine lv_iload_n hx hb dX6_read_33 rfl (lv_at hl 0 rfl) ?_
        refine lv_bipush (v := (6 : Int32)) hx hb dX6_read_34 (by decide) ?_
        refine lv_idiv hx hb dX6_read_36 (by decide) ?_
        refine z_iald (f := (w18_0.2 6)) (k := ((nI i18) / (6 : Int32)).toNatClampNeg) hx hb hK hP 7 0 rfl rfl hq1 rfl dX6_read_37 ?_
        refine lv_iload_n hx hb dX6_read_38 rfl (lv_at hl 0 rfl) ?_
        refine lv_bipush (v := (6 : Int32)) hx hb dX6_read_39 (by decide) ?_
        refine lv_irem hx hb dX6_read_41 (by decide) ?_
        refine zcSi (n := 2) (As := [.int ((w18_0.2 6) ((nI i18) / (6 : Int32)).toNatClampNeg), .int ((nI i18) - (((nI i18) / (6 : Int32)) * (6 : Int32)))]) (rest := []) hx hb hml hown hts hN (m_X6_at l g ((w18_0.2 6) ((nI i18) / (6 : Int32)).toNatClampNeg) ((nI i18) - (((nI i18) / (6 : Int32)) * (6 : Int32)))) gX6_read_X6_at rfl (by decide +kernel) ⟨rfl, rfl⟩ ⟨Nat.le_of_ble_eq_true rfl, Nat.le_of_ble_eq_true rfl⟩ hK hP hD hS hA rfl hl.1 rfl (Nat.le_of_ble_eq_true rfl) dX6_read_42 ⟨Nat.zero_le _, Nat.zero_le _⟩ (fun H locs hP hD hS => ?_)
        refine lv_istore_n (lv' := [(2, .int (f_X6_at ((w18_0.2 6) ((nI i18) / (6 : Int32)).toNatClampNeg) ((nI i18) - (((nI i18) / (6 : Int32)) * (6 : Int32))))), (1, .int (nI i18)), (0, .ref (q 0))]) hx hb dX6_read_45 rfl hl (by decide) rfl (fun ls hl => ?_)
        refine lv_aload_n hx hb dX6_read_46 rfl (lv_at hl 2 rfl) ?_
        refine va_get (D := g.1) (ci := 6) (v := .ref (q 8)) (C := RX6) (T := TX6) (N := 12) hx hb hts (zin_X6_read_X6) hown hK hP 0 rfl rfl 10 (by decide) (hts (.fieldLink RX6 31 "PegClerksModel" "toldSets" "[I") (by decide +kernel)) (fun _ h9 => h9) rfl dX6_read_47 ?_
        refine lv_iload_n hx hb dX6_read_50 rfl (lv_at hl 1 rfl) ?_
        refine lv_bipush (v := (6 : Int32)) hx hb dX6_read_51 (by decide) ?_
        refine lv_idiv hx hb dX6_read_53 (by decide) ?_
        refine z_iald (f := (w18_0.2 7)) (k := ((nI i18) / (6 : Int32)).toNatClampNeg) hx hb hK hP 8 0 rfl rfl hq1 rfl dX6_read_54 ?_
        refine lv_iload_n hx hb dX6_read_55 rfl (lv_at hl 1 rfl) ?_
        refine lv_bipush (v := (6 : Int32)) hx hb dX6_read_56 (by decide) ?_
        refine lv_irem hx hb dX6_read_58 (by decide) ?_
        refine lv_ishr hx hb dX6_read_59 ?_
        refine lv_iconst (v := (1 : Int32)) hx hb dX6_read_60 (by decide) ?_
        refine lv_iand hx hb dX6_read_61 ?_
        refine lv_iconst (v := (1 : Int32)) hx hb dX6_read_62 (by decide) ?_
        refine lv_icmp_ne (tgt := 70) hx hb dX6_read_63 (by decide) (fun c_63 => ?_) (fun c_63 => ?_)
        · refine lv_iconst (v := (0 : Int32)) hx hb dX6_read_70 (by decide) ?_
          refine lv_istore_n (lv' := [(3, .int (0 : Int32)), (2, .int (f_X6_at ((w18_0.2 6) ((nI i18) / (6 : Int32)).toNatClampNeg) ((nI i18) - (((nI i18) / (6 : Int32)) * (6 : Int32))))), (1, .int (nI i18)), (0, .ref (q 0))]) hx hb dX6_read_71 rfl hl (by decide) rfl (fun ls hl => ?_)
          refine lv_aload_n hx hb dX6_read_72 rfl (lv_at hl 3 rfl) ?_
          refine va_get (D := g.1) (ci := 6) (v := .ref (q 1)) (C := RX6) (T := TX6) (N := 12) hx hb hts (zin_X6_read_X6) hown hK hP 0 rfl rfl 0 (by decide) (hts (.fieldLink RX6 7 "PegClerksModel" "all" "[I") (by decide +kernel)) (fun _ h9 => h9) rfl dX6_read_73 ?_
          refine lv_iload_n hx hb dX6_read_76 rfl (lv_at hl 1 rfl) ?_
          refine lv_iload_n hx hb dX6_read_77 rfl (lv_at hl 0 rfl) ?_
          refine lv_if_ne (tgt := 86) hx hb dX6_read_78 (by decide) (fun c_78 => ?_) (fun c_78 => ?_)
          · refine lv_aload_n hx hb dX6_read_86 rfl (lv_at hl 3 rfl) ?_
            refine va_get (D := g.1) (ci := 6) (v := .ref (q 1)) (C := RX6) (T := TX6) (N := 12) hx hb hts (zin_X6_read_X6) hown hK hP 0 rfl rfl 0 (by decide) (hts (.fieldLink RX6 7 "PegClerksModel" "all" "[I") (by decide +kernel)) (fun _ h9 => h9) rfl dX6_read_87 ?_
            refine lv_iload_n hx hb dX6_read_90 rfl (lv_at hl 1 rfl) ?_
            refine z_iald (f := (w18_0.2 0)) (k := (f_X6_at ((w18_0.2 6) ((nI i18) / (6 : Int32)).toNatClampNeg) ((nI i18) - (((nI i18) / (6 : Int32)) * (6 : Int32)))).toNatClampNeg) hx hb hK hP 1 0 rfl rfl (zin_at hq4 hq3) rfl dX6_read_91 ?_
            refine lv_bipush (v := (-6 : Int32)) hx hb dX6_read_92 (by decide) ?_
            refine lv_icmp_ne (tgt := 101) hx hb dX6_read_94 (by decide) (fun c_94 => ?_) (fun c_94 => ?_)
            · refine lv_aload_n hx hb dX6_read_101 rfl (lv_at hl 3 rfl) ?_
              refine va_get (D := g.1) (ci := 6) (v := .ref (q 1)) (C := RX6) (T := TX6) (N := 12) hx hb hts (zin_X6_read_X6) hown hK hP 0 rfl rfl 0 (by decide) (hts (.fieldLink RX6 7 "PegClerksModel" "all" "[I") (by decide +kernel)) (fun _ h9 => h9) rfl dX6_read_102 ?_
              refine lv_iload_n hx hb dX6_read_105 rfl (lv_at hl 1 rfl) ?_
              refine z_iald (f := (w18_0.2 0)) (k := (f_X6_at ((w18_0.2 6) ((nI i18) / (6 : Int32)).toNatClampNeg) ((nI i18) - (((nI i18) / (6 : Int32)) * (6 : Int32)))).toNatClampNeg) hx hb hK hP 1 0 rfl rfl (zin_at hq4 hq3) rfl dX6_read_106 ?_
              refine z_iast (f := (w18_0.2 0)) (k := (f_X6_at ((w18_0.2 6) ((nI i18) / (6 : Int32)).toNatClampNeg) ((nI i18) - (((nI i18) / (6 : Int32)) * (6 : Int32)))).toNatClampNeg) hx hb hK hP hD hS 1 0 rfl rfl (zin_at hq4 hq3) rfl dX6_read_107 (fun H locs hP hD hS => ?_)
              have hP : va_P g.1 vwCl (mo g q (s_X6_read_107 i18 w18_0)) H := (congrArg (fun z => va_P g.1 vwCl z H) (mo_A0 g q w18_0 (upd (w18_0.2 0) (f_X6_at ((w18_0.2 6) ((nI i18) / (6 : Int32)).toNatClampNeg) ((nI i18) - (((nI i18) / (6 : Int32)) * (6 : Int32)))).toNatClampNeg ((w18_0.2 0) (f_X6_at ((w18_0.2 6) ((nI i18) / (6 : Int32)).toNatClampNeg) ((nI i18) - (((nI i18) / (6 : Int32)) * (6 : Int32)))).toNatClampNeg)))).mp hP
              have hD : va_D A (mo g q (s_X6_read_107 i18 w18_0)) := (congrArg (fun z => va_D A z) (mo_A0 g q w18_0 (upd (w18_0.2 0) (f_X6_at ((w18_0.2 6) ((nI i18) / (6 : Int32)).toNatClampNeg) ((nI i18) - (((nI i18) / (6 : Int32)) * (6 : Int32)))).toNatClampNeg ((w18_0.2 0) (f_X6_at ((w18_0.2 6) ((nI i18) / (6 : Int32)).toNatClampNeg) ((nI i18) - (((nI i18) / (6 : Int32)) * (6 : Int32)))).toNatClampNeg)))).mp hD
              refine lv_iinc (v := (nI (i18 + 1))) (lv' := [(1, .int (nI (i18 + 1))), (3, .int (0 : Int32)), (2, .int (f_X6_at ((w18_0.2 6) ((nI i18) / (6 : Int32)).toNatClampNeg) ((nI i18) - (((nI i18) / (6 : Int32)) * (6 : Int32))))), (0, .ref (q 0))]) hx hb dX6_read_108 hl (k := 2) rfl (nI_1 i18) (by decide) rfl (fun ls hl => ?_)
              refine lv_goto (tgt := 18) hx hb dX6_read_111 (by decide) ?_
              have E : (f_X6_read_L18 (n18 + 1) i18 w18_0) = (f_X6_read_L18 n18 (i18 + 1) (s_X6_read_107 i18 w18_0)) := (if_neg c_63).trans ((if_neg c_78).trans ((if_neg c_94).trans rfl))
              rw [E] at kx
              exact ih18 (i18 + 1) (by omega) (s_X6_read_107 i18 w18_0) _ _ _ (hf.tr zFr.wr) hP hD hS (lv_sub hl [0, 3] rfl) kx
            · refine lv_iconst (v := (0 : Int32)) hx hb dX6_read_97 (by decide) ?_
              refine lv_goto (tgt := 107) hx hb dX6_read_98 (by decide) ?_
              refine z_iast (f := (w18_0.2 0)) (k := (f_X6_at ((w18_0.2 6) ((nI i18) / (6 : Int32)).toNatClampNeg) ((nI i18) - (((nI i18) / (6 : Int32)) * (6 : Int32)))).toNatClampNeg) hx hb hK hP hD hS 1 0 rfl rfl (zin_at hq4 hq3) rfl dX6_read_107 (fun H locs hP hD hS => ?_)
              have hP : va_P g.1 vwCl (mo g q (s_X6_read_107_2 i18 w18_0)) H := (congrArg (fun z => va_P g.1 vwCl z H) (mo_A0 g q w18_0 (upd (w18_0.2 0) (f_X6_at ((w18_0.2 6) ((nI i18) / (6 : Int32)).toNatClampNeg) ((nI i18) - (((nI i18) / (6 : Int32)) * (6 : Int32)))).toNatClampNeg (0 : Int32)))).mp hP
              have hD : va_D A (mo g q (s_X6_read_107_2 i18 w18_0)) := (congrArg (fun z => va_D A z) (mo_A0 g q w18_0 (upd (w18_0.2 0) (f_X6_at ((w18_0.2 6) ((nI i18) / (6 : Int32)).toNatClampNeg) ((nI i18) - (((nI i18) / (6 : Int32)) * (6 : Int32)))).toNatClampNeg (0 : Int32)))).mp hD
              refine lv_iinc (v := (nI (i18 + 1))) (lv' := [(1, .int (nI (i18 + 1))), (3, .int (0 : Int32)), (2, .int (f_X6_at ((w18_0.2 6) ((nI i18) / (6 : Int32)).toNatClampNeg) ((nI i18) - (((nI i18) / (6 : Int32)) * (6 : Int32))))), (0, .ref (q 0))]) hx hb dX6_read_108 hl (k := 2) rfl (nI_1 i18) (by decide) rfl (fun ls hl => ?_)
              refine lv_goto (tgt := 18) hx hb dX6_read_111 (by decide) ?_
              have E : (f_X6_read_L18 (n18 + 1) i18 w18_0) = (f_X6_read_L18 n18 (i18 + 1) (s_X6_read_107_2 i18 w18_0)) := (if_neg c_63).trans ((if_neg c_78).trans ((if_pos c_94).trans rfl))
              rw [E] at kx
              exact ih18 (i18 + 1) (by omega) (s_X6_read_107_2 i18 w18_0) _ _ _ (hf.tr zFr.wr) hP hD hS (lv_sub hl [0, 3] rfl) kx
          · refine lv_bipush (v := (-6 : Int32)) hx hb dX6_read_81 (by decide) ?_
            refine lv_goto (tgt := 107) hx hb dX6_read_83 (by decide) ?_
            refine z_iast (f := (w18_0.2 0)) (k := (f_X6_at ((w18_0.2 6) ((nI i18) / (6 : Int32)).toNatClampNeg) ((nI i18) - (((nI i18) / (6 : Int32)) * (6 : Int32)))).toNatClampNeg) hx hb hK hP hD hS 1 0 rfl rfl (zin_at hq4 hq3) rfl dX6_read_107 (fun H locs hP hD hS => ?_)
            have hP : va_P g.1 vwCl (mo g q (s_X6_read_107_3 i18 w18_0)) H := (congrArg (fun z => va_P g.1 vwCl z H) (mo_A0 g q w18_0 (upd (w18_0.2 0) (f_X6_at ((w18_0.2 6) ((nI i18) / (6 : Int32)).toNatClampNeg) ((nI i18) - (((nI i18) / (6 : Int32)) * (6 : Int32)))).toNatClampNeg (-6 : Int32)))).mp hP
            have hD : va_D A (mo g q (s_X6_read_107_3 i18 w18_0)) := (congrArg (fun z => va_D A z) (mo_A0 g q w18_0 (upd (w18_0.2 0) (f_X6_at ((w18_0.2 6) ((nI i18) / (6 : Int32)).toNatClampNeg) ((nI i18) - (((nI i18) / (6 : Int32)) * (6 : Int32)))).toNatClampNeg (-6 : Int32)))).mp hD
            refine lv_iinc (v := (nI (i18 + 1))) (lv' := [(1, .int (nI (i18 + 1))), (3, .int (0 : Int32)), (2, .int (f_X6_at ((w18_0.2 6) ((nI i18) / (6 : Int32)).toNatClampNeg) ((nI i18) - (((nI i18) / (6 : Int32)) * (6 : Int32))))), (0, .ref (q 0))]) hx hb dX6_read_108 hl (k := 2) rfl (nI_1 i18) (by decide) rfl (fun ls hl => ?_)
            refine lv_goto (tgt := 18) hx hb dX6_read_111 (by decide) ?_
            have E : (f_X6_read_L18 (n18 + 1) i18 w18_0) = (f_X6_read_L18 n18 (i18 + 1) (s_X6_read_107_3 i18 w18_0)) := (if_neg c_63).trans ((if_pos c_78).trans rfl)
            rw [E] at kx
            exact ih18 (i18 + 1) (by omega) (s_X6_read_107_3 i18 w18_0) _ _ _ (hf.tr zFr.wr) hP hD hS (lv_sub hl [0, 3] rfl) kx
        · refine lv_iconst (v := (1 : Int32)) hx hb dX6_read_66 (by decide) ?_
          refine lv_goto (tgt := 71) hx hb dX6_read_67 (by decide) ?_
          refine lv_istore_n (lv' := [(3, .int (1 : Int32)), (2, .int (f_X6_at ((w18_0.2 6) ((nI i18) / (6 : Int32)).toNatClampNeg) ((nI i18) - (((nI i18) / (6 : Int32)) * (6 : Int32))))), (1, .int (nI i18)), (0, .ref (q 0))]) hx hb dX6_read_71 rfl hl (by decide) rfl (fun ls hl => ?_)
          refine lv_aload_n hx hb dX6_read_72 rfl (lv_at hl 3 rfl) ?_
          refine va_get (D := g.1) (ci := 6) (v := .ref (q 1)) (C := RX6) (T := TX6) (N := 12) hx hb hts (zin_X6_read_X6) hown hK hP 0 rfl rfl 0 (by decide) (hts (.fieldLink RX6 7 "PegClerksModel" "all" "[I") (by decide +kernel)) (fun _ h9 => h9) rfl dX6_read_73 ?_
          refine lv_iload_n hx hb dX6_read_76 rfl (lv_at hl 1 rfl) ?_
          refine lv_iload_n hx hb dX6_read_77 rfl (lv_at hl 0 rfl) ?_
          refine lv_if_ne (tgt := 86) hx hb dX6_read_78 (by decide) (fun c_78 => ?_) (fun c_78 => ?_)
          · refine lv_aload_n hx hb dX6_read_86 rfl (lv_at hl 3 rfl) ?_
            refine va_get (D := g.1) (ci := 6) (v := .ref (q 1)) (C := RX6) (T := TX6) (N := 12) hx hb hts (zin_X6_read_X6) hown hK hP 0 rfl rfl 0 (by decide) (hts (.fieldLink RX6 7 "PegClerksModel" "all" "[I") (by decide +kernel)) (fun _ h9 => h9) rfl dX6_read_87 ?_
            refine lv_iload_n hx hb dX6_read_90 rfl (lv_at hl 1 rfl) ?_
            refine z_iald (f := (w18_0.2 0)) (k := (f_X6_at ((w18_0.2 6) ((nI i18) / (6 : Int32)).toNatClampNeg) ((nI i18) - (((nI i18) / (6 : Int32)) * (6 : Int32)))).toNatClampNeg) hx hb hK hP 1 0 rfl rfl (zin_at hq4 hq3) rfl dX6_read_91 ?_
            refine lv_bipush (v := (-6 : Int32)) hx hb dX6_read_92 (by decide) ?_
            refine lv_icmp_ne (tgt := 101) hx hb dX6_read_94 (by decide) (fun c_94 => ?_) (fun c_94 => ?_)
            · refine lv_aload_n hx hb dX6_read_101 rfl (lv_at hl 3 rfl) ?_
              refine va_get (D := g.1) (ci := 6) (v := .ref (q 1)) (C := RX6) (T := TX6) (N := 12) hx hb hts (zin_X6_read_X6) hown hK hP 0 rfl rfl 0 (by decide) (hts (.fieldLink RX6 7 "PegClerksModel" "all" "[I") (by decide +kernel)) (fun _ h9 => h9) rfl dX6_read_102 ?_
              refine lv_iload_n hx hb dX6_read_105 rfl (lv_at hl 1 rfl) ?_
              refine z_iald (f := (w18_0.2 0)) (k := (f_X6_at ((w18_0.2 6) ((nI i18) / (6 : Int32)).toNatClampNeg) ((nI i18) - (((nI i18) / (6 : Int32)) * (6 : Int32)))).toNatClampNeg) hx hb hK hP 1 0 rfl rfl (zin_at hq4 hq3) rfl dX6_read_106 ?_
              refine z_iast (f := (w18_0.2 0)) (k := (f_X6_at ((w18_0.2 6) ((nI i18) / (6 : Int32)).toNatClampNeg) ((nI i18) - (((nI i18) / (6 : Int32)) * (6 : Int32)))).toNatClampNeg) hx hb hK hP hD hS 1 0 rfl rfl (zin_at hq4 hq3) rfl dX6_read_107 (fun H locs hP hD hS => ?_)
              have hP : va_P g.1 vwCl (mo g q (s_X6_read_107 i18 w18_0)) H := (congrArg (fun z => va_P g.1 vwCl z H) (mo_A0 g q w18_0 (upd (w18_0.2 0) (f_X6_at ((w18_0.2 6) ((nI i18) / (6 : Int32)).toNatClampNeg) ((nI i18) - (((nI i18) / (6 : Int32)) * (6 : Int32)))).toNatClampNeg ((w18_0.2 0) (f_X6_at ((w18_0.2 6) ((nI i18) / (6 : Int32)).toNatClampNeg) ((nI i18) - (((nI i18) / (6 : Int32)) * (6 : Int32)))).toNatClampNeg)))).mp hP
              have hD : va_D A (mo g q (s_X6_read_107 i18 w18_0)) := (congrArg (fun z => va_D A z) (mo_A0 g q w18_0 (upd (w18_0.2 0) (f_X6_at ((w18_0.2 6) ((nI i18) / (6 : Int32)).toNatClampNeg) ((nI i18) - (((nI i18) / (6 : Int32)) * (6 : Int32)))).toNatClampNeg ((w18_0.2 0) (f_X6_at ((w18_0.2 6) ((nI i18) / (6 : Int32)).toNatClampNeg) ((nI i18) - (((nI i18) / (6 : Int32)) * (6 : Int32)))).toNatClampNeg)))).mp hD
              refine lv_iinc (v := (nI (i18 + 1))) (lv' := [(1, .int (nI (i18 + 1))), (3, .int (1 : Int32)), (2, .int (f_X6_at ((w18_0.2 6) ((nI i18) / (6 : Int32)).toNatClampNeg) ((nI i18) - (((nI i18) / (6 : Int32)) * (6 : Int32))))), (0, .ref (q 0))]) hx hb dX6_read_108 hl (k := 2) rfl (nI_1 i18) (by decide) rfl (fun ls hl => ?_)
              refine lv_goto (tgt := 18) hx hb dX6_read_111 (by decide) ?_
              have E : (f_X6_read_L18 (n18 + 1) i18 w18_0) = (f_X6_read_L18 n18 (i18 + 1) (s_X6_read_107 i18 w18_0)) := (if_pos c_63).trans ((if_neg c_78).trans ((if_neg c_94).trans rfl))
              rw [E] at kx
              exact ih18 (i18 + 1) (by omega) (s_X6_read_107 i18 w18_0) _ _ _ (hf.tr zFr.wr) hP hD hS (lv_sub hl [0, 3] rfl) kx
            · refine lv_iconst (v := (0 : Int32)) hx hb dX6_read_97 (by decide) ?_
              refine lv_goto (tgt := 107) hx hb dX6_read_98 (by decide) ?_
              refine z_iast (f := (w18_0.2 0)) (k := (f_X6_at ((w18_0.2 6) ((nI i18) / (6 : Int32)).toNatClampNeg) ((nI i18) - (((nI i18) / (6 : Int32)) * (6 : Int32)))).toNatClampNeg) hx hb hK hP hD hS 1 0 rfl rfl (zin_at hq4 hq3) rfl dX6_read_107 (fun H locs hP hD hS => ?_)
              have hP : va_P g.1 vwCl (mo g q (s_X6_read_107_2 i18 w18_0)) H := (congrArg (fun z => va_P g.1 vwCl z H) (mo_A0 g q w18_0 (upd (w18_0.2 0) (f_X6_at ((w18_0.2 6) ((nI i18) / (6 : Int32)).toNatClampNeg) ((nI i18) - (((nI i18) / (6 : Int32)) * (6 : Int32)))).toNatClampNeg (0 : Int32)))).mp hP
              have hD : va_D A (mo g q (s_X6_read_107_2 i18 w18_0)) := (congrArg (fun z => va_D A z) (mo_A0 g q w18_0 (upd (w18_0.2 0) (f_X6_at ((w18_0.2 6) ((nI i18) / (6 : Int32)).toNatClampNeg) ((nI i18) - (((nI i18) / (6 : Int32)) * (6 : Int32)))).toNatClampNeg (0 : Int32)))).mp hD
              refine lv_iinc (v := (nI (i18 + 1))) (lv' := [(1, .int (nI (i18 + 1))), (3, .int (1 : Int32)), (2, .int (f_X6_at ((w18_0.2 6) ((nI i18) / (6 : Int32)).toNatClampNeg) ((nI i18) - (((nI i18) / (6 : Int32)) * (6 : Int32))))), (0, .ref (q 0))]) hx hb dX6_read_108 hl (k := 2) rfl (nI_1 i18) (by decide) rfl (fun ls hl => ?_)
              refine lv_goto (tgt := 18) hx hb dX6_read_111 (by decide) ?_
              have E : (f_X6_read_L18 (n18 + 1) i18 w18_0) = (f_X6_read_L18 n18 (i18 + 1) (s_X6_read_107_2 i18 w18_0)) := (if_pos c_63).trans ((if_neg c_78).trans ((if_pos c_94).trans rfl))
              rw [E] at kx
              exact ih18 (i18 + 1) (by omega) (s_X6_read_107_2 i18 w18_0) _ _ _ (hf.tr zFr.wr) hP hD hS (lv_sub hl [0, 3] rfl) kx
          · refine lv_bipush (v := (-6 : Int32)) hx hb dX6_read_81 (by decide) ?_
            refine lv_goto (tgt := 107) hx hb dX6_read_83 (by decide) ?_
            refine z_iast (f := (w18_0.2 0)) (k := (f_X6_at ((w18_0.2 6) ((nI i18) / (6 : Int32)).toNatClampNeg) ((nI i18) - (((nI i18) / (6 : Int32)) * (6 : Int32)))).toNatClampNeg) hx hb hK hP hD hS 1 0 rfl rfl (zin_at hq4 hq3) rfl dX6_read_107 (fun H locs hP hD hS => ?_)
            have hP : va_P g.1 vwCl (mo g q (s_X6_read_107_3 i18 w18_0)) H := (congrArg (fun z => va_P g.1 vwCl z H) (mo_A0 g q w18_0 (upd (w18_0.2 0) (f_X6_at ((w18_0.2 6) ((nI i18) / (6 : Int32)).toNatClampNeg) ((nI i18) - (((nI i18) / (6 : Int32)) * (6 : Int32)))).toNatClampNeg (-6 : Int32)))).mp hP
            have hD : va_D A (mo g q (s_X6_read_107_3 i18 w18_0)) := (congrArg (fun z => va_D A z) (mo_A0 g q w18_0 (upd (w18_0.2 0) (f_X6_at ((w18_0.2 6) ((nI i18) / (6 : Int32)).toNatClampNeg) ((nI i18) - (((nI i18) / (6 : Int32)) * (6 : Int32)))).toNatClampNeg (-6 : Int32)))).mp hD
            refine lv_iinc (v := (nI (i18 + 1))) (lv' := [(1, .int (nI (i18 + 1))), (3, .int (1 : Int32)), (2, .int (f_X6_at ((w18_0.2 6) ((nI i18) / (6 : Int32)).toNatClampNeg) ((nI i18) - (((nI i18) / (6 : Int32)) * (6 : Int32))))), (0, .ref (q 0))]) hx hb dX6_read_108 hl (k := 2) rfl (nI_1 i18) (by decide) rfl (fun ls hl => ?_)
            refine lv_goto (tgt := 18) hx hb dX6_read_111 (by decide) ?_
            have E : (f_X6_read_L18 (n18 + 1) i18 w18_0) = (f_X6_read_L18 n18 (i18 + 1) (s_X6_read_107_3 i18 w18_0)) := (if_pos c_63).trans ((if_pos c_78).trans rfl)
            rw [E] at kx
            exact ih18 (i18 + 1) (by omega) (s_X6_read_107_3 i18 w18_0) _ _ _ (hf.tr zFr.wr) hP hD hS (lv_sub hl [0, 3] rfl) kx
    refine L18 (zfu ((6 : Int32) * ((s_X6_read_13 v).1 3)).toNatClampNeg) 0 (by rw [zfu_eq]; omega) (s_X6_read_13 v) _ _ _ zFr.rf hP hD hS (lv_sub hl [0, 1] rfl) (fun H locs ls hP hD hS hl => ?_)
    refine lv_aload_n hx hb dX6_read_114 rfl (lv_at hl 0 rfl) ?_
    refine lv_iconst (v := (0 : Int32)) hx hb dX6_read_115 (by decide) ?_
    refine va_put (D := g.1) (ci := 6) (v := .int (0 : Int32)) (ty := .int) (C := RX6) (T := TX6) (N := 12) hx hb hts (zin_X6_read_X6) tyX6 tyX6_ok nmX6 hown hK hP hD hS 0 rfl rfl 7 (by decide) (hts (.fieldLink RX6 121 "PegClerksModel" "textLong" "I") (by decide +kernel)) (fun _ h9 => h9) rfl (by decide +kernel) rfl rfl (Nat.le_of_ble_eq_true rfl) dX6_read_116 (fun H locs hP hD hS => ?_)
    have hP : va_P g.1 vwCl (mo g q (s_X6_read_116 v)) H := (congrArg (fun z => va_P g.1 vwCl z H) (mo_S1 g q (f_X6_read_L18 (zfu ((6 : Int32) * ((s_X6_read_13 v).1 3)).toNatClampNeg) 0 (s_X6_read_13 v)) (0 : Int32))).mp hP
    have hD : va_D A (mo g q (s_X6_read_116 v)) := (congrArg (fun z => va_D A z) (mo_S1 g q (f_X6_read_L18 (zfu ((6 : Int32) * ((s_X6_read_13 v).1 3)).toNatClampNeg) 0 (s_X6_read_13 v)) (0 : Int32))).mp hD
    refine lv_aload_n hx hb dX6_read_119 rfl (lv_at hl 0 rfl) ?_
    refine zcVi (n := 0) (As := []) (rest := []) (Xr := []) (Xn := (mo g q (s_X6_read_116 v))) (ci := 6) (C := RX6) (T := TX6) (N := 12) (q0 := 0) hx hb hml hown hts hN (m_X6_pegs l g q (s_X6_read_116 v) ) gX6_read_X6_pegs rfl (by decide +kernel) ⟨rfl, rfl⟩ ⟨Nat.le_of_ble_eq_true rfl, Nat.le_of_ble_eq_true rfl⟩ hK hP hD hS hA (zpn _) rfl rfl rfl hl.1 rfl (Nat.le_of_ble_eq_true rfl) dX6_read_120 ⟨Nat.zero_le _, Nat.zero_le _⟩ (zpn' _) (fun H locs hP hD hS => ?_)
    have E : (f_X6_read v) = ((r_X6_read_120 v), (s_X6_read_116 v)) := (if_pos c_6).trans rfl
    have e1 : (r_X6_read_120 v) = (f_X6_read v).1 := by rw [E]
    have e2 : (mo g q (s_X6_read_116 v)) = (mo g q (f_X6_read v).2) := by rw [E]
    exact hret (r_X6_read_120 v) (mo g q (s_X6_read_116 v)) _ _ _ _ dX6_read_123 e1 (rfl) e2 hP hD hS
  · refine lv_bipush (v := (-3 : Int32)) hx hb dX6_read_9 (by decide) ?_
    have E : (f_X6_read v) = ((-3 : Int32), (r_X6_read_1 v).2) := (if_neg c_6).trans rfl
    have e1 : (-3 : Int32) = (f_X6_read v).1 := by rw [E]
    have e2 : (mo g q (r_X6_read_1 v).2) = (mo g q (f_X6_read v).2) := by rw [E]
    exact hret (-3 : Int32) (mo g q (r_X6_read_1 v).2) _ _ _ _ dX6_read_11 e1 (rfl) e2 hP hD hS
