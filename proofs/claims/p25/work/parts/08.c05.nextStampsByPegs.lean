theorem efm {r : Nat} (hr : r < 1000) : f_J9_floorMod_7cf53 (nI r) (16 : Int32) = nI (r % 16) := by
  have e : (nI r) - (((nI r) / (16 : Int32)) * (16 : Int32)) = nI (r % 16) := by
    rw [show (16 : Int32) = nI 16 from rfl, pk_rem (by omega) (by omega) (by omega)]
  have h0 : (0 : Int32) ≤ ((nI r) ^^^ (16 : Int32)) := by
    rw [show (16 : Int32) = nI 16 from rfl]
    have e1 : nI r ^^^ nI 16 = nI (r ^^^ 16) := by
      apply Int32.toBitVec_inj.mp
      show (BitVec.ofNat 32 r) ^^^ (BitVec.ofNat 32 16) = BitVec.ofNat 32 (r ^^^ 16)
      rw [BitVec.ofNat_xor]
    have h2 : r ^^^ 16 < 2 ^ 10 := Nat.xor_lt_two_pow (by omega) (by omega)
    rw [e1]
    exact nI_pos' (by omega)
  unfold f_J9_floorMod_7cf53
  rw [if_pos h0, e]
theorem zfm {x : Int32} (h : vp_in x 32) : vp_in (f_J9_floorMod_7cf53 x (16 : Int32)) 16 := by
  obtain ⟨r, hr, rfl⟩ := vp_in_of h (by omega)
  rw [efm (by omega)]
  exact vp_in_nI (by omega) (by omega)
abbrev rm_X5_nextStampsByPegs : Room := { frames := 1, cells := 0, slots := 0, locals := 22 }
set_option maxRecDepth 20000 in
theorem zin_X5_nextStampsByPegs_X0 : ∀ w ∈ wsX00, w ∈ wsX5_nextStampsByPegs := by decide +kernel
set_option maxRecDepth 20000 in
theorem zin_X5_nextStampsByPegs_X1 : ∀ w ∈ wsX10, w ∈ wsX5_nextStampsByPegs := by decide +kernel
set_option maxRecDepth 20000 in
theorem zin_X5_nextStampsByPegs_X5 : ∀ w ∈ wsX50, w ∈ wsX5_nextStampsByPegs := by decide +kernel
def f_X5_nextStampsByPegs_L4 (vc : zCV) : Nat → Nat → Int32 → Int32
  | 0, i4, x4_1 => x4_1
  | n4 + 1, i4, x4_1 => (f_X5_nextStampsByPegs_L4 vc n4 (i4 + 1) (x4_1 ||| ((vc.2 1) (f_J9_floorMod_7cf53 ((vc.1 4) + (nI i4)) (16 : Int32)).toNatClampNeg)))
def f_X5_nextStampsByPegs (vc : zCV) (vh : zCV) (vp : zCV) (vs : zCV) (vt : zCV) (VH : (Nat → zCV)) (VS : (Nat → zCV)) : Int32 := (f_X5_nextStampsByPegs_L4 vc (zfu ((vc.2 0) 0).toNatClampNeg) 0 (0 : Int32))
set_option maxRecDepth 100000 in
set_option maxHeartbeats 4000000 in
theorem m_X5_nextStampsByPegs (l : Launch) (g : zG) (a : Nat) (qc qh qp qs qt : Nat → Nat) (QH QS : Nat → Nat → Nat) (vc vh vp vs vt : zCV) (VH VS : Nat → zCV) (hat : vp_in (vc.1 4) 16) (hfo : vp_in (vc.2 0 0) 9) : ZI l yX5_nextStampsByPegs wsX5_nextStampsByPegs rm_X5_nextStampsByPegs g ((po a (qc 0) (qt 0) (qh 0) (qp 0) (qs 0) (qs 1)) ++ ((ck g qc vc) ++ ((hi g qh (fun j => some (QH j 0)) vh) ++ ((pd g qp vp) ++ ((sl g qs (fun j => some (QS j 0)) vs) ++ ((ck g qt vt) ++ ((hs g QH VH) ++ ((ss g QS VS))))))))) [.ref a] (f_X5_nextStampsByPegs vc vh vp vs vt VH VS) ((po a (qc 0) (qt 0) (qh 0) (qp 0) (qs 0) (qs 1)) ++ ((ck g qc vc) ++ ((hi g qh (fun j => some (QH j 0)) vh) ++ ((pd g qp vp) ++ ((sl g qs (fun j => some (QS j 0)) vs) ++ ((ck g qt vt) ++ ((hs g QH VH) ++ ((ss g QS VS))))))))) := by
  refine zopenI (cc := cX5_nextStampsByPegs) (maxL := 3) (ret := .int) (by decide +kernel) rfl (Nat.le_of_ble_eq_true rfl) ?_
  intro p e s m below meth c A Q ls hx hb hml hown hts hP hK hD hA hN hl hret
  have hS : va_S A s.heap s.heap [] := va_S.rf
  have hl : lv_has ls 3 [(0, .ref a)] := hl
  have hown : s.vm.findClass RX5 = some m.cls := hown
  refine lv_iconst (v := (0 : Int32)) hx hb dX5_nextStampsByPegs_0 (by decide) ?_
  refine lv_istore_n (lv' := [(1, .int (0 : Int32)), (0, .ref a)]) hx hb dX5_nextStampsByPegs_1 rfl hl (by decide) rfl (fun ls hl => ?_)
  refine lv_iconst (v := (0 : Int32)) hx hb dX5_nextStampsByPegs_2 (by decide) ?_
  refine lv_istore_n (lv' := [(2, .int (0 : Int32)), (1, .int (0 : Int32)), (0, .ref a)]) hx hb dX5_nextStampsByPegs_3 rfl hl (by decide) rfl (fun ls hl => ?_)
  have L4 : ∀ (n4 : Nat) (i4 : Nat), i4 + n4 = ((vc.2 0) 0).toNatClampNeg → ∀ (x4_1 : Int32) (H : Heap) (locs : List Loc) (ls : Array Slot), va_P g.1 vwCl ((po a (qc 0) (qt 0) (qh 0) (qp 0) (qs 0) (qs 1)) ++ ((ck g qc vc) ++ ((hi g qh (fun j => some (QH j 0)) vh) ++ ((pd g qp vp) ++ ((sl g qs (fun j => some (QS j 0)) vs) ++ ((ck g qt vt) ++ ((hs g QH VH) ++ ((ss g QS VS))))))))) H → va_D A ((po a (qc 0) (qt 0) (qh 0) (qp 0) (qs 0) (qs 1)) ++ ((ck g qc vc) ++ ((hi g qh (fun j => some (QH j 0)) vh) ++ ((pd g qp vp) ++ ((sl g qs (fun j => some (QS j 0)) vs) ++ ((ck g qt vt) ++ ((hs g QH VH) ++ ((ss g QS VS))))))))) → va_S A s.heap H locs → lv_has ls 3 [(2, .int (nI i4)), (1, .int x4_1), (0, .ref a)] → (∀ (H : Heap) (locs : List Loc) (ls : Array Slot), va_P g.1 vwCl ((po a (qc 0) (qt 0) (qh 0) (qp 0) (qs 0) (qs 1)) ++ ((ck g qc vc) ++ ((hi g qh (fun j => some (QH j 0)) vh) ++ ((pd g qp vp) ++ ((sl g qs (fun j => some (QS j 0)) vs) ++ ((ck g qt vt) ++ ((hs g QH VH) ++ ((ss g QS VS))))))))) H → va_D A ((po a (qc 0) (qt 0) (qh 0) (qp 0) (qs 0) (qs 1)) ++ ((ck g qc vc) ++ ((hi g qh (fun j => some (QH j 0)) vh) ++ ((pd g qp vp) ++ ((sl g qs (fun j => some (QS j 0)) vs) ++ ((ck g qt vt) ++ ((hs g QH VH) ++ ((ss g QS VS))))))))) → va_S A s.heap H locs → lv_has ls 3 [(1, .int (f_X5_nextStampsByPegs_L4 vc n4 i4 x4_1)), (0, .ref a)] → W p l e rm_X5_nextStampsByPegs s m ([.ref a] : List Value).toArray below meth c H locs 0 0 Q (F0 m 54 ls [])) → W p l e rm_X5_nextStampsByPegs s m ([.ref a] : List Value).toArray below meth c H locs 0 0 Q (F0 m 4 ls []) := by
    intro n4
    induction n4 with
    | zero =>
      intro i4 hin4 x4_1 H locs ls hP hD hS hl kx
      refine lv_iload_n hx hb dX5_nextStampsByPegs_4 rfl (lv_at hl 0 rfl) ?_
      refine lv_aload_n hx hb dX5_nextStampsByPegs_5 rfl (lv_at hl 2 rfl) ?_
      refine va_get (D := g.1) (ci := 5) (v := .ref (qc 0)) (C := RX5) (T := TX5) (N := 6) hx hb hts (zin_X5_nextStampsByPegs_X5) hown hK hP 0 rfl rfl 0 (by decide) (hts (.fieldLink RX5 10 "PegClerks" "clerk" "LPegClerks$Clerk;") (by decide +kernel)) (fun _ h9 => h9) rfl dX5_nextStampsByPegs_6 ?_
      refine va_get (D := g.1) (ci := 0) (v := .ref (qc 1)) (C := RX0) (T := TX0) (N := 13) hx hb hts (zin_X5_nextStampsByPegs_X0) hown hK hP 1 rfl rfl 0 (by decide) (hts (.fieldLink RX5 52 "PegClerks$Clerk" "settings" "[I") (by decide +kernel)) (fun _ h9 => h9) rfl dX5_nextStampsByPegs_9 ?_
      refine lv_iconst (v := (0 : Int32)) hx hb dX5_nextStampsByPegs_12 (by decide) ?_
      refine z_iald (f := (vc.2 0)) (k := 0) hx hb hK hP 2 0 rfl rfl (zlit (0 : Int32) 4 (by decide +kernel)) (by decide +kernel) dX5_nextStampsByPegs_13 ?_
      refine lv_icmp_ge (tgt := 54) hx hb dX5_nextStampsByPegs_14 (by decide) (fun c_14 => ?_) (fun c_14 => ?_)
      rotate_left
      · exact absurd (zge0 (by omega)) c_14
      have E : (f_X5_nextStampsByPegs_L4 vc 0 i4 x4_1) = x4_1 := rfl
      rw [E] at kx
      exact kx _ _ _ hP hD hS (lv_sub hl [1, 2] rfl)
    | succ n4 ih4 =>
      intro i4 hin4 x4_1 H locs ls hP hD hS hl kx
      refine lv_iload_n hx hb dX5_nextStampsByPegs_4 rfl (lv_at hl 0 rfl) ?_
      refine lv_aload_n hx hb dX5_nextStampsByPegs_5 rfl (lv_at hl 2 rfl) ?_
      refine va_get (D := g.1) (ci := 5) (v := .ref (qc 0)) (C := RX5) (T := TX5) (N := 6) hx hb hts (zin_X5_nextStampsByPegs_X5) hown hK hP 0 rfl rfl 0 (by decide) (hts (.fieldLink RX5 10 "PegClerks" "clerk" "LPegClerks$Clerk;") (by decide +kernel)) (fun _ h9 => h9) rfl dX5_nextStampsByPegs_6 ?_
      refine va_get (D := g.1) (ci := 0) (v := .ref (qc 1)) (C := RX0) (T := TX0) (N := 13) hx hb hts (zin_X5_nextStampsByPegs_X0) hown hK hP 1 rfl rfl 0 (by decide) (hts (.fieldLink RX5 52 "PegClerks$Clerk" "settings" "[I") (by decide +kernel)) (fun _ h9 => h9) rfl dX5_nextStampsByPegs_9 ?_
      refine lv_iconst (v := (0 : Int32)) hx hb dX5_nextStampsByPegs_12 (by decide) ?_
      refine z_iald (f := (vc.2 0)) (k := 0) hx hb hK hP 2 0 rfl rfl (zlit (0 : Int32) 4 (by decide +kernel)) (by decide +kernel) dX5_nextStampsByPegs_13 ?_
      refine lv_icmp_ge (tgt := 54) hx hb dX5_nextStampsByPegs_14 (by decide) (fun c_14 => ?_) (fun c_14 => ?_)
      · exact absurd c_14 (zge1 (by omega))
      refine lv_iload_n hx hb dX5_nextStampsByPegs_17 rfl (lv_at hl 1 rfl) ?_
      refine lv_aload_n hx hb dX5_nextStampsByPegs_18 rfl (lv_at hl 2 rfl) ?_
      refine va_get (D := g.1) (ci := 5) (v := .ref (qc 0)) (C := RX5) (T := TX5) (N := 6) hx hb hts (zin_X5_nextStampsByPegs_X5) hown hK hP 0 rfl rfl 0 (by decide) (hts (.fieldLink RX5 10 "PegClerks" "clerk" "LPegClerks$Clerk;") (by decide +kernel)) (fun _ h9 => h9) rfl dX5_nextStampsByPegs_19 ?_
      refine va_get (D := g.1) (ci := 0) (v := .ref (qc 2)) (C := RX0) (T := TX0) (N := 13) hx hb hts (zin_X5_nextStampsByPegs_X0) hown hK hP 1 rfl rfl 1 (by decide) (hts (.fieldLink RX5 62 "PegClerks$Clerk" "drum" "LPegClerks$Drum;") (by decide +kernel)) (fun _ h9 => h9) rfl dX5_nextStampsByPegs_22 ?_
      refine va_get (D := g.1) (ci := 1) (v := .ref (qc 3)) (C := RX1) (T := TX1) (N := 4) hx hb hts (zin_X5_nextStampsByPegs_X1) hown hK hP 3 rfl rfl 0 (by decide) (hts (.fieldLink RX5 66 "PegClerks$Drum" "rows" "[I") (by decide +kernel)) (fun _ h9 => h9) rfl dX5_nextStampsByPegs_25 ?_
      refine lv_aload_n hx hb dX5_nextStampsByPegs_28 rfl (lv_at hl 2 rfl) ?_
      refine va_get (D := g.1) (ci := 5) (v := .ref (qc 0)) (C := RX5) (T := TX5) (N := 6) hx hb hts (zin_X5_nextStampsByPegs_X5) hown hK hP 0 rfl rfl 0 (by decide) (hts (.fieldLink RX5 10 "PegClerks" "clerk" "LPegClerks$Clerk;") (by decide +kernel)) (fun _ h9 => h9) rfl dX5_nextStampsByPegs_29 ?_
      refine va_get (D := g.1) (ci := 0) (v := .ref (qc 2)) (C := RX0) (T := TX0) (N := 13) hx hb hts (zin_X5_nextStampsByPegs_X0) hown hK hP 1 rfl rfl 1 (by decide) (hts (.fieldLink RX5 62 "PegClerks$Clerk" "drum" "LPegClerks$Drum;") (by decide +kernel)) (fun _ h9 => h9) rfl dX5_nextStampsByPegs_32 ?_
      refine va_get (D := g.1) (ci := 1) (v := .int (vc.1 4)) (C := RX1) (T := TX1) (N := 4) hx hb hts (zin_X5_nextStampsByPegs_X1) hown hK hP 3 rfl rfl 2 (by decide) (hts (.fieldLink RX5 103 "PegClerks$Drum" "at" "I") (by decide +kernel)) (fun _ h9 => h9) rfl dX5_nextStampsByPegs_35 ?_
      refine lv_iload_n hx hb dX5_nextStampsByPegs_38 rfl (lv_at hl 0 rfl) ?_
      refine lv_iadd hx hb dX5_nextStampsByPegs_39 ?_
      refine lv_bipush (v := (16 : Int32)) hx hb dX5_nextStampsByPegs_40 (by decide) ?_
      refine zcSi (n := 2) (As := [.int ((vc.1 4) + (nI i4)), .int (16 : Int32)]) (rest := [.ref (qc 3), .int x4_1]) hx hb hml hown hts hN (m_J9_floorMod_7cf53 l g ((vc.1 4) + (nI i4)) (16 : Int32) (by decide)) gX5_nextStampsByPegs_J9_floorMod_7cf53 rfl (by decide +kernel) ⟨rfl, rfl⟩ ⟨Nat.le_of_ble_eq_true rfl, Nat.le_of_ble_eq_true rfl⟩ hK hP hD hS hA rfl hl.1 rfl (Nat.le_of_ble_eq_true rfl) dX5_nextStampsByPegs_42 ⟨Nat.zero_le _, Nat.zero_le _⟩ (fun H locs hP hD hS => ?_)
      refine z_iald (f := (vc.2 1)) (k := (f_J9_floorMod_7cf53 ((vc.1 4) + (nI i4)) (16 : Int32)).toNatClampNeg) hx hb hK hP 4 0 rfl rfl (zfm (zin_sum hat (zcl_lt hfo hin4))) rfl dX5_nextStampsByPegs_45 ?_
      refine lv_ior hx hb dX5_nextStampsByPegs_46 ?_
      refine lv_istore_n (lv' := [(1, .int (x4_1 ||| ((vc.2 1) (f_J9_floorMod_7cf53 ((vc.1 4) + (nI i4)) (16 : Int32)).toNatClampNeg))), (2, .int (nI i4)), (0, .ref a)]) hx hb dX5_nextStampsByPegs_47 rfl hl (by decide) rfl (fun ls hl => ?_)
      refine lv_iinc (v := (nI (i4 + 1))) (lv' := [(2, .int (nI (i4 + 1))), (1, .int (x4_1 ||| ((vc.2 1) (f_J9_floorMod_7cf53 ((vc.1 4) + (nI i4)) (16 : Int32)).toNatClampNeg))), (0, .ref a)]) hx hb dX5_nextStampsByPegs_48 hl (k := 1) rfl (nI_1 i4) (by decide) rfl (fun ls hl => ?_)
      refine lv_goto (tgt := 4) hx hb dX5_nextStampsByPegs_51 (by decide) ?_
      have E : (f_X5_nextStampsByPegs_L4 vc (n4 + 1) i4 x4_1) = (f_X5_nextStampsByPegs_L4 vc n4 (i4 + 1) (x4_1 ||| ((vc.2 1) (f_J9_floorMod_7cf53 ((vc.1 4) + (nI i4)) (16 : Int32)).toNatClampNeg))) := rfl
      rw [E] at kx
      exact ih4 (i4 + 1) (by omega) (x4_1 ||| ((vc.2 1) (f_J9_floorMod_7cf53 ((vc.1 4) + (nI i4)) (16 : Int32)).toNatClampNeg)) _ _ _  hP hD hS (lv_sub hl [0, 1, 2] rfl) kx
  refine L4 (zfu ((vc.2 0) 0).toNatClampNeg) 0 (by rw [zfu_eq]; omega) (0 : Int32) _ _ _  hP hD hS (lv_sub hl [0, 1, 2] rfl) (fun H locs ls hP hD hS hl => ?_)
  refine lv_iload_n hx hb dX5_nextStampsByPegs_54 rfl (lv_at hl 0 rfl) ?_
  have E : (f_X5_nextStampsByPegs vc vh vp vs vt VH VS) = (f_X5_nextStampsByPegs_L4 vc (zfu ((vc.2 0) 0).toNatClampNeg) 0 (0 : Int32)) := rfl
  exact hret _ _ _ _ _ _ dX5_nextStampsByPegs_55 E.symm (rfl) rfl hP hD hS
