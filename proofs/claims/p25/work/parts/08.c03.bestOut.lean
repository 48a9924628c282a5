abbrev rm_X5_bestOut : Room := { frames := 6, cells := 0, slots := 0, locals := 130 }
set_option maxRecDepth 20000 in
theorem zin_X5_bestOut_X0 : ∀ w ∈ wsX00, w ∈ wsX5_bestOut := by decide +kernel
set_option maxRecDepth 20000 in
theorem zin_X5_bestOut_X1 : ∀ w ∈ wsX10, w ∈ wsX5_bestOut := by decide +kernel
set_option maxRecDepth 20000 in
theorem zin_X5_bestOut_X5 : ∀ w ∈ wsX50, w ∈ wsX5_bestOut := by decide +kernel
def r_X5_bestOut_7 (vc : zCV) (vh : zCV) (vp : zCV) (vs : zCV) (vt : zCV) (VH : (Nat → zCV)) (VS : (Nat → zCV)) : Int32 × zCV := (f_X5_ifStepped vc vh vp vs vt VH VS (64 : Int32) (1 : Int32))
def r_X5_bestOut_39 (vc : zCV) (i13 : Nat) (i22 : Nat) : Int32 := (f_X1_hasPeg vc (nI i13) (nI i22))
def r_X5_bestOut_64 (vc : zCV) (vh : zCV) (vp : zCV) (vs : zCV) (VH : (Nat → zCV)) (VS : (Nat → zCV)) (i13 : Nat) (i22 : Nat) (w22_5 : zCV) : Int32 × zCV := (f_X5_rightWithRow vc vh vp vs w22_5 VH VS (nI i13) (((vc.2 1) (nI i13).toNatClampNeg) ^^^ ((1 : Int32) <<< ((nI i22) &&& 31))))
def f_X5_bestOut_L22 (vc : zCV) (vh : zCV) (vp : zCV) (vs : zCV) (VH : (Nat → zCV)) (VS : (Nat → zCV)) (i13 : Nat) : Nat → Nat → Int32 → Int32 → zCV → Int32 × Int32 × zCV
  | 0, i22, x22_1, x22_2, w22_5 => (x22_1, x22_2, w22_5)
  | n22 + 1, i22, x22_1, x22_2, w22_5 => if (r_X5_bestOut_39 vc i13 i22) = (0 : Int32) then ((f_X5_bestOut_L22 vc vh vp vs VH VS i13 n22 (i22 + 1) x22_1 x22_2 w22_5)) else (if ((r_X5_bestOut_64 vc vh vp vs VH VS i13 i22 w22_5).1) ≤ x22_2 then ((f_X5_bestOut_L22 vc vh vp vs VH VS i13 n22 (i22 + 1) x22_1 x22_2 (r_X5_bestOut_64 vc vh vp vs VH VS i13 i22 w22_5).2)) else ((f_X5_bestOut_L22 vc vh vp vs VH VS i13 n22 (i22 + 1) (((nI i13) * (6 : Int32)) + (nI i22)) ((r_X5_bestOut_64 vc vh vp vs VH VS i13 i22 w22_5).1) (r_X5_bestOut_64 vc vh vp vs VH VS i13 i22 w22_5).2)))
def f_X5_bestOut_L13 (vc : zCV) (vh : zCV) (vp : zCV) (vs : zCV) (VH : (Nat → zCV)) (VS : (Nat → zCV)) : Nat → Nat → Int32 → Int32 → zCV → Int32 × Int32 × zCV
  | 0, i13, x13_1, x13_2, w13_5 => (x13_1, x13_2, w13_5)
  | n13 + 1, i13, x13_1, x13_2, w13_5 => (f_X5_bestOut_L13 vc vh vp vs VH VS n13 (i13 + 1) (f_X5_bestOut_L22 vc vh vp vs VH VS i13 (zfu 6) 0 x13_1 x13_2 w13_5).1 (f_X5_bestOut_L22 vc vh vp vs VH VS i13 (zfu 6) 0 x13_1 x13_2 w13_5).2.1 (f_X5_bestOut_L22 vc vh vp vs VH VS i13 (zfu 6) 0 x13_1 x13_2 w13_5).2.2)
def f_X5_bestOut (vc : zCV) (vh : zCV) (vp : zCV) (vs : zCV) (vt : zCV) (VH : (Nat → zCV)) (VS : (Nat → zCV)) : Int32 × zCV := ((f_X5_bestOut_L13 vc vh vp vs VH VS (zfu 16) 0 (-6 : Int32) ((r_X5_bestOut_7 vc vh vp vs vt VH VS).1) (r_X5_bestOut_7 vc vh vp vs vt VH VS).2).1, (f_X5_bestOut_L13 vc vh vp vs VH VS (zfu 16) 0 (-6 : Int32) ((r_X5_bestOut_7 vc vh vp vs vt VH VS).1) (r_X5_bestOut_7 vc vh vp vs vt VH VS).2).2.2)
set_option maxRecDepth 100000 in
set_option maxHeartbeats 4000000 in
theorem m_X5_bestOut (l : Launch) (g : zG) (a : Nat) (qc qh qp qs qt : Nat → Nat) (QH QS : Nat → Nat → Nat) (vc vh vp vs vt : zCV) (VH VS : Nat → zCV) (hj : vc.1 5 = 0 ∨ vc.1 5 = 1) (hf : vc.1 8 = 0 ∨ vc.1 8 = 1) (hat : vp_in (vc.1 4) 16) : ZI l yX5_bestOut wsX5_bestOut rm_X5_bestOut g ((po a (qc 0) (qt 0) (qh 0) (qp 0) (qs 0) (qs 1)) ++ ((ck g qc vc) ++ ((hi g qh (fun j => some (QH j 0)) vh) ++ ((pd g qp vp) ++ ((sl g qs (fun j => some (QS j 0)) vs) ++ ((ck g qt vt) ++ ((hs g QH VH) ++ ((ss g QS VS))))))))) [.ref a] (f_X5_bestOut vc vh vp vs vt VH VS).1 ((po a (qc 0) (qt 0) (qh 0) (qp 0) (qs 0) (qs 1)) ++ ((ck g qc vc) ++ ((hi g qh (fun j => some (QH j 0)) vh) ++ ((pd g qp vp) ++ ((sl g qs (fun j => some (QS j 0)) vs) ++ ((ck g qt (f_X5_bestOut vc vh vp vs vt VH VS).2) ++ ((hs g QH VH) ++ ((ss g QS VS))))))))) := by
  refine zopenI (cc := cX5_bestOut) (maxL := 6) (ret := .int) (by decide +kernel) rfl (Nat.le_of_ble_eq_true rfl) ?_
  intro p e s m below meth c A Q ls hx hb hml hown hts hP hK hD hA hN hl hret
  have hS : va_S A s.heap s.heap [] := va_S.rf
  have hl : lv_has ls 6 [(0, .ref a)] := hl
  have hown : s.vm.findClass RX5 = some m.cls := hown
  refine lv_bipush (v := (-6 : Int32)) hx hb dX5_bestOut_0 (by decide) ?_
  refine lv_istore_n (lv' := [(1, .int (-6 : Int32)), (0, .ref a)]) hx hb dX5_bestOut_2 rfl hl (by decide) rfl (fun ls hl => ?_)
  refine lv_aload_n hx hb dX5_bestOut_3 rfl (lv_at hl 1 rfl) ?_
  refine lv_bipush (v := (64 : Int32)) hx hb dX5_bestOut_4 (by decide) ?_
  refine lv_iconst (v := (1 : Int32)) hx hb dX5_bestOut_6 (by decide) ?_
  refine zcVi (n := 2) (As := [.int (64 : Int32), .int (1 : Int32)]) (rest := []) (Xr := _) (Xn := ((po a (qc 0) (qt 0) (qh 0) (qp 0) (qs 0) (qs 1)) ++ ((ck g qc vc) ++ ((hi g qh (fun j => some (QH j 0)) vh) ++ ((pd g qp vp) ++ ((sl g qs (fun j => some (QS j 0)) vs) ++ ((ck g qt (r_X5_bestOut_7 vc vh vp vs vt VH VS).2) ++ ((hs g QH VH) ++ ((ss g QS VS)))))))))) (ci := 5) (C := RX5) (T := TX5) (N := 6) (q0 := 0) hx hb hml hown hts hN (m_X5_ifStepped l g a qc qh qp qs qt QH QS vc vh vp vs vt VH VS (64 : Int32) (1 : Int32) hj hf hat) gX5_bestOut_X5_ifStepped rfl (by decide +kernel) ⟨rfl, rfl⟩ ⟨Nat.le_of_ble_eq_true rfl, Nat.le_of_ble_eq_true rfl⟩ hK hP hD hS hA (zsplit (L := [(po a (qc 0) (qt 0) (qh 0) (qp 0) (qs 0) (qs 1)), (ck g qc vc), (hi g qh (fun j => some (QH j 0)) vh), (pd g qp vp), (sl g qs (fun j => some (QS j 0)) vs), (ck g qt vt), (hs g QH VH), (ss g QS VS)]) (Lc := [(po a (qc 0) (qt 0) (qh 0) (qp 0) (qs 0) (qs 1)), (ck g qc vc), (hi g qh (fun j => some (QH j 0)) vh), (pd g qp vp), (sl g qs (fun j => some (QS j 0)) vs), (ck g qt vt), (hs g QH VH), (ss g QS VS)]) (Lr := []) (List.Perm.refl _)) rfl rfl rfl hl.1 rfl (Nat.le_of_ble_eq_true rfl) dX5_bestOut_7 ⟨Nat.zero_le _, Nat.zero_le _⟩ (zback (L := [(po a (qc 0) (qt 0) (qh 0) (qp 0) (qs 0) (qs 1)), (ck g qc vc), (hi g qh (fun j => some (QH j 0)) vh), (pd g qp vp), (sl g qs (fun j => some (QS j 0)) vs), (ck g qt (r_X5_bestOut_7 vc vh vp vs vt VH VS).2), (hs g QH VH), (ss g QS VS)]) (Lc := [(po a (qc 0) (qt 0) (qh 0) (qp 0) (qs 0) (qs 1)), (ck g qc vc), (hi g qh (fun j => some (QH j 0)) vh), (pd g qp vp), (sl g qs (fun j => some (QS j 0)) vs), (ck g qt (r_X5_bestOut_7 vc vh vp vs vt VH VS).2), (hs g QH VH), (ss g QS VS)]) (Lr := []) (List.Perm.refl _)) (fun H locs hP hD hS => ?_)
  refine lv_istore_n (lv' := [(2, .int ((r_X5_bestOut_7 vc vh vp vs vt VH VS).1)), (1, .int (-6 : Int32)), (0, .ref a)]) hx hb dX5_bestOut_10 rfl hl (by decide) rfl (fun ls hl => ?_)
  refine lv_iconst (v := (0 : Int32)) hx hb dX5_bestOut_11 (by decide) ?_
  refine lv_istore_n (lv' := [(3, .int (0 : Int32)), (2, .int ((r_X5_bestOut_7 vc vh vp vs vt VH VS).1)), (1, .int (-6 : Int32)), (0, .ref a)]) hx hb dX5_bestOut_12 rfl hl (by decide) rfl (fun ls hl => ?_)
  have L13 : ∀ (n13 : Nat) (i13 : Nat), i13 + n13 = 16 → ∀ (x13_1 : Int32) (x13_2 : Int32) (w13_5 : zCV) (H : Heap) (locs : List Loc) (ls : Array Slot), va_P g.1 vwCl ((po a (qc 0) (qt 0) (qh 0) (qp 0) (qs 0) (qs 1)) ++ ((ck g qc vc) ++ ((hi g qh (fun j => some (QH j 0)) vh) ++ ((pd g qp vp) ++ ((sl g qs (fun j => some (QS j 0)) vs) ++ ((ck g qt w13_5) ++ ((hs g QH VH) ++ ((ss g QS VS))))))))) H → va_D A ((po a (qc 0) (qt 0) (qh 0) (qp 0) (qs 0) (qs 1)) ++ ((ck g qc vc) ++ ((hi g qh (fun j => some (QH j 0)) vh) ++ ((pd g qp vp) ++ ((sl g qs (fun j => some (QS j 0)) vs) ++ ((ck g qt w13_5) ++ ((hs g QH VH) ++ ((ss g QS VS))))))))) → va_S A s.heap H locs → lv_has ls 6 [(3, .int (nI i13)), (2, .int x13_2), (1, .int x13_1), (0, .ref a)] → (∀ (H : Heap) (locs : List Loc) (ls : Array Slot), va_P g.1 vwCl ((po a (qc 0) (qt 0) (qh 0) (qp 0) (qs 0) (qs 1)) ++ ((ck g qc vc) ++ ((hi g qh (fun j => some (QH j 0)) vh) ++ ((pd g qp vp) ++ ((sl g qs (fun j => some (QS j 0)) vs) ++ ((ck g qt (f_X5_bestOut_L13 vc vh vp vs VH VS n13 i13 x13_1 x13_2 w13_5).2.2) ++ ((hs g QH VH) ++ ((ss g QS VS))))))))) H → va_D A ((po a (qc 0) (qt 0) (qh 0) (qp 0) (qs 0) (qs 1)) ++ ((ck g qc vc) ++ ((hi g qh (fun j => some (QH j 0)) vh) ++ ((pd g qp vp) ++ ((sl g qs (fun j => some (QS j 0)) vs) ++ ((ck g qt (f_X5_bestOut_L13 vc vh vp vs VH VS n13 i13 x13_1 x13_2 w13_5).2.2) ++ ((hs g QH VH) ++ ((ss g QS VS))))))))) → va_S A s.heap H locs → lv_has ls 6 [(2, .int (f_X5_bestOut_L13 vc vh vp vs VH VS n13 i13 x13_1 x13_2 w13_5).2.1), (1, .int (f_X5_bestOut_L13 vc vh vp vs VH VS n13 i13 x13_1 x13_2 w13_5).1), (0, .ref a)] → W p l e rm_X5_bestOut s m ([.ref a] : List Value).toArray below meth c H locs 0 0 Q (F0 m 98 ls [])) → W p l e rm_X5_bestOut s m ([.ref a] : List Value).toArray below meth c H locs 0 0 Q (F0 m 13 ls []) := by
    intro n13
    induction n13 with
    | zero =>
      intro i13 hin13 x13_1 x13_2 w13_5 H locs ls hP hD hS hl kx
      refine lv_iload_n hx hb dX5_bestOut_13 rfl (lv_at hl 0 rfl) ?_
      refine lv_bipush (v := (16 : Int32)) hx hb dX5_bestOut_14 (by decide) ?_
      refine lv_icmp_ge (tgt := 98) hx hb dX5_bestOut_16 (by decide) (fun c_16 => ?_) (fun c_16 => ?_)
      rotate_left
      · exact absurd (by rw [show i13 = 16 by omega]; decide) c_16
      have E : (f_X5_bestOut_L13 vc vh vp vs VH VS 0 i13 x13_1 x13_2 w13_5) = (x13_1, x13_2, w13_5) := rfl
      rw [E] at kx
      exact kx _ _ _ hP hD hS (lv_sub hl [1, 2, 3] rfl)
    | succ n13 ih13 =>
      intro i13 hin13 x13_1 x13_2 w13_5 H locs ls hP hD hS hl kx
      refine lv_iload_n hx hb dX5_bestOut_13 rfl (lv_at hl 0 rfl) ?_
      refine lv_bipush (v := (16 : Int32)) hx hb dX5_bestOut_14 (by decide) ?_
      refine lv_icmp_ge (tgt := 98) hx hb dX5_bestOut_16 (by decide) (fun c_16 => ?_) (fun c_16 => ?_)
      · exact absurd c_16 (nI_ge (a := i13) (b := 16) (by omega) (by omega))
      refine lv_iconst (v := (0 : Int32)) hx hb dX5_bestOut_19 (by decide) ?_
      refine lv_istore (lv' := [(4, .int (0 : Int32)), (3, .int (nI i13)), (2, .int x13_2), (1, .int x13_1), (0, .ref a)]) hx hb dX5_bestOut_20 hl (by decide) rfl (fun ls hl => ?_)
      have L22 : ∀ (n22 : Nat) (i22 : Nat), i22 + n22 = 6 → ∀ (x22_1 : Int32) (x22_2 : Int32) (w22_5 : zCV) (H : Heap) (locs : List Loc) (ls : Array Slot), va_P g.1 vwCl ((po a (qc 0) (qt 0) (qh 0) (qp 0) (qs 0) (qs 1)) ++ ((ck g qc vc) ++ ((hi g qh (fun j => some (QH j 0)) vh) ++ ((pd g qp vp) ++ ((sl g qs (fun j => some (QS j 0)) vs) ++ ((ck g qt w22_5) ++ ((hs g QH VH) ++ ((ss g QS VS))))))))) H → va_D A ((po a (qc 0) (qt 0) (qh 0) (qp 0) (qs 0) (qs 1)) ++ ((ck g qc vc) ++ ((hi g qh (fun j => some (QH j 0)) vh) ++ ((pd g qp vp) ++ ((sl g qs (fun j => some (QS j 0)) vs) ++ ((ck g qt w22_5) ++ ((hs g QH VH) ++ ((ss g QS VS))))))))) → va_S A s.heap H locs → lv_has ls 6 [(4, .int (nI i22)), (3, .int (nI i13)), (2, .int x22_2), (1, .int x22_1), (0, .ref a)] → (∀ (H : Heap) (locs : List Loc) (ls : Array Slot), va_P g.1 vwCl ((po a (qc 0) (qt 0) (qh 0) (qp 0) (qs 0) (qs 1)) ++ ((ck g qc vc) ++ ((hi g qh (fun j => some (QH j 0)) vh) ++ ((pd g qp vp) ++ ((sl g qs (fun j => some (QS j 0)) vs) ++ ((ck g qt (f_X5_bestOut_L22 vc vh vp vs VH VS i13 n22 i22 x22_1 x22_2 w22_5).2.2) ++ ((hs g QH VH) ++ ((ss g QS VS))))))))) H → va_D A ((po a (qc 0) (qt 0) (qh 0) (qp 0) (qs 0) (qs 1)) ++ ((ck g qc vc) ++ ((hi g qh (fun j => some (QH j 0)) vh) ++ ((pd g qp vp) ++ ((sl g qs (fun j => some (QS j 0)) vs) ++ ((ck g qt (f_X5_bestOut_L22 vc vh vp vs VH VS i13 n22 i22 x22_1 x22_2 w22_5).2.2) ++ ((hs g QH VH) ++ ((ss g QS VS))))))))) → va_S A s.heap H locs → lv_has ls 6 [(3, .int (nI i13)), (2, .int (f_X5_bestOut_L22 vc vh vp vs VH VS i13 n22 i22 x22_1 x22_2 w22_5).2.1), (1, .int (f_X5_bestOut_L22 vc vh vp vs VH VS i13 n22 i22 x22_1 x22_2 w22_5).1), (0, .ref a)] → W p l e rm_X5_bestOut s m ([.ref a] : List Value).toArray below meth c H locs 0 0 Q (F0 m 92 ls [])) → W p l e rm_X5_bestOut s m ([.ref a] : List Value).toArray below meth c H locs 0 0 Q (F0 m 22 ls []) := by
        intro n22
        induction n22 with
        | zero =>
          intro i22 hin22 x22_1 x22_2 w22_5 H locs ls hP hD hS hl kx
          refine lv_iload hx hb dX5_bestOut_22 (lv_at hl 0 rfl) ?_
          refine lv_bipush (v := (6 : Int32)) hx hb dX5_bestOut_24 (by decide) ?_
          refine lv_icmp_ge (tgt := 92) hx hb dX5_bestOut_26 (by decide) (fun c_26 => ?_) (fun c_26 => ?_)
          rotate_left
          · exact absurd (by rw [show i22 = 6 by omega]; decide) c_26
          have E : (f_X5_bestOut_L22 vc vh vp vs VH VS i13 0 i22 x22_1 x22_2 w22_5) = (x22_1, x22_2, w22_5) := rfl
          rw [E] at kx
          exact kx _ _ _ hP hD hS (lv_sub hl [1, 2, 3, 4] rfl)
        | succ n22 ih22 =>
          intro i22 hin22 x22_1 x22_2 w22_5 H locs ls hP hD hS hl kx
          refine lv_iload hx hb dX5_bestOut_22 (lv_at hl 0 rfl) ?_
          refine lv_bipush (v := (6 : Int32)) hx hb dX5_bestOut_24 (by decide) ?_
          refine lv_icmp_ge (tgt := 92) hx hb dX5_bestOut_26 (by decide) (fun c_26 => ?_) (fun c_26 => ?_)
          · exact absurd c_26 (nI_ge (a := i22) (b := 6) (by omega) (by omega))
          refine lv_aload_n hx hb dX5_bestOut_29 rfl (lv_at hl 4 rfl) ?_
          refine va_get (D := g.1) (ci := 5) (v := .ref (qc 0)) (C := RX5) (T := TX5) (N := 6) hx hb hts (zin_X5_bestOut_X5) hown hK hP 0 rfl rfl 0 (by decide) (hts (.fieldLink RX5 10 "PegClerks" "clerk" "LPegClerks$Clerk;") (by decide +kernel)) (fun _ h9 => h9) rfl dX5_bestOut_30 ?_
          refine va_get (D := g.1) (ci := 0) (v := .ref (qc 2)) (C := RX0) (T := TX0) (N := 13) hx hb hts (zin_X5_bestOut_X0) hown hK hP 1 rfl rfl 1 (by decide) (hts (.fieldLink RX5 62 "PegClerks$Clerk" "drum" "LPegClerks$Drum;") (by decide +kernel)) (fun _ h9 => h9) rfl dX5_bestOut_33 ?_
          refine lv_iload_n hx hb dX5_bestOut_36 rfl (lv_at hl 1 rfl) ?_
          refine lv_iload hx hb dX5_bestOut_37 (lv_at hl 0 rfl) ?_
          refine zcVi (n := 2) (As := [.int (nI i13), .int (nI i22)]) (rest := []) (Xr := _) (Xn := ((po a (qc 0) (qt 0) (qh 0) (qp 0) (qs 0) (qs 1)) ++ ((ck g qc vc) ++ ((hi g qh (fun j => some (QH j 0)) vh) ++ ((pd g qp vp) ++ ((sl g qs (fun j => some (QS j 0)) vs) ++ ((ck g qt w22_5) ++ ((hs g QH VH) ++ ((ss g QS VS)))))))))) (ci := 1) (C := RX1) (T := TX1) (N := 4) (q0 := 2) hx hb hml hown hts hN (m_X1_hasPeg l g qc vc (nI i13) (nI i22) (vp_in_nI (by omega) (by omega))) gX5_bestOut_X1_hasPeg rfl (by decide +kernel) ⟨rfl, rfl⟩ ⟨Nat.le_of_ble_eq_true rfl, Nat.le_of_ble_eq_true rfl⟩ hK hP hD hS hA (zsplit (L := [(po a (qc 0) (qt 0) (qh 0) (qp 0) (qs 0) (qs 1)), (ck g qc vc), (hi g qh (fun j => some (QH j 0)) vh), (pd g qp vp), (sl g qs (fun j => some (QS j 0)) vs), (ck g qt w22_5), (hs g QH VH), (ss g QS VS)]) (Lc := [(ck g qc vc)]) (Lr := [(po a (qc 0) (qt 0) (qh 0) (qp 0) (qs 0) (qs 1)), (hi g qh (fun j => some (QH j 0)) vh), (pd g qp vp), (sl g qs (fun j => some (QS j 0)) vs), (ck g qt w22_5), (hs g QH VH), (ss g QS VS)]) (List.Perm.swap _ _ _)) rfl rfl rfl hl.1 rfl (Nat.le_of_ble_eq_true rfl) dX5_bestOut_39 ⟨Nat.zero_le _, Nat.zero_le _⟩ (zback (L := [(po a (qc 0) (qt 0) (qh 0) (qp 0) (qs 0) (qs 1)), (ck g qc vc), (hi g qh (fun j => some (QH j 0)) vh), (pd g qp vp), (sl g qs (fun j => some (QS j 0)) vs), (ck g qt w22_5), (hs g QH VH), (ss g QS VS)]) (Lc := [(ck g qc vc)]) (Lr := [(po a (qc 0) (qt 0) (qh 0) (qp 0) (qs 0) (qs 1)), (hi g qh (fun j => some (QH j 0)) vh), (pd g qp vp), (sl g qs (fun j => some (QS j 0)) vs), (ck g qt w22_5), (hs g QH VH), (ss g QS VS)]) (List.Perm.swap _ _ _)) (fun H locs hP hD hS => ?_)
          refine lv_if_eq (tgt := 86) hx hb dX5_bestOut_42 (by decide) (fun c_42 => ?_) (fun c_42 => ?_)
          · refine lv_iinc (v := (nI (i22 + 1))) (lv' := [(4, .int (nI (i22 + 1))), (3, .int (nI i13)), (2, .int x22_2), (1, .int x22_1), (0, .ref a)]) hx hb dX5_bestOut_86 hl (k := 0) rfl (nI_1 i22) (by decide) rfl (fun ls hl => ?_)
            refine lv_goto (tgt := 22) hx hb dX5_bestOut_89 (by decide) ?_
            have E : (f_X5_bestOut_L22 vc vh vp vs VH VS i13 (n22 + 1) i22 x22_1 x22_2 w22_5) = (f_X5_bestOut_L22 vc vh vp vs VH VS i13 n22 (i22 + 1) x22_1 x22_2 w22_5) := (if_pos c_42).trans rfl
            rw [E] at kx
            exact ih22 (i22 + 1) (by omega) x22_1 x22_2 w22_5 _ _ _  hP hD hS (lv_sub hl [0, 1, 2, 3, 4] rfl) kx
          · refine lv_aload_n hx hb dX5_bestOut_45 rfl (lv_at hl 4 rfl) ?_
            refine lv_iload_n hx hb dX5_bestOut_46 rfl (lv_at hl 1 rfl) ?_
            refine lv_aload_n hx hb dX5_bestOut_47 rfl (lv_at hl 4 rfl) ?_
            refine va_get (D := g.1) (ci := 5) (v := .ref (qc 0)) (C := RX5) (T := TX5) (N := 6) hx hb hts (zin_X5_bestOut_X5) hown hK hP 0 rfl rfl 0 (by decide) (hts (.fieldLink RX5 10 "PegClerks" "clerk" "LPegClerks$Clerk;") (by decide +kernel)) (fun _ h9 => h9) rfl dX5_bestOut_48 ?_
            refine va_get (D := g.1) (ci := 0) (v := .ref (qc 2)) (C := RX0) (T := TX0) (N := 13) hx hb hts (zin_X5_bestOut_X0) hown hK hP 1 rfl rfl 1 (by decide) (hts (.fieldLink RX5 62 "PegClerks$Clerk" "drum" "LPegClerks$Drum;") (by decide +kernel)) (fun _ h9 => h9) rfl dX5_bestOut_51 ?_
            refine va_get (D := g.1) (ci := 1) (v := .ref (qc 3)) (C := RX1) (T := TX1) (N := 4) hx hb hts (zin_X5_bestOut_X1) hown hK hP 3 rfl rfl 0 (by decide) (hts (.fieldLink RX5 66 "PegClerks$Drum" "rows" "[I") (by decide +kernel)) (fun _ h9 => h9) rfl dX5_bestOut_54 ?_
            refine lv_iload_n hx hb dX5_bestOut_57 rfl (lv_at hl 1 rfl) ?_
            refine z_iald (f := (vc.2 1)) (k := (nI i13).toNatClampNeg) hx hb hK hP 4 0 rfl rfl (vp_in_nI (by omega) (by omega)) rfl dX5_bestOut_58 ?_
            refine lv_iconst (v := (1 : Int32)) hx hb dX5_bestOut_59 (by decide) ?_
            refine lv_iload hx hb dX5_bestOut_60 (lv_at hl 0 rfl) ?_
            refine lv_ishl hx hb dX5_bestOut_62 ?_
            refine lv_ixor hx hb dX5_bestOut_63 ?_
            refine zcVi (n := 2) (As := [.int (nI i13), .int (((vc.2 1) (nI i13).toNatClampNeg) ^^^ ((1 : Int32) <<< ((nI i22) &&& 31)))]) (rest := []) (Xr := _) (Xn := ((po a (qc 0) (qt 0) (qh 0) (qp 0) (qs 0) (qs 1)) ++ ((ck g qc vc) ++ ((hi g qh (fun j => some (QH j 0)) vh) ++ ((pd g qp vp) ++ ((sl g qs (fun j => some (QS j 0)) vs) ++ ((ck g qt (r_X5_bestOut_64 vc vh vp vs VH VS i13 i22 w22_5).2) ++ ((hs g QH VH) ++ ((ss g QS VS)))))))))) (ci := 5) (C := RX5) (T := TX5) (N := 6) (q0 := 0) hx hb hml hown hts hN (m_X5_rightWithRow l g a qc qh qp qs qt QH QS vc vh vp vs w22_5 VH VS (nI i13) (((vc.2 1) (nI i13).toNatClampNeg) ^^^ ((1 : Int32) <<< ((nI i22) &&& 31))) hj hf hat (vp_in_nI (by omega) (by omega))) gX5_bestOut_X5_rightWithRow rfl (by decide +kernel) ⟨rfl, rfl⟩ ⟨Nat.le_of_ble_eq_true rfl, Nat.le_of_ble_eq_true rfl⟩ hK hP hD hS hA (zsplit (L := [(po a (qc 0) (qt 0) (qh 0) (qp 0) (qs 0) (qs 1)), (ck g qc vc), (hi g qh (fun j => some (QH j 0)) vh), (pd g qp vp), (sl g qs (fun j => some (QS j 0)) vs), (ck g qt w22_5), (hs g QH VH), (ss g QS VS)]) (Lc := [(po a (qc 0) (qt 0) (qh 0) (qp 0) (qs 0) (qs 1)), (ck g qc vc), (hi g qh (fun j => some (QH j 0)) vh), (pd g qp vp), (sl g qs (fun j => some (QS j 0)) vs), (ck g qt w22_5), (hs g QH VH), (ss g QS VS)]) (Lr := []) (List.Perm.refl _)) rfl rfl rfl hl.1 rfl (Nat.le_of_ble_eq_true rfl) dX5_bestOut_64 ⟨Nat.zero_le _, Nat.zero_le _⟩ (zback (L := [(po a (qc 0) (qt 0) (qh 0) (qp 0) (qs 0) (qs 1)), (ck g qc vc), (hi g qh (fun j => some (QH j 0)) vh), (pd g qp vp), (sl g qs (fun j => some (QS j 0)) vs), (ck g qt (r_X5_bestOut_64 vc vh vp vs VH VS i13 i22 w22_5).2), (hs g QH VH), (ss g QS VS)]) (Lc := [(po a (qc 0) (qt 0) (qh 0) (qp 0) (qs 0) (qs 1)), (ck g qc vc), (hi g qh (fun j => some (QH j 0)) vh), (pd g qp vp), (sl g qs (fun j => some (QS j 0)) vs), (ck g qt (r_X5_bestOut_64 vc vh vp vs VH VS i13 i22 w22_5).2), (hs g QH VH), (ss g QS VS)]) (Lr := []) (List.Perm.refl _)) (fun H locs hP hD hS => ?_)
            refine lv_istore (lv' := [(5, .int ((r_X5_bestOut_64 vc vh vp vs VH VS i13 i22 w22_5).1)), (4, .int (nI i22)), (3, .int (nI i13)), (2, .int x22_2), (1, .int x22_1), (0, .ref a)]) hx hb dX5_bestOut_67 hl (by decide) rfl (fun ls hl => ?_)
            refine lv_iload hx hb dX5_bestOut_69 (lv_at hl 0 rfl) ?_
            refine lv_iload_n hx hb dX5_bestOut_71 rfl (lv_at hl 3 rfl) ?_
            refine lv_icmp_le (tgt := 86) hx hb dX5_bestOut_72 (by decide) (fun c_72 => ?_) (fun c_72 => ?_)
            · refine lv_iinc (v := (nI (i22 + 1))) (lv' := [(4, .int (nI (i22 + 1))), (5, .int ((r_X5_bestOut_64 vc vh vp vs VH VS i13 i22 w22_5).1)), (3, .int (nI i13)), (2, .int x22_2), (1, .int x22_1), (0, .ref a)]) hx hb dX5_bestOut_86 hl (k := 1) rfl (nI_1 i22) (by decide) rfl (fun ls hl => ?_)
              refine lv_goto (tgt := 22) hx hb dX5_bestOut_89 (by decide) ?_
              have E : (f_X5_bestOut_L22 vc vh vp vs VH VS i13 (n22 + 1) i22 x22_1 x22_2 w22_5) = (f_X5_bestOut_L22 vc vh vp vs VH VS i13 n22 (i22 + 1) x22_1 x22_2 (r_X5_bestOut_64 vc vh vp vs VH VS i13 i22 w22_5).2) := (if_neg c_42).trans ((if_pos c_72).trans rfl)
              rw [E] at kx
              exact ih22 (i22 + 1) (by omega) x22_1 x22_2 (r_X5_bestOut_64 vc vh vp vs VH VS i13 i22 w22_5).2 _ _ _  hP hD hS (lv_sub hl [0, 2, 3, 4, 5] rfl) kx
            · refine lv_iload hx hb dX5_bestOut_75 (lv_at hl 0 rfl) ?_
              refine lv_istore_n (lv' := [(2, .int ((r_X5_bestOut_64 vc vh vp vs VH VS i13 i22 w22_5).1)), (5, .int ((r_X5_bestOut_64 vc vh vp vs VH VS i13 i22 w22_5).1)), (4, .int (nI i22)), (3, .int (nI i13)), (1, .int x22_1), (0, .ref a)]) hx hb dX5_bestOut_77 rfl hl (by decide) rfl (fun ls hl => ?_)
              refine lv_iload_n hx hb dX5_bestOut_78 rfl (lv_at hl 3 rfl) ?_
              refine lv_bipush (v := (6 : Int32)) hx hb dX5_bestOut_79 (by decide) ?_
              refine lv_imul hx hb dX5_bestOut_81 ?_
              refine lv_iload hx hb dX5_bestOut_82 (lv_at hl 2 rfl) ?_
              refine lv_iadd hx hb dX5_bestOut_84 ?_
              refine lv_istore_n (lv' := [(1, .int (((nI i13) * (6 : Int32)) + (nI i22))), (2, .int ((r_X5_bestOut_64 vc vh vp vs VH VS i13 i22 w22_5).1)), (5, .int ((r_X5_bestOut_64 vc vh vp vs VH VS i13 i22 w22_5).1)), (4, .int (nI i22)), (3, .int (nI i13)), (0, .ref a)]) hx hb dX5_bestOut_85 rfl hl (by decide) rfl (fun ls hl => ?_)
              refine lv_iinc (v := (nI (i22 + 1))) (lv' := [(4, .int (nI (i22 + 1))), (1, .int (((nI i13) * (6 : Int32)) + (nI i22))), (2, .int ((r_X5_bestOut_64 vc vh vp vs VH VS i13 i22 w22_5).1)), (5, .int ((r_X5_bestOut_64 vc vh vp vs VH VS i13 i22 w22_5).1)), (3, .int (nI i13)), (0, .ref a)]) hx hb dX5_bestOut_86 hl (k := 3) rfl (nI_1 i22) (by decide) rfl (fun ls hl => ?_)
              refine lv_goto (tgt := 22) hx hb dX5_bestOut_89 (by decide) ?_
              have E : (f_X5_bestOut_L22 vc vh vp vs VH VS i13 (n22 + 1) i22 x22_1 x22_2 w22_5) = (f_X5_bestOut_L22 vc vh vp vs VH VS i13 n22 (i22 + 1) (((nI i13) * (6 : Int32)) + (nI i22)) ((r_X5_bestOut_64 vc vh vp vs VH VS i13 i22 w22_5).1) (r_X5_bestOut_64 vc vh vp vs VH VS i13 i22 w22_5).2) := (if_neg c_42).trans ((if_neg c_72).trans rfl)
              rw [E] at kx
              exact ih22 (i22 + 1) (by omega) (((nI i13) * (6 : Int32)) + (nI i22)) ((r_X5_bestOut_64 vc vh vp vs VH VS i13 i22 w22_5).1) (r_X5_bestOut_64 vc vh vp vs VH VS i13 i22 w22_5).2 _ _ _  hP hD hS (lv_sub hl [0, 4, 2, 1, 5] rfl) kx
      refine L22 (zfu 6) 0 (by rw [zfu_eq]) x13_1 x13_2 w13_5 _ _ _  hP hD hS (lv_sub hl [0, 1, 2, 3, 4] rfl) (fun H locs ls hP hD hS hl => ?_)
      refine lv_iinc (v := (nI (i13 + 1))) (lv' := [(3, .int (nI (i13 + 1))), (2, .int (f_X5_bestOut_L22 vc vh vp vs VH VS i13 (zfu 6) 0 x13_1 x13_2 w13_5).2.1), (1, .int (f_X5_bestOut_L22 vc vh vp vs VH VS i13 (zfu 6) 0 x13_1 x13_2 w13_5).1), (0, .ref a)]) hx hb dX5_bestOut_92 hl (k := 0) rfl (nI_1 i13) (by decide) rfl (fun ls hl => ?_)
      refine lv_goto (tgt := 13) hx hb dX5_bestOut_95 (by decide) ?_
      have E : (f_X5_bestOut_L13 vc vh vp vs VH VS (n13 + 1) i13 x13_1 x13_2 w13_5) = (f_X5_bestOut_L13 vc vh vp vs VH VS n13 (i13 + 1) (f_X5_bestOut_L22 vc vh vp vs VH VS i13 (zfu 6) 0 x13_1 x13_2 w13_5).1 (f_X5_bestOut_L22 vc vh vp vs VH VS i13 (zfu 6) 0 x13_1 x13_2 w13_5).2.1 (f_X5_bestOut_L22 vc vh vp vs VH VS i13 (zfu 6) 0 x13_1 x13_2 w13_5).2.2) := rfl
      rw [E] at kx
      exact ih13 (i13 + 1) (by omega) (f_X5_bestOut_L22 vc vh vp vs VH VS i13 (zfu 6) 0 x13_1 x13_2 w13_5).1 (f_X5_bestOut_L22 vc vh vp vs VH VS i13 (zfu 6) 0 x13_1 x13_2 w13_5).2.1 (f_X5_bestOut_L22 vc vh vp vs VH VS i13 (zfu 6) 0 x13_1 x13_2 w13_5).2.2 _ _ _  hP hD hS (lv_sub hl [0, 1, 2, 3] rfl) kx
  refine L13 (zfu 16) 0 (by rw [zfu_eq]) (-6 : Int32) ((r_X5_bestOut_7 vc vh vp vs vt VH VS).1) (r_X5_bestOut_7 vc vh vp vs vt VH VS).2 _ _ _  hP hD hS (lv_sub hl [0, 1, 2, 3] rfl) (fun H locs ls hP hD hS hl => ?_)
  refine lv_iload_n hx hb dX5_bestOut_98 rfl (lv_at hl 1 rfl) ?_
  have E : (f_X5_bestOut vc vh vp vs vt VH VS) = ((f_X5_bestOut_L13 vc vh vp vs VH VS (zfu 16) 0 (-6 : Int32) ((r_X5_bestOut_7 vc vh vp vs vt VH VS).1) (r_X5_bestOut_7 vc vh vp vs vt VH VS).2).1, (f_X5_bestOut_L13 vc vh vp vs VH VS (zfu 16) 0 (-6 : Int32) ((r_X5_bestOut_7 vc vh vp vs vt VH VS).1) (r_X5_bestOut_7 vc vh vp vs vt VH VS).2).2.2) := rfl
  have e1 : (f_X5_bestOut_L13 vc vh vp vs VH VS (zfu 16) 0 (-6 : Int32) ((r_X5_bestOut_7 vc vh vp vs vt VH VS).1) (r_X5_bestOut_7 vc vh vp vs vt VH VS).2).1 = (f_X5_bestOut vc vh vp vs vt VH VS).1 := by rw [E]
  have e2 : ((po a (qc 0) (qt 0) (qh 0) (qp 0) (qs 0) (qs 1)) ++ ((ck g qc vc) ++ ((hi g qh (fun j => some (QH j 0)) vh) ++ ((pd g qp vp) ++ ((sl g qs (fun j => some (QS j 0)) vs) ++ ((ck g qt (f_X5_bestOut_L13 vc vh vp vs VH VS (zfu 16) 0 (-6 : Int32) ((r_X5_bestOut_7 vc vh vp vs vt VH VS).1) (r_X5_bestOut_7 vc vh vp vs vt VH VS).2).2.2) ++ ((hs g QH VH) ++ ((ss g QS VS))))))))) = ((po a (qc 0) (qt 0) (qh 0) (qp 0) (qs 0) (qs 1)) ++ ((ck g qc vc) ++ ((hi g qh (fun j => some (QH j 0)) vh) ++ ((pd g qp vp) ++ ((sl g qs (fun j => some (QS j 0)) vs) ++ ((ck g qt (f_X5_bestOut vc vh vp vs vt VH VS).2) ++ ((hs g QH VH) ++ ((ss g QS VS))))))))) := by rw [E]
  exact hret (f_X5_bestOut_L13 vc vh vp vs VH VS (zfu 16) 0 (-6 : Int32) ((r_X5_bestOut_7 vc vh vp vs vt VH VS).1) (r_X5_bestOut_7 vc vh vp vs vt VH VS).2).1 ((po a (qc 0) (qt 0) (qh 0) (qp 0) (qs 0) (qs 1)) ++ ((ck g qc vc) ++ ((hi g qh (fun j => some (QH j 0)) vh) ++ ((pd g qp vp) ++ ((sl g qs (fun j => some (QS j 0)) vs) ++ ((ck g qt (f_X5_bestOut_L13 vc vh vp vs VH VS (zfu 16) 0 (-6 : Int32) ((r_X5_bestOut_7 vc vh vp vs vt VH VS).1) (r_X5_bestOut_7 vc vh vp vs vt VH VS).2).2.2) ++ ((hs g QH VH) ++ ((ss g QS VS))))))))) _ _ _ _ dX5_bestOut_99 e1 (rfl) e2 hP hD hS
