abbrev rm_X5_nextStampsByStep : Room := { frames := 1, cells := 0, slots := 0, locals := 22 }
set_option maxRecDepth 20000 in
theorem zin_X5_nextStampsByStep_X0 : ∀ w ∈ wsX00, w ∈ wsX5_nextStampsByStep := by decide +kernel
set_option maxRecDepth 20000 in
theorem zin_X5_nextStampsByStep_X1 : ∀ w ∈ wsX10, w ∈ wsX5_nextStampsByStep := by decide +kernel
set_option maxRecDepth 20000 in
theorem zin_X5_nextStampsByStep_X5 : ∀ w ∈ wsX50, w ∈ wsX5_nextStampsByStep := by decide +kernel
def r_X5_nextStampsByStep_48 (vc : zCV) (x15_2 : Int32) (i31 : Nat) : Int32 := (f_X1_hasPeg vc x15_2 (nI i31))
def f_X5_nextStampsByStep_L31 (vc : zCV) (x15_2 : Int32) : Nat → Nat → Int32 → Int32
  | 0, i31, x31_1 => x31_1
  | n31 + 1, i31, x31_1 => if (r_X5_nextStampsByStep_48 vc x15_2 i31) = (0 : Int32) then ((f_X5_nextStampsByStep_L31 vc x15_2 n31 (i31 + 1) x31_1)) else ((f_X5_nextStampsByStep_L31 vc x15_2 n31 (i31 + 1) (x31_1 ||| ((1 : Int32) <<< ((nI i31) &&& 31)))))
def f_X5_nextStampsByStep_L15 (vc : zCV) : Nat → Nat → Int32 → Int32 → Int32 × Int32
  | 0, i15, x15_1, x15_2 => (x15_1, x15_2)
  | n15 + 1, i15, x15_1, x15_2 => (f_X5_nextStampsByStep_L15 vc n15 (i15 + 1) (f_X5_nextStampsByStep_L31 vc x15_2 (zfu 6) 0 x15_1) (f_X1_rowBehind x15_2))
def f_X5_nextStampsByStep (vc : zCV) (vh : zCV) (vp : zCV) (vs : zCV) (vt : zCV) (VH : (Nat → zCV)) (VS : (Nat → zCV)) : Int32 := (f_X5_nextStampsByStep_L15 vc (zfu ((vc.2 0) 0).toNatClampNeg) 0 (0 : Int32) (vc.1 4)).1
set_option maxRecDepth 100000 in
set_option maxHeartbeats 4000000 in
theorem m_X5_nextStampsByStep (l : Launch) (g : zG) (a : Nat) (qc qh qp qs qt : Nat → Nat) (QH QS : Nat → Nat → Nat) (vc vh vp vs vt : zCV) (VH VS : Nat → zCV) (hat : vp_in (vc.1 4) 16) (hfo : vp_in (vc.2 0 0) 9) : ZI l yX5_nextStampsByStep wsX5_nextStampsByStep rm_X5_nextStampsByStep g ((po a (qc 0) (qt 0) (qh 0) (qp 0) (qs 0) (qs 1)) ++ ((ck g qc vc) ++ ((hi g qh (fun j => some (QH j 0)) vh) ++ ((pd g qp vp) ++ ((sl g qs (fun j => some (QS j 0)) vs) ++ ((ck g qt vt) ++ ((hs g QH VH) ++ ((ss g QS VS))))))))) [.ref a] (f_X5_nextStampsByStep vc vh vp vs vt VH VS) ((po a (qc 0) (qt 0) (qh 0) (qp 0) (qs 0) (qs 1)) ++ ((ck g qc vc) ++ ((hi g qh (fun j => some (QH j 0)) vh) ++ ((pd g qp vp) ++ ((sl g qs (fun j => some (QS j 0)) vs) ++ ((ck g qt vt) ++ ((hs g QH VH) ++ ((ss g QS VS))))))))) := by
  refine zopenI (cc := cX5_nextStampsByStep) (maxL := 5) (ret := .int) (by decide +kernel) rfl (Nat.le_of_ble_eq_true rfl) ?_
  intro p e s m below meth c A Q ls hx hb hml hown hts hP hK hD hA hN hl hret
  have hS : va_S A s.heap s.heap [] := va_S.rf
  have hl : lv_has ls 5 [(0, .ref a)] := hl
  have hown : s.vm.findClass RX5 = some m.cls := hown
  refine lv_iconst (v := (0 : Int32)) hx hb dX5_nextStampsByStep_0 (by decide) ?_
  refine lv_istore_n (lv' := [(1, .int (0 : Int32)), (0, .ref a)]) hx hb dX5_nextStampsByStep_1 rfl hl (by decide) rfl (fun ls hl => ?_)
  refine lv_aload_n hx hb dX5_nextStampsByStep_2 rfl (lv_at hl 1 rfl) ?_
  refine va_get (D := g.1) (ci := 5) (v := .ref (qc 0)) (C := RX5) (T := TX5) (N := 6) hx hb hts (zin_X5_nextStampsByStep_X5) hown hK hP 0 rfl rfl 0 (by decide) (hts (.fieldLink RX5 10 "PegClerks" "clerk" "LPegClerks$Clerk;") (by decide +kernel)) (fun _ h9 => h9) rfl dX5_nextStampsByStep_3 ?_
  refine va_get (D := g.1) (ci := 0) (v := .ref (qc 2)) (C := RX0) (T := TX0) (N := 13) hx hb hts (zin_X5_nextStampsByStep_X0) hown hK hP 1 rfl rfl 1 (by decide) (hts (.fieldLink RX5 62 "PegClerks$Clerk" "drum" "LPegClerks$Drum;") (by decide +kernel)) (fun _ h9 => h9) rfl dX5_nextStampsByStep_6 ?_
  refine va_get (D := g.1) (ci := 1) (v := .int (vc.1 4)) (C := RX1) (T := TX1) (N := 4) hx hb hts (zin_X5_nextStampsByStep_X1) hown hK hP 3 rfl rfl 2 (by decide) (hts (.fieldLink RX5 103 "PegClerks$Drum" "at" "I") (by decide +kernel)) (fun _ h9 => h9) rfl dX5_nextStampsByStep_9 ?_
  refine lv_istore_n (lv' := [(2, .int (vc.1 4)), (1, .int (0 : Int32)), (0, .ref a)]) hx hb dX5_nextStampsByStep_12 rfl hl (by decide) rfl (fun ls hl => ?_)
  refine lv_iconst (v := (0 : Int32)) hx hb dX5_nextStampsByStep_13 (by decide) ?_
  refine lv_istore_n (lv' := [(3, .int (0 : Int32)), (2, .int (vc.1 4)), (1, .int (0 : Int32)), (0, .ref a)]) hx hb dX5_nextStampsByStep_14 rfl hl (by decide) rfl (fun ls hl => ?_)
  have L15 : ∀ (n15 : Nat) (i15 : Nat), i15 + n15 = ((vc.2 0) 0).toNatClampNeg → ∀ (x15_1 : Int32) (x15_2 : Int32) (H : Heap) (locs : List Loc) (ls : Array Slot), vp_in x15_2 16 → va_P g.1 vwCl ((po a (qc 0) (qt 0) (qh 0) (qp 0) (qs 0) (qs 1)) ++ ((ck g qc vc) ++ ((hi g qh (fun j => some (QH j 0)) vh) ++ ((pd g qp vp) ++ ((sl g qs (fun j => some (QS j 0)) vs) ++ ((ck g qt vt) ++ ((hs g QH VH) ++ ((ss g QS VS))))))))) H → va_D A ((po a (qc 0) (qt 0) (qh 0) (qp 0) (qs 0) (qs 1)) ++ ((ck g qc vc) ++ ((hi g qh (fun j => some (QH j 0)) vh) ++ ((pd g qp vp) ++ ((sl g qs (fun j => some (QS j 0)) vs) ++ ((ck g qt vt) ++ ((hs g QH VH) ++ ((ss g QS VS))))))))) → va_S A s.heap H locs → lv_has ls 5 [(3, .int (nI i15)), (2, .int x15_2), (1, .int x15_1), (0, .ref a)] → (∀ (H : Heap) (locs : List Loc) (ls : Array Slot), va_P g.1 vwCl ((po a (qc 0) (qt 0) (qh 0) (qp 0) (qs 0) (qs 1)) ++ ((ck g qc vc) ++ ((hi g qh (fun j => some (QH j 0)) vh) ++ ((pd g qp vp) ++ ((sl g qs (fun j => some (QS j 0)) vs) ++ ((ck g qt vt) ++ ((hs g QH VH) ++ ((ss g QS VS))))))))) H → va_D A ((po a (qc 0) (qt 0) (qh 0) (qp 0) (qs 0) (qs 1)) ++ ((ck g qc vc) ++ ((hi g qh (fun j => some (QH j 0)) vh) ++ ((pd g qp vp) ++ ((sl g qs (fun j => some (QS j 0)) vs) ++ ((ck g qt vt) ++ ((hs g QH VH) ++ ((ss g QS VS))))))))) → va_S A s.heap H locs → lv_has ls 5 [(2, .int (f_X5_nextStampsByStep_L15 vc n15 i15 x15_1 x15_2).2), (1, .int (f_X5_nextStampsByStep_L15 vc n15 i15 x15_1 x15_2).1), (0, .ref a)] → W p l e rm_X5_nextStampsByStep s m ([.ref a] : List Value).toArray below meth c H locs 0 0 Q (F0 m 78 ls [])) → W p l e rm_X5_nextStampsByStep s m ([.ref a] : List Value).toArray below meth c H locs 0 0 Q (F0 m 15 ls []) := by
    intro n15
    induction n15 with
    | zero =>
      intro i15 hin15 x15_1 x15_2 H locs ls hrow hP hD hS hl kx
      refine lv_iload_n hx hb dX5_nextStampsByStep_15 rfl (lv_at hl 0 rfl) ?_
      refine lv_aload_n hx hb dX5_nextStampsByStep_16 rfl (lv_at hl 3 rfl) ?_
      refine va_get (D := g.1) (ci := 5) (v := .ref (qc 0)) (C := RX5) (T := TX5) (N := 6) hx hb hts (zin_X5_nextStampsByStep_X5) hown hK hP 0 rfl rfl 0 (by decide) (hts (.fieldLink RX5 10 "PegClerks" "clerk" "LPegClerks$Clerk;") (by decide +kernel)) (fun _ h9 => h9) rfl dX5_nextStampsByStep_17 ?_
      refine va_get (D := g.1) (ci := 0) (v := .ref (qc 1)) (C := RX0) (T := TX0) (N := 13) hx hb hts (zin_X5_nextStampsByStep_X0) hown hK hP 1 rfl rfl 0 (by decide) (hts (.fieldLink RX5 52 "PegClerks$Clerk" "settings" "[I") (by decide +kernel)) (fun _ h9 => h9) rfl dX5_nextStampsByStep_20 ?_
      refine lv_iconst (v := (0 : Int32)) hx hb dX5_nextStampsByStep_23 (by decide) ?_
      refine z_iald (f := (vc.2 0)) (k := 0) hx hb hK hP 2 0 rfl rfl (zlit (0 : Int32) 4 (by decide +kernel)) (by decide +kernel) dX5_nextStampsByStep_24 ?_
      refine lv_icmp_ge (tgt := 78) hx hb dX5_nextStampsByStep_25 (by decide) (fun c_25 => ?_) (fun c_25 => ?_)
      rotate_left
      · exact absurd (zge0 (by omega)) c_25
      have E : (f_X5_nextStampsByStep_L15 vc 0 i15 x15_1 x15_2) = (x15_1, x15_2) := rfl
      rw [E] at kx
      exact kx _ _ _ hP hD hS (lv_sub hl [1, 2, 3] rfl)
    | succ n15 ih15 =>
      intro i15 hin15 x15_1 x15_2 H locs ls hrow hP hD hS hl kx
      refine lv_iload_n hx hb dX5_nextStampsByStep_15 rfl (lv_at hl 0 rfl) ?_
      refine lv_aload_n hx hb dX5_nextStampsByStep_16 rfl (lv_at hl 3 rfl) ?_
      refine va_get (D := g.1) (ci := 5) (v := .ref (qc 0)) (C := RX5) (T := TX5) (N := 6) hx hb hts (zin_X5_nextStampsByStep_X5) hown hK hP 0 rfl rfl 0 (by decide) (hts (.fieldLink RX5 10 "PegClerks" "clerk" "LPegClerks$Clerk;") (by decide +kernel)) (fun _ h9 => h9) rfl dX5_nextStampsByStep_17 ?_
      refine va_get (D := g.1) (ci := 0) (v := .ref (qc 1)) (C := RX0) (T := TX0) (N := 13) hx hb hts (zin_X5_nextStampsByStep_X0) hown hK hP 1 rfl rfl 0 (by decide) (hts (.fieldLink RX5 52 "PegClerks$Clerk" "settings" "[I") (by decide +kernel)) (fun _ h9 => h9) rfl dX5_nextStampsByStep_20 ?_
      refine lv_iconst (v := (0 : Int32)) hx hb dX5_nextStampsByStep_23 (by decide) ?_
      refine z_iald (f := (vc.2 0)) (k := 0) hx hb hK hP 2 0 rfl rfl (zlit (0 : Int32) 4 (by decide +kernel)) (by decide +kernel) dX5_nextStampsByStep_24 ?_
      refine lv_icmp_ge (tgt := 78) hx hb dX5_nextStampsByStep_25 (by decide) (fun c_25 => ?_) (fun c_25 => ?_)
      · exact absurd c_25 (zge1 (by omega))
      refine lv_iconst (v := (0 : Int32)) hx hb dX5_nextStampsByStep_28 (by decide) ?_
      refine lv_istore (lv' := [(4, .int (0 : Int32)), (3, .int (nI i15)), (2, .int x15_2), (1, .int x15_1), (0, .ref a)]) hx hb dX5_nextStampsByStep_29 hl (by decide) rfl (fun ls hl => ?_)
      have L31 : ∀ (n31 : Nat) (i31 : Nat), i31 + n31 = 6 → ∀ (x31_1 : Int32) (H : Heap) (locs : List Loc) (ls : Array Slot), va_P g.1 vwCl ((po a (qc 0) (qt 0) (qh 0) (qp 0) (qs 0) (qs 1)) ++ ((ck g qc vc) ++ ((hi g qh (fun j => some (QH j 0)) vh) ++ ((pd g qp vp) ++ ((sl g qs (fun j => some (QS j 0)) vs) ++ ((ck g qt vt) ++ ((hs g QH VH) ++ ((ss g QS VS))))))))) H → va_D A ((po a (qc 0) (qt 0) (qh 0) (qp 0) (qs 0) (qs 1)) ++ ((ck g qc vc) ++ ((hi g qh (fun j => some (QH j 0)) vh) ++ ((pd g qp vp) ++ ((sl g qs (fun j => some (QS j 0)) vs) ++ ((ck g qt vt) ++ ((hs g QH VH) ++ ((ss g QS VS))))))))) → va_S A s.heap H locs → lv_has ls 5 [(4, .int (nI i31)), (3, .int (nI i15)), (2, .int x15_2), (1, .int x31_1), (0, .ref a)] → (∀ (H : Heap) (locs : List Loc) (ls : Array Slot), va_P g.1 vwCl ((po a (qc 0) (qt 0) (qh 0) (qp 0) (qs 0) (qs 1)) ++ ((ck g qc vc) ++ ((hi g qh (fun j => some (QH j 0)) vh) ++ ((pd g qp vp) ++ ((sl g qs (fun j => some (QS j 0)) vs) ++ ((ck g qt vt) ++ ((hs g QH VH) ++ ((ss g QS VS))))))))) H → va_D A ((po a (qc 0) (qt 0) (qh 0) (qp 0) (qs 0) (qs 1)) ++ ((ck g qc vc) ++ ((hi g qh (fun j => some (QH j 0)) vh) ++ ((pd g qp vp) ++ ((sl g qs (fun j => some (QS j 0)) vs) ++ ((ck g qt vt) ++ ((hs g QH VH) ++ ((ss g QS VS))))))))) → va_S A s.heap H locs → lv_has ls 5 [(3, .int (nI i15)), (2, .int x15_2), (1, .int (f_X5_nextStampsByStep_L31 vc x15_2 n31 i31 x31_1)), (0, .ref a)] → W p l e rm_X5_nextStampsByStep s m ([.ref a] : List Value).toArray below meth c H locs 0 0 Q (F0 m 67 ls [])) → W p l e rm_X5_nextStampsByStep s m ([.ref a] : List Value).toArray below meth c H locs 0 0 Q (F0 m 31 ls []) := by
        intro n31
        induction n31 with
        | zero =>
          intro i31 hin31 x31_1 H locs ls hP hD hS hl kx
          refine lv_iload hx hb dX5_nextStampsByStep_31 (lv_at hl 0 rfl) ?_
          refine lv_bipush (v := (6 : Int32)) hx hb dX5_nextStampsByStep_33 (by decide) ?_
          refine lv_icmp_ge (tgt := 67) hx hb dX5_nextStampsByStep_35 (by decide) (fun c_35 => ?_) (fun c_35 => ?_)
          rotate_left
          · exact absurd (by rw [show i31 = 6 by omega]; decide) c_35
          have E : (f_X5_nextStampsByStep_L31 vc x15_2 0 i31 x31_1) = x31_1 := rfl
          rw [E] at kx
          exact kx _ _ _ hP hD hS (lv_sub hl [1, 2, 3, 4] rfl)
        | succ n31 ih31 =>
          intro i31 hin31 x31_1 H locs ls hP hD hS hl kx
          refine lv_iload hx hb dX5_nextStampsByStep_31 (lv_at hl 0 rfl) ?_
          refine lv_bipush (v := (6 : Int32)) hx hb dX5_nextStampsByStep_33 (by decide) ?_
          refine lv_icmp_ge (tgt := 67) hx hb dX5_nextStampsByStep_35 (by decide) (fun c_35 => ?_) (fun c_35 => ?_)
          · exact absurd c_35 (nI_ge (a := i31) (b := 6) (by omega) (by omega))
          refine lv_aload_n hx hb dX5_nextStampsByStep_38 rfl (lv_at hl 4 rfl) ?_
          refine va_get (D := g.1) (ci := 5) (v := .ref (qc 0)) (C := RX5) (T := TX5) (N := 6) hx hb hts (zin_X5_nextStampsByStep_X5) hown hK hP 0 rfl rfl 0 (by decide) (hts (.fieldLink RX5 10 "PegClerks" "clerk" "LPegClerks$Clerk;") (by decide +kernel)) (fun _ h9 => h9) rfl dX5_nextStampsByStep_39 ?_
          refine va_get (D := g.1) (ci := 0) (v := .ref (qc 2)) (C := RX0) (T := TX0) (N := 13) hx hb hts (zin_X5_nextStampsByStep_X0) hown hK hP 1 rfl rfl 1 (by decide) (hts (.fieldLink RX5 62 "PegClerks$Clerk" "drum" "LPegClerks$Drum;") (by decide +kernel)) (fun _ h9 => h9) rfl dX5_nextStampsByStep_42 ?_
          refine lv_iload_n hx hb dX5_nextStampsByStep_45 rfl (lv_at hl 2 rfl) ?_
          refine lv_iload hx hb dX5_nextStampsByStep_46 (lv_at hl 0 rfl) ?_
          refine zcVi (n := 2) (As := [.int x15_2, .int (nI i31)]) (rest := []) (Xr := _) (Xn := ((po a (qc 0) (qt 0) (qh 0) (qp 0) (qs 0) (qs 1)) ++ ((ck g qc vc) ++ ((hi g qh (fun j => some (QH j 0)) vh) ++ ((pd g qp vp) ++ ((sl g qs (fun j => some (QS j 0)) vs) ++ ((ck g qt vt) ++ ((hs g QH VH) ++ ((ss g QS VS)))))))))) (ci := 1) (C := RX1) (T := TX1) (N := 4) (q0 := 2) hx hb hml hown hts hN (m_X1_hasPeg l g qc vc x15_2 (nI i31) hrow) gX5_nextStampsByStep_X1_hasPeg rfl (by decide +kernel) ⟨rfl, rfl⟩ ⟨Nat.le_of_ble_eq_true rfl, Nat.le_of_ble_eq_true rfl⟩ hK hP hD hS hA (zsplit (L := [(po a (qc 0) (qt 0) (qh 0) (qp 0) (qs 0) (qs 1)), (ck g qc vc), (hi g qh (fun j => some (QH j 0)) vh), (pd g qp vp), (sl g qs (fun j => some (QS j 0)) vs), (ck g qt vt), (hs g QH VH), (ss g QS VS)]) (Lc := [(ck g qc vc)]) (Lr := [(po a (qc 0) (qt 0) (qh 0) (qp 0) (qs 0) (qs 1)), (hi g qh (fun j => some (QH j 0)) vh), (pd g qp vp), (sl g qs (fun j => some (QS j 0)) vs), (ck g qt vt), (hs g QH VH), (ss g QS VS)]) (List.Perm.swap _ _ _)) rfl rfl rfl hl.1 rfl (Nat.le_of_ble_eq_true rfl) dX5_nextStampsByStep_48 ⟨Nat.zero_le _, Nat.zero_le _⟩ (zback (L := [(po a (qc 0) (qt 0) (qh 0) (qp 0) (qs 0) (qs 1)), (ck g qc vc), (hi g qh (fun j => some (QH j 0)) vh), (pd g qp vp), (sl g qs (fun j => some (QS j 0)) vs), (ck g qt vt), (hs g QH VH), (ss g QS VS)]) (Lc := [(ck g qc vc)]) (Lr := [(po a (qc 0) (qt 0) (qh 0) (qp 0) (qs 0) (qs 1)), (hi g qh (fun j => some (QH j 0)) vh), (pd g qp vp), (sl g qs (fun j => some (QS j 0)) vs), (ck g qt vt), (hs g QH VH), (ss g QS VS)]) (List.Perm.swap _ _ _)) (fun H locs hP hD hS => ?_)
          refine lv_if_eq (tgt := 61) hx hb dX5_nextStampsByStep_51 (by decide) (fun c_51 => ?_) (fun c_51 => ?_)
          · refine lv_iinc (v := (nI (i31 + 1))) (lv' := [(4, .int (nI (i31 + 1))), (3, .int (nI i15)), (2, .int x15_2), (1, .int x31_1), (0, .ref a)]) hx hb dX5_nextStampsByStep_61 hl (k := 0) rfl (nI_1 i31) (by decide) rfl (fun ls hl => ?_)
            refine lv_goto (tgt := 31) hx hb dX5_nextStampsByStep_64 (by decide) ?_
            have E : (f_X5_nextStampsByStep_L31 vc x15_2 (n31 + 1) i31 x31_1) = (f_X5_nextStampsByStep_L31 vc x15_2 n31 (i31 + 1) x31_1) := (if_pos c_51).trans rfl
            rw [E] at kx
            exact ih31 (i31 + 1) (by omega) x31_1 _ _ _  hP hD hS (lv_sub hl [0, 1, 2, 3, 4] rfl) kx
          · refine lv_iload_n hx hb dX5_nextStampsByStep_54 rfl (lv_at hl 3 rfl) ?_
            refine lv_iconst (v := (1 : Int32)) hx hb dX5_nextStampsByStep_55 (by decide) ?_
            refine lv_iload hx hb dX5_nextStampsByStep_56 (lv_at hl 0 rfl) ?_
            refine lv_ishl hx hb dX5_nextStampsByStep_58 ?_
            refine lv_ior hx hb dX5_nextStampsByStep_59 ?_
            refine lv_istore_n (lv' := [(1, .int (x31_1 ||| ((1 : Int32) <<< ((nI i31) &&& 31)))), (4, .int (nI i31)), (3, .int (nI i15)), (2, .int x15_2), (0, .ref a)]) hx hb dX5_nextStampsByStep_60 rfl hl (by decide) rfl (fun ls hl => ?_)
            refine lv_iinc (v := (nI (i31 + 1))) (lv' := [(4, .int (nI (i31 + 1))), (1, .int (x31_1 ||| ((1 : Int32) <<< ((nI i31) &&& 31)))), (3, .int (nI i15)), (2, .int x15_2), (0, .ref a)]) hx hb dX5_nextStampsByStep_61 hl (k := 1) rfl (nI_1 i31) (by decide) rfl (fun ls hl => ?_)
            refine lv_goto (tgt := 31) hx hb dX5_nextStampsByStep_64 (by decide) ?_
            have E : (f_X5_nextStampsByStep_L31 vc x15_2 (n31 + 1) i31 x31_1) = (f_X5_nextStampsByStep_L31 vc x15_2 n31 (i31 + 1) (x31_1 ||| ((1 : Int32) <<< ((nI i31) &&& 31)))) := (if_neg c_51).trans rfl
            rw [E] at kx
            exact ih31 (i31 + 1) (by omega) (x31_1 ||| ((1 : Int32) <<< ((nI i31) &&& 31))) _ _ _  hP hD hS (lv_sub hl [0, 2, 3, 1, 4] rfl) kx
      refine L31 (zfu 6) 0 (by rw [zfu_eq]) x15_1 _ _ _  hP hD hS (lv_sub hl [0, 1, 2, 3, 4] rfl) (fun H locs ls hP hD hS hl => ?_)
      refine lv_iload_n hx hb dX5_nextStampsByStep_67 rfl (lv_at hl 1 rfl) ?_
      refine zcSi (n := 1) (As := [.int x15_2]) (rest := []) hx hb hml hown hts hN (m_X1_rowBehind l g x15_2) gX5_nextStampsByStep_X1_rowBehind rfl (by decide +kernel) ⟨rfl, rfl⟩ ⟨Nat.le_of_ble_eq_true rfl, Nat.le_of_ble_eq_true rfl⟩ hK hP hD hS hA rfl hl.1 rfl (Nat.le_of_ble_eq_true rfl) dX5_nextStampsByStep_68 ⟨Nat.zero_le _, Nat.zero_le _⟩ (fun H locs hP hD hS => ?_)
      refine lv_istore_n (lv' := [(2, .int (f_X1_rowBehind x15_2)), (3, .int (nI i15)), (1, .int (f_X5_nextStampsByStep_L31 vc x15_2 (zfu 6) 0 x15_1)), (0, .ref a)]) hx hb dX5_nextStampsByStep_71 rfl hl (by decide) rfl (fun ls hl => ?_)
      refine lv_iinc (v := (nI (i15 + 1))) (lv' := [(3, .int (nI (i15 + 1))), (2, .int (f_X1_rowBehind x15_2)), (1, .int (f_X5_nextStampsByStep_L31 vc x15_2 (zfu 6) 0 x15_1)), (0, .ref a)]) hx hb dX5_nextStampsByStep_72 hl (k := 1) rfl (nI_1 i15) (by decide) rfl (fun ls hl => ?_)
      refine lv_goto (tgt := 15) hx hb dX5_nextStampsByStep_75 (by decide) ?_
      have E : (f_X5_nextStampsByStep_L15 vc (n15 + 1) i15 x15_1 x15_2) = (f_X5_nextStampsByStep_L15 vc n15 (i15 + 1) (f_X5_nextStampsByStep_L31 vc x15_2 (zfu 6) 0 x15_1) (f_X1_rowBehind x15_2)) := rfl
      rw [E] at kx
      exact ih15 (i15 + 1) (by omega) (f_X5_nextStampsByStep_L31 vc x15_2 (zfu 6) 0 x15_1) (f_X1_rowBehind x15_2) _ _ _ (zin_rb hrow) hP hD hS (lv_sub hl [0, 1, 2, 3] rfl) kx
  refine L15 (zfu ((vc.2 0) 0).toNatClampNeg) 0 (by rw [zfu_eq]; omega) (0 : Int32) (vc.1 4) _ _ _ hat hP hD hS (lv_sub hl [0, 1, 2, 3] rfl) (fun H locs ls hP hD hS hl => ?_)
  refine lv_iload_n hx hb dX5_nextStampsByStep_78 rfl (lv_at hl 1 rfl) ?_
  have E : (f_X5_nextStampsByStep vc vh vp vs vt VH VS) = (f_X5_nextStampsByStep_L15 vc (zfu ((vc.2 0) 0).toNatClampNeg) 0 (0 : Int32) (vc.1 4)).1 := rfl
  exact hret _ _ _ _ _ _ dX5_nextStampsByStep_79 E.symm (rfl) rfl hP hD hS
