abbrev rm_X5_put : Room := { frames := 1, cells := 0, slots := 0, locals := 25 }
set_option maxRecDepth 20000 in
theorem zin_X5_put_X3 : ∀ w ∈ wsX30, w ∈ wsX5_put := by decide +kernel
set_option maxRecDepth 20000 in
theorem zin_X5_put_X5 : ∀ w ∈ wsX50, w ∈ wsX5_put := by decide +kernel
def s_X5_put_35 (vp : zCV) (p0 : Int64) : zCV := (f_X3_append vp p0 (f_X3_charactersIn p0))
def f_X5_put (vc : zCV) (vh : zCV) (vp : zCV) (vs : zCV) (vt : zCV) (VH : (Nat → zCV)) (VS : (Nat → zCV)) (p0 : Int64) : Int32 × zCV := if (f_X3_charactersIn p0) = (0 : Int32) then (((-2 : Int32), vp)) else (if ((vp.1 0) + (f_X3_charactersIn p0)) ≤ (60 : Int32) then ((((s_X5_put_35 vp p0).1 0), (s_X5_put_35 vp p0))) else (((-4 : Int32), vp)))
set_option maxRecDepth 100000 in
set_option maxHeartbeats 4000000 in
theorem m_X5_put (l : Launch) (g : zG) (a : Nat) (qc qh qp qs qt : Nat → Nat) (QH QS : Nat → Nat → Nat) (vc vh vp vs vt : zCV) (VH VS : Nat → zCV) (p0 : Int64) (hl2 : vp_in (vp.1 0) 61) : ZI l yX5_put wsX5_put rm_X5_put g ((po a (qc 0) (qt 0) (qh 0) (qp 0) (qs 0) (qs 1)) ++ ((ck g qc vc) ++ ((hi g qh (fun j => some (QH j 0)) vh) ++ ((pd g qp vp) ++ ((sl g qs (fun j => some (QS j 0)) vs) ++ ((ck g qt vt) ++ ((hs g QH VH) ++ ((ss g QS VS))))))))) [.ref a, .long p0] (f_X5_put vc vh vp vs vt VH VS p0).1 ((po a (qc 0) (qt 0) (qh 0) (qp 0) (qs 0) (qs 1)) ++ ((ck g qc vc) ++ ((hi g qh (fun j => some (QH j 0)) vh) ++ ((pd g qp (f_X5_put vc vh vp vs vt VH VS p0).2) ++ ((sl g qs (fun j => some (QS j 0)) vs) ++ ((ck g qt vt) ++ ((hs g QH VH) ++ ((ss g QS VS))))))))) := by
  refine zopenI (cc := cX5_put) (maxL := 4) (ret := .int) (by decide +kernel) rfl (Nat.le_of_ble_eq_true rfl) ?_
  intro p e s m below meth c A Q ls hx hb hml hown hts hP hK hD hA hN hl hret
  have hS : va_S A s.heap s.heap [] := va_S.rf
  have hl : lv_has ls 4 [(0, .ref a), (1, .long p0)] := hl
  have hown : s.vm.findClass RX5 = some m.cls := hown
  refine lv_lload_n hx hb dX5_put_0 rfl (lv_at hl 1 rfl) ?_
  refine zcSi (n := 1) (As := [.long p0]) (rest := []) hx hb hml hown hts hN (m_X3_charactersIn l g p0) gX5_put_X3_charactersIn rfl (by decide +kernel) ⟨rfl, rfl⟩ ⟨Nat.le_of_ble_eq_true rfl, Nat.le_of_ble_eq_true rfl⟩ hK hP hD hS hA rfl hl.1 rfl (Nat.le_of_ble_eq_true rfl) dX5_put_1 ⟨Nat.zero_le _, Nat.zero_le _⟩ (fun H locs hP hD hS => ?_)
  refine lv_istore_n (lv' := [(3, .int (f_X3_charactersIn p0)), (0, .ref a), (1, .long p0)]) hx hb dX5_put_4 rfl hl (by decide) rfl (fun ls hl => ?_)
  refine lv_iload_n hx hb dX5_put_5 rfl (lv_at hl 0 rfl) ?_
  refine lv_if_ne (tgt := 12) hx hb dX5_put_6 (by decide) (fun c_6 => ?_) (fun c_6 => ?_)
  · refine lv_aload_n hx hb dX5_put_12 rfl (lv_at hl 1 rfl) ?_
    refine va_get (D := g.1) (ci := 5) (v := .ref (qp 0)) (C := RX5) (T := TX5) (N := 6) hx hb hts (zin_X5_put_X5) hown hK hP 0 rfl rfl 3 (by decide) (hts (.fieldLink RX5 29 "PegClerks" "pad" "LPegClerks$Pad;") (by decide +kernel)) (fun _ h9 => h9) rfl dX5_put_13 ?_
    refine va_get (D := g.1) (ci := 3) (v := .int (vp.1 0)) (C := RX3) (T := TX3) (N := 2) hx hb hts (zin_X5_put_X3) hown hK hP 13 rfl rfl 1 (by decide) (hts (.fieldLink RX5 185 "PegClerks$Pad" "length" "I") (by decide +kernel)) (fun _ h9 => h9) rfl dX5_put_16 ?_
    refine lv_iload_n hx hb dX5_put_19 rfl (lv_at hl 0 rfl) ?_
    refine lv_iadd hx hb dX5_put_20 ?_
    refine lv_bipush (v := (60 : Int32)) hx hb dX5_put_21 (by decide) ?_
    refine lv_icmp_le (tgt := 29) hx hb dX5_put_23 (by decide) (fun c_23 => ?_) (fun c_23 => ?_)
    · refine lv_aload_n hx hb dX5_put_29 rfl (lv_at hl 1 rfl) ?_
      refine va_get (D := g.1) (ci := 5) (v := .ref (qp 0)) (C := RX5) (T := TX5) (N := 6) hx hb hts (zin_X5_put_X5) hown hK hP 0 rfl rfl 3 (by decide) (hts (.fieldLink RX5 29 "PegClerks" "pad" "LPegClerks$Pad;") (by decide +kernel)) (fun _ h9 => h9) rfl dX5_put_30 ?_
      refine lv_lload_n hx hb dX5_put_33 rfl (lv_at hl 2 rfl) ?_
      refine lv_iload_n hx hb dX5_put_34 rfl (lv_at hl 0 rfl) ?_
      refine zcVv (n := 2) (As := [.long p0, .int (f_X3_charactersIn p0)]) (rest := []) (Xr := _) (Xn := ((po a (qc 0) (qt 0) (qh 0) (qp 0) (qs 0) (qs 1)) ++ ((ck g qc vc) ++ ((hi g qh (fun j => some (QH j 0)) vh) ++ ((pd g qp (s_X5_put_35 vp p0)) ++ ((sl g qs (fun j => some (QS j 0)) vs) ++ ((ck g qt vt) ++ ((hs g QH VH) ++ ((ss g QS VS)))))))))) (ci := 3) (C := RX3) (T := TX3) (N := 2) (q0 := 0) hx hb hml hown hts hN (m_X3_append l g qp vp p0 (f_X3_charactersIn p0) hl2 (zchars3_le p0) c_23) gX5_put_X3_append rfl (by decide +kernel) ⟨rfl, rfl⟩ ⟨Nat.le_of_ble_eq_true rfl, Nat.le_of_ble_eq_true rfl⟩ hK hP hD hS hA (zsplit (L := [(po a (qc 0) (qt 0) (qh 0) (qp 0) (qs 0) (qs 1)), (ck g qc vc), (hi g qh (fun j => some (QH j 0)) vh), (pd g qp vp), (sl g qs (fun j => some (QS j 0)) vs), (ck g qt vt), (hs g QH VH), (ss g QS VS)]) (Lc := [(pd g qp vp)]) (Lr := [(po a (qc 0) (qt 0) (qh 0) (qp 0) (qs 0) (qs 1)), (ck g qc vc), (hi g qh (fun j => some (QH j 0)) vh), (sl g qs (fun j => some (QS j 0)) vs), (ck g qt vt), (hs g QH VH), (ss g QS VS)]) ((List.Perm.cons _ (List.Perm.cons _ (List.Perm.swap _ _ _))).trans ((List.Perm.cons _ (List.Perm.swap _ _ _)).trans (List.Perm.swap _ _ _)))) rfl rfl rfl hl.1 rfl (Nat.le_of_ble_eq_true rfl) dX5_put_35 ⟨Nat.zero_le _, Nat.zero_le _⟩ (zback (L := [(po a (qc 0) (qt 0) (qh 0) (qp 0) (qs 0) (qs 1)), (ck g qc vc), (hi g qh (fun j => some (QH j 0)) vh), (pd g qp (s_X5_put_35 vp p0)), (sl g qs (fun j => some (QS j 0)) vs), (ck g qt vt), (hs g QH VH), (ss g QS VS)]) (Lc := [(pd g qp (s_X5_put_35 vp p0))]) (Lr := [(po a (qc 0) (qt 0) (qh 0) (qp 0) (qs 0) (qs 1)), (ck g qc vc), (hi g qh (fun j => some (QH j 0)) vh), (sl g qs (fun j => some (QS j 0)) vs), (ck g qt vt), (hs g QH VH), (ss g QS VS)]) ((List.Perm.cons _ (List.Perm.cons _ (List.Perm.swap _ _ _))).trans ((List.Perm.cons _ (List.Perm.swap _ _ _)).trans (List.Perm.swap _ _ _)))) (fun H locs hP hD hS => ?_)
      refine lv_aload_n hx hb dX5_put_38 rfl (lv_at hl 1 rfl) ?_
      refine va_get (D := g.1) (ci := 5) (v := .ref (qp 0)) (C := RX5) (T := TX5) (N := 6) hx hb hts (zin_X5_put_X5) hown hK hP 0 rfl rfl 3 (by decide) (hts (.fieldLink RX5 29 "PegClerks" "pad" "LPegClerks$Pad;") (by decide +kernel)) (fun _ h9 => h9) rfl dX5_put_39 ?_
      refine va_get (D := g.1) (ci := 3) (v := .int ((s_X5_put_35 vp p0).1 0)) (C := RX3) (T := TX3) (N := 2) hx hb hts (zin_X5_put_X3) hown hK hP 13 rfl rfl 1 (by decide) (hts (.fieldLink RX5 185 "PegClerks$Pad" "length" "I") (by decide +kernel)) (fun _ h9 => h9) rfl dX5_put_42 ?_
      have E : (f_X5_put vc vh vp vs vt VH VS p0) = (((s_X5_put_35 vp p0).1 0), (s_X5_put_35 vp p0)) := (if_neg c_6).trans ((if_pos c_23).trans rfl)
      have e1 : ((s_X5_put_35 vp p0).1 0) = (f_X5_put vc vh vp vs vt VH VS p0).1 := by rw [E]
      have e2 : ((po a (qc 0) (qt 0) (qh 0) (qp 0) (qs 0) (qs 1)) ++ ((ck g qc vc) ++ ((hi g qh (fun j => some (QH j 0)) vh) ++ ((pd g qp (s_X5_put_35 vp p0)) ++ ((sl g qs (fun j => some (QS j 0)) vs) ++ ((ck g qt vt) ++ ((hs g QH VH) ++ ((ss g QS VS))))))))) = ((po a (qc 0) (qt 0) (qh 0) (qp 0) (qs 0) (qs 1)) ++ ((ck g qc vc) ++ ((hi g qh (fun j => some (QH j 0)) vh) ++ ((pd g qp (f_X5_put vc vh vp vs vt VH VS p0).2) ++ ((sl g qs (fun j => some (QS j 0)) vs) ++ ((ck g qt vt) ++ ((hs g QH VH) ++ ((ss g QS VS))))))))) := by rw [E]
      exact hret ((s_X5_put_35 vp p0).1 0) ((po a (qc 0) (qt 0) (qh 0) (qp 0) (qs 0) (qs 1)) ++ ((ck g qc vc) ++ ((hi g qh (fun j => some (QH j 0)) vh) ++ ((pd g qp (s_X5_put_35 vp p0)) ++ ((sl g qs (fun j => some (QS j 0)) vs) ++ ((ck g qt vt) ++ ((hs g QH VH) ++ ((ss g QS VS))))))))) _ _ _ _ dX5_put_45 e1 (rfl) e2 hP hD hS
    · refine lv_bipush (v := (-4 : Int32)) hx hb dX5_put_26 (by decide) ?_
      have E : (f_X5_put vc vh vp vs vt VH VS p0) = ((-4 : Int32), vp) := (if_neg c_6).trans ((if_neg c_23).trans rfl)
      have e1 : (-4 : Int32) = (f_X5_put vc vh vp vs vt VH VS p0).1 := by rw [E]
      have e2 : ((po a (qc 0) (qt 0) (qh 0) (qp 0) (qs 0) (qs 1)) ++ ((ck g qc vc) ++ ((hi g qh (fun j => some (QH j 0)) vh) ++ ((pd g qp vp) ++ ((sl g qs (fun j => some (QS j 0)) vs) ++ ((ck g qt vt) ++ ((hs g QH VH) ++ ((ss g QS VS))))))))) = ((po a (qc 0) (qt 0) (qh 0) (qp 0) (qs 0) (qs 1)) ++ ((ck g qc vc) ++ ((hi g qh (fun j => some (QH j 0)) vh) ++ ((pd g qp (f_X5_put vc vh vp vs vt VH VS p0).2) ++ ((sl g qs (fun j => some (QS j 0)) vs) ++ ((ck g qt vt) ++ ((hs g QH VH) ++ ((ss g QS VS))))))))) := by rw [E]
      exact hret (-4 : Int32) ((po a (qc 0) (qt 0) (qh 0) (qp 0) (qs 0) (qs 1)) ++ ((ck g qc vc) ++ ((hi g qh (fun j => some (QH j 0)) vh) ++ ((pd g qp vp) ++ ((sl g qs (fun j => some (QS j 0)) vs) ++ ((ck g qt vt) ++ ((hs g QH VH) ++ ((ss g QS VS))))))))) _ _ _ _ dX5_put_28 e1 (rfl) e2 hP hD hS
  · refine lv_bipush (v := (-2 : Int32)) hx hb dX5_put_9 (by decide) ?_
    have E : (f_X5_put vc vh vp vs vt VH VS p0) = ((-2 : Int32), vp) := (if_pos c_6).trans rfl
    have e1 : (-2 : Int32) = (f_X5_put vc vh vp vs vt VH VS p0).1 := by rw [E]
    have e2 : ((po a (qc 0) (qt 0) (qh 0) (qp 0) (qs 0) (qs 1)) ++ ((ck g qc vc) ++ ((hi g qh (fun j => some (QH j 0)) vh) ++ ((pd g qp vp) ++ ((sl g qs (fun j => some (QS j 0)) vs) ++ ((ck g qt vt) ++ ((hs g QH VH) ++ ((ss g QS VS))))))))) = ((po a (qc 0) (qt 0) (qh 0) (qp 0) (qs 0) (qs 1)) ++ ((ck g qc vc) ++ ((hi g qh (fun j => some (QH j 0)) vh) ++ ((pd g qp (f_X5_put vc vh vp vs vt VH VS p0).2) ++ ((sl g qs (fun j => some (QS j 0)) vs) ++ ((ck g qt vt) ++ ((hs g QH VH) ++ ((ss g QS VS))))))))) := by rw [E]
    exact hret (-2 : Int32) ((po a (qc 0) (qt 0) (qh 0) (qp 0) (qs 0) (qs 1)) ++ ((ck g qc vc) ++ ((hi g qh (fun j => some (QH j 0)) vh) ++ ((pd g qp vp) ++ ((sl g qs (fun j => some (QS j 0)) vs) ++ ((ck g qt vt) ++ ((hs g QH VH) ++ ((ss g QS VS))))))))) _ _ _ _ dX5_put_11 e1 (rfl) e2 hP hD hS
