theorem zsw12 {x : Int32} (h0 : ¬ x.toInt = 0) (h1 : ¬ x.toInt = 1) (h2 : ¬ x.toInt = 2) (h3 : ¬ x.toInt = 3) (h4 : ¬ x.toInt = 4) (h5 : ¬ x.toInt = 5) (h6 : ¬ x.toInt = 6) (h7 : ¬ x.toInt = 7) (h8 : ¬ x.toInt = 8) (h9 : ¬ x.toInt = 9) (h10 : ¬ x.toInt = 10) (h11 : ¬ x.toInt = 11) : x.toInt < 0 ∨ 11 < x.toInt := by omega
set_option maxRecDepth 100000 in
set_option maxHeartbeats 4000000 in
theorem m_L_isStep (l : Launch) (g : zG) {I I2 : zRel2} {J : zRel3} (hR : zS2 I I2 J) (a b : Nat) (q r : zAd) (V U : zPV) (hI : I V U) (p0 p1 : Int32) : ZE l yL_isStep wsL_isStep rm_L_isStep g (zW g a q V ++ zW g b r U) [.ref a, .ref b, .int p0, .int p1] (fun rv (u : zPV × zPV) => rv = 1 ∧ I2 u.1 u.2) (fun u => zW g a q u.1 ++ zW g b r u.2) := by
  refine zopenE (cc := cL_isStep) (maxL := 12) (ret := .boolean) (by decide +kernel) rfl (Nat.le_of_ble_eq_true rfl) ?_
  intro p e s m below meth c A Q ls hx hb hml hown hts hP hK hD hA hN hGS hl hret
  have hS : va_S A s.heap s.heap [] := va_S.rf
  have hl : lv_has ls 12 [(0, .ref a), (1, .ref b), (2, .int p0), (3, .int p1)] := hl
  have hown : s.vm.findClass RL = some m.cls := hown
  have hret1 : ∀ (V U : zPV) (H : Heap) (locs : List Loc) (ls : Array Slot) (pc : Nat), decode cL_isStep pc = .ok (.ireturn, 1) → I2 V U → va_P g.1 vwCl (zW g a q V ++ zW g b r U) H → va_D A (zW g a q V ++ zW g b r U) → va_S A s.heap H locs → W p l e rm_L_isStep s m ([.ref a, .ref b, .int p0, .int p1] : List Value).toArray below meth c H locs 0 0 Q (F0 m pc ls [.int 1]) := fun V U H locs ls pc hd hI hP hD hS => hret (1 : Int32) (V, U) H locs ls pc hd ⟨rfl, hI⟩ rfl hP hD hS
  refine lv_iload_n hx hb dL_isStep_0 rfl (lv_at hl 2 rfl) ?_
  refine lv_iconst (v := (4 : Int32)) hx hb dL_isStep_1 (by decide) ?_
  refine lv_ishr hx hb dL_isStep_2 ?_
  refine lv_istore (lv' := [(4, .int (p0 >>> ((4 : Int32) &&& 31))), (0, .ref a), (1, .ref b), (2, .int p0), (3, .int p1)]) hx hb dL_isStep_3 hl (by decide) rfl (fun ls hl => ?_)
  refine lv_iload_n hx hb dL_isStep_5 rfl (lv_at hl 3 rfl) ?_
  refine lv_bipush (v := (18 : Int32)) hx hb dL_isStep_6 (by decide) ?_
  refine zcSi (n := 2) (As := [.int p0, .int (18 : Int32)]) (rest := []) hx hb hml hown hts hN (m_L_up l g p0 (18 : Int32) (by decide)) gL_isStep_L_up rfl (by decide +kernel) ⟨rfl, rfl⟩ ⟨Nat.le_of_ble_eq_true rfl, Nat.le_of_ble_eq_true rfl⟩ hK hP hD hS hA rfl hl.1 rfl (Nat.le_of_ble_eq_true rfl) dL_isStep_8 ⟨Nat.zero_le _, Nat.zero_le _⟩ (fun H locs hP hD hS => ?_)
  by_cases c_0 : (f_L_up p0 (18 : Int32)) = (0 : Int32)
  · refine lv_tableIn (off := 61) (tgt := 72) hx hb dL_isStep_11 (by rw [c_0]; decide) (by rw [c_0]; decide) (by rw [c_0]; rfl) (by decide) ?_
    exact zis_set hx hb hml hown hts hA hN hK hGS hR hI hret1 _ _ _ hP hD hS (lv_sub hl [0, 1, 2, 3, 4] rfl)
  by_cases c_1 : (f_L_up p0 (18 : Int32)) = (1 : Int32)
  · refine lv_tableIn (off := 61) (tgt := 72) hx hb dL_isStep_11 (by rw [c_1]; decide) (by rw [c_1]; decide) (by rw [c_1]; rfl) (by decide) ?_
    exact zis_set hx hb hml hown hts hA hN hK hGS hR hI hret1 _ _ _ hP hD hS (lv_sub hl [0, 1, 2, 3, 4] rfl)
  by_cases c_2 : (f_L_up p0 (18 : Int32)) = (2 : Int32)
  · refine lv_tableIn (off := 189) (tgt := 200) hx hb dL_isStep_11 (by rw [c_2]; decide) (by rw [c_2]; decide) (by rw [c_2]; rfl) (by decide) ?_
    exact zis_order hx hb hml hown hts hA hN hK hGS hR hI hret1 _ _ _ hP hD hS (lv_sub hl [0, 1, 2, 3, 4] rfl)
  by_cases c_3 : (f_L_up p0 (18 : Int32)) = (3 : Int32)
  · refine lv_tableIn (off := 250) (tgt := 261) hx hb dL_isStep_11 (by rw [c_3]; decide) (by rw [c_3]; decide) (by rw [c_3]; rfl) (by decide) ?_
    exact zis_ink hx hb hml hown hts hA hN hK hGS hR hI hret1 _ _ _ hP hD hS (lv_sub hl [0, 1, 2, 3, 4] rfl)
  by_cases c_4 : (f_L_up p0 (18 : Int32)) = (4 : Int32)
  · refine lv_tableIn (off := 316) (tgt := 327) hx hb dL_isStep_11 (by rw [c_4]; decide) (by rw [c_4]; decide) (by rw [c_4]; rfl) (by decide) ?_
    exact zis_free hx hb hml hown hts hA hN hK hGS hR hI hret1 _ _ _ hP hD hS (lv_sub hl [0, 1, 2, 3, 4] rfl)
  by_cases c_5 : (f_L_up p0 (18 : Int32)) = (5 : Int32)
  · refine lv_tableIn (off := 416) (tgt := 427) hx hb dL_isStep_11 (by rw [c_5]; decide) (by rw [c_5]; decide) (by rw [c_5]; rfl) (by decide) ?_
    exact zis_newForm hx hb hml hown hts hA hN hK hGS hR hI hret1 _ _ _ hP hD hS (lv_sub hl [0, 1, 2, 3, 4] rfl)
  by_cases c_6 : (f_L_up p0 (18 : Int32)) = (6 : Int32)
  · refine lv_tableIn (off := 478) (tgt := 489) hx hb dL_isStep_11 (by rw [c_6]; decide) (by rw [c_6]; decide) (by rw [c_6]; rfl) (by decide) ?_
    exact zis_save hx hb hml hown hts hA hN hK hGS hR hI hret1 _ _ _ hP hD hS (lv_sub hl [0, 1, 2, 3, 4] rfl)
  by_cases c_7 : (f_L_up p0 (18 : Int32)) = (7 : Int32)
  · refine lv_tableIn (off := 546) (tgt := 557) hx hb dL_isStep_11 (by rw [c_7]; decide) (by rw [c_7]; decide) (by rw [c_7]; rfl) (by decide) ?_
    exact zis_read hx hb hml hown hts hA hN hK hGS hR hI hret1 _ _ _ hP hD hS (lv_sub hl [0, 1, 2, 3, 4] rfl)
  by_cases c_8 : (f_L_up p0 (18 : Int32)) = (8 : Int32)
  · refine lv_tableIn (off := 555) (tgt := 566) hx hb dL_isStep_11 (by rw [c_8]; decide) (by rw [c_8]; decide) (by rw [c_8]; rfl) (by decide) ?_
    exact zis_step hx hb hml hown hts hA hN hK hGS hR hI hret1 _ _ _ hP hD hS (lv_sub hl [0, 1, 2, 3, 4] rfl)
  by_cases c_9 : (f_L_up p0 (18 : Int32)) = (9 : Int32)
  · refine lv_tableIn (off := 555) (tgt := 566) hx hb dL_isStep_11 (by rw [c_9]; decide) (by rw [c_9]; decide) (by rw [c_9]; rfl) (by decide) ?_
    exact zis_step hx hb hml hown hts hA hN hK hGS hR hI hret1 _ _ _ hP hD hS (lv_sub hl [0, 1, 2, 3, 4] rfl)
  by_cases c_10 : (f_L_up p0 (18 : Int32)) = (10 : Int32)
  · refine lv_tableIn (off := 555) (tgt := 566) hx hb dL_isStep_11 (by rw [c_10]; decide) (by rw [c_10]; decide) (by rw [c_10]; rfl) (by decide) ?_
    exact zis_step hx hb hml hown hts hA hN hK hGS hR hI hret1 _ _ _ hP hD hS (lv_sub hl [0, 1, 2, 3, 4] rfl)
  by_cases c_11 : (f_L_up p0 (18 : Int32)) = (11 : Int32)
  · refine lv_tableIn (off := 555) (tgt := 566) hx hb dL_isStep_11 (by rw [c_11]; decide) (by rw [c_11]; decide) (by rw [c_11]; rfl) (by decide) ?_
    exact zis_step hx hb hml hown hts hA hN hK hGS hR hI hret1 _ _ _ hP hD hS (lv_sub hl [0, 1, 2, 3, 4] rfl)
  refine lv_tableOut (tgt := 772) hx hb dL_isStep_11 (zsw12 (lv_neT c_0 (a := 0) (by decide)) (lv_neT c_1 (a := 1) (by decide)) (lv_neT c_2 (a := 2) (by decide)) (lv_neT c_3 (a := 3) (by decide)) (lv_neT c_4 (a := 4) (by decide)) (lv_neT c_5 (a := 5) (by decide)) (lv_neT c_6 (a := 6) (by decide)) (lv_neT c_7 (a := 7) (by decide)) (lv_neT c_8 (a := 8) (by decide)) (lv_neT c_9 (a := 9) (by decide)) (lv_neT c_10 (a := 10) (by decide)) (lv_neT c_11 (a := 11) (by decide))) (by decide) ?_
  exact zis_peg hx hb hml hown hts hA hN hK hGS hR hI hret1 _ _ _ hP hD hS (lv_sub hl [0, 1, 2, 3, 4] rfl)
