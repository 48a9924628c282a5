abbrev rm_L_areAlike : Room := { frames := 7, cells := 0, slots := 0, locals := 155 }
set_option maxRecDepth 100000 in
set_option maxHeartbeats 4000000 in
theorem m_L_areAlike (l : Launch) (g : zG) {I I2 : zRel2} {J : zRel3} (hR : zS2 I I2 J) (a b : Nat) (q r : zAd) (V U : zPV) (hI : I V U) (p0 : Int32) : ZE l yL_areAlike wsL_areAlike rm_L_areAlike g (zW g a q V ++ zW g b r U) [.ref a, .ref b, .int p0] (fun rv (_ : zPV × zPV) => rv = 1) (fun u => zW g a q u.1 ++ zW g b r u.2) := by
  refine zopenE (cc := cL_areAlike) (maxL := 7) (ret := .boolean) (by decide +kernel) rfl (Nat.le_of_ble_eq_true rfl) ?_
  intro p e s m below meth c A Q ls hx hb hml hown hts hP hK hD hA hN hGS hl hret
  have hS : va_S A s.heap s.heap [] := va_S.rf
  have hl : lv_has ls 7 [(0, .ref a), (1, .ref b), (2, .int p0)] := hl
  have hown : s.vm.findClass RL = some m.cls := hown
  have okO := (hR.ok _ _ hI).1
  have okP := (hR.ok _ _ hI).2
  refine lv_iconst (v := (1 : Int32)) hx hb dL_areAlike_0 (by decide) ?_
  refine lv_iload_n hx hb dL_areAlike_1 rfl (lv_at hl 2 rfl) ?_
  refine lv_sipush (v := (500 : Int32)) hx hb dL_areAlike_2 (by decide) ?_
  refine zcSi (n := 2) (As := [.int p0, .int (500 : Int32)]) (rest := [.int (1 : Int32)]) hx hb hml hown hts hN (m_L_up l g p0 (500 : Int32) (by decide)) gL_areAlike_L_up rfl (by decide +kernel) ⟨rfl, rfl⟩ ⟨Nat.le_of_ble_eq_true rfl, Nat.le_of_ble_eq_true rfl⟩ hK hP hD hS hA rfl hl.1 rfl (Nat.le_of_ble_eq_true rfl) dL_areAlike_5 ⟨Nat.zero_le _, Nat.zero_le _⟩ (fun H locs hP hD hS => ?_)
  refine lv_iadd hx hb dL_areAlike_8 ?_
  refine lv_istore_n (lv' := [(3, .int ((1 : Int32) + (f_L_up p0 (500 : Int32)))), (0, .ref a), (1, .ref b), (2, .int p0)]) hx hb dL_areAlike_9 rfl hl (by decide) rfl (fun ls hl => ?_)
  obtain ⟨N, hN1, hN2, eN⟩ := zup1 p0 (500 : Int32) (n := 500) rfl (by omega) (by omega)
  rw [eN] at hl
  obtain ⟨f1, -, -, -, -⟩ := hR.alike V U hI
  refine lv_aload_n hx hb dL_areAlike_10 rfl (lv_at hl 1 rfl) ?_
  refine zcO (n := 0) (As := []) (rest := []) (Y := zW g b r U) hx hb hml hown hts hN (kM_untilJam l g a q V okO) gL_areAlike_X5_untilJam rfl (by decide +kernel) ⟨rfl, rfl⟩ ⟨Nat.le_of_ble_eq_true rfl, Nat.le_of_ble_eq_true rfl⟩ hK hP hD hS hA rfl hl.1 rfl (Nat.le_of_ble_eq_true rfl) dL_areAlike_11 ⟨Nat.le_of_ble_eq_true rfl, Nat.le_of_ble_eq_true rfl⟩ (fun H locs hP hD hS => ?_)
  refine lv_aload_n hx hb dL_areAlike_14 rfl (lv_at hl 2 rfl) ?_
  refine zcT (n := 0) (As := []) (rest := [.int (kF_untilJam V)]) (Y := zW g a q (kG_untilJam V)) hx hb hml hown hts hN (kM_untilJam l g b r U okP) gL_areAlike_X5_untilJam rfl (by decide +kernel) ⟨rfl, rfl⟩ ⟨Nat.le_of_ble_eq_true rfl, Nat.le_of_ble_eq_true rfl⟩ hK hP hD hS hA rfl hl.1 rfl (Nat.le_of_ble_eq_true rfl) dL_areAlike_15 ⟨Nat.le_of_ble_eq_true rfl, Nat.le_of_ble_eq_true rfl⟩ (fun H locs hP hD hS => ?_)
  have hI : I (kG_untilJam V) (kG_untilJam U) := (hR.tr _ U _ (hR.tr V U _ hI).1).2
  have okO := (hR.ok _ _ hI).1
  have okP := (hR.ok _ _ hI).2
  refine lv_icmp_ne (tgt := 41) hx hb dL_areAlike_18 (by decide) (fun c_18 => absurd f1 c_18) (fun _ => ?_)
  refine lv_aload_n hx hb dL_areAlike_21 rfl (lv_at hl 1 rfl) ?_
  refine lv_iconst (v := (0 : Int32)) hx hb dL_areAlike_22 (by decide) ?_
  refine zcO (n := 1) (As := [.int (0 : Int32)]) (rest := []) (Y := zW g b r (kG_untilJam U)) hx hb hml hown hts hN (kM_nextStamps l g a q (kG_untilJam V) (0 : Int32) okO) gL_areAlike_X5_nextStamps rfl (by decide +kernel) ⟨rfl, rfl⟩ ⟨Nat.le_of_ble_eq_true rfl, Nat.le_of_ble_eq_true rfl⟩ hK hP hD hS hA rfl hl.1 rfl (Nat.le_of_ble_eq_true rfl) dL_areAlike_23 ⟨Nat.le_of_ble_eq_true rfl, Nat.le_of_ble_eq_true rfl⟩ (fun H locs hP hD hS => ?_)
  refine zcSi (n := 1) (As := [.int (kF_nextStamps (kG_untilJam V) (0 : Int32))]) (rest := []) hx hb hml hown hts hN (m_L_turned l g (kF_nextStamps (kG_untilJam V) (0 : Int32))) gL_areAlike_L_turned rfl (by decide +kernel) ⟨rfl, rfl⟩ ⟨Nat.le_of_ble_eq_true rfl, Nat.le_of_ble_eq_true rfl⟩ hK hP hD hS hA rfl hl.1 rfl (Nat.le_of_ble_eq_true rfl) dL_areAlike_26 ⟨Nat.zero_le _, Nat.zero_le _⟩ (fun H locs hP hD hS => ?_)
  refine lv_aload_n hx hb dL_areAlike_29 rfl (lv_at hl 2 rfl) ?_
  refine lv_iconst (v := (1 : Int32)) hx hb dL_areAlike_30 (by decide) ?_
  refine zcT (n := 1) (As := [.int (1 : Int32)]) (rest := [.int (f_L_turned (kF_nextStamps (kG_untilJam V) (0 : Int32)))]) (Y := zW g a q (kG_untilJam V)) hx hb hml hown hts hN (kM_nextStamps l g b r (kG_untilJam U) (1 : Int32) okP) gL_areAlike_X5_nextStamps rfl (by decide +kernel) ⟨rfl, rfl⟩ ⟨Nat.le_of_ble_eq_true rfl, Nat.le_of_ble_eq_true rfl⟩ hK hP hD hS hA rfl hl.1 rfl (Nat.le_of_ble_eq_true rfl) dL_areAlike_31 ⟨Nat.le_of_ble_eq_true rfl, Nat.le_of_ble_eq_true rfl⟩ (fun H locs hP hD hS => ?_)
  refine lv_icmp_ne (tgt := 41) hx hb dL_areAlike_34 (by decide) (fun c_34 => absurd (hR.alike _ _ hI).2.1 c_34) (fun _ => ?_)
  refine lv_iconst (v := (1 : Int32)) hx hb dL_areAlike_37 (by decide) ?_
  refine lv_goto (tgt := 42) hx hb dL_areAlike_38 (by decide) ?_
  refine lv_istore (lv' := [(4, .int (1 : Int32)), (3, .int (nI N)), (0, .ref a), (1, .ref b), (2, .int p0)]) hx hb dL_areAlike_42 hl (by decide) rfl (fun ls hl => ?_)
  refine lv_iconst (v := (0 : Int32)) hx hb dL_areAlike_44 (by decide) ?_
  refine lv_istore (lv' := [(5, .int (0 : Int32)), (4, .int (1 : Int32)), (3, .int (nI N)), (0, .ref a), (1, .ref b), (2, .int p0)]) hx hb dL_areAlike_45 hl (by decide) rfl (fun ls hl => ?_)
  have L47 : ∀ (n47 i47 : Nat), i47 + n47 = 5 → ∀ (V U : zPV) (H : Heap) (locs : List Loc) (ls : Array Slot), I V U → va_P g.1 vwCl (zW g a q V ++ zW g b r U) H → va_D A (zW g a q V ++ zW g b r U) → va_S A s.heap H locs → lv_has ls 7 [(5, .int (nI i47)), (4, .int (1 : Int32)), (3, .int (nI N)), (0, .ref a), (1, .ref b), (2, .int p0)] → (∀ (V U : zPV) (H : Heap) (locs : List Loc) (ls : Array Slot), I V U → va_P g.1 vwCl (zW g a q V ++ zW g b r U) H → va_D A (zW g a q V ++ zW g b r U) → va_S A s.heap H locs → lv_has ls 7 [(5, .int (nI 5)), (4, .int (1 : Int32)), (3, .int (nI N)), (0, .ref a), (1, .ref b), (2, .int p0)] → W p l e rm_L_areAlike s m ([.ref a, .ref b, .int p0] : List Value).toArray below meth c H locs 0 0 Q (F0 m 88 ls [])) → W p l e rm_L_areAlike s m ([.ref a, .ref b, .int p0] : List Value).toArray below meth c H locs 0 0 Q (F0 m 47 ls []) := by
    intro n47
    induction n47 with
    | zero =>
      intro i47 hi47 V U H locs ls hI hP hD hS hl kx47
      refine lv_iload hx hb dL_areAlike_47 (lv_at hl 0 rfl) ?_
      refine lv_iconst (v := (5 : Int32)) hx hb dL_areAlike_49 (by decide) ?_
      refine lv_icmp_ge (tgt := 88) hx hb dL_areAlike_50 (by decide) (fun _ => ?_) (fun c_50 => absurd ((nI_leI (a := 5) (b := i47) (by omega) (by omega)).mpr (by omega)) c_50)
      have e47 : i47 = 5 := by omega
      subst e47
      exact kx47 V U _ _ _ hI hP hD hS (lv_sub hl [0, 1, 2, 3, 4, 5] rfl)
    | succ n47 ih47 =>
      intro i47 hi47 V U H locs ls hI hP hD hS hl kx47
      have okO := (hR.ok _ _ hI).1
      have okP := (hR.ok _ _ hI).2
      have fI := (hR.alike V U hI).2.2.1 N i47 hN1 hN2 (by omega)
      refine lv_iload hx hb dL_areAlike_47 (lv_at hl 0 rfl) ?_
      refine lv_iconst (v := (5 : Int32)) hx hb dL_areAlike_49 (by decide) ?_
      refine lv_icmp_ge (tgt := 88) hx hb dL_areAlike_50 (by decide) (fun c_50 => absurd c_50 (fun h => absurd ((nI_leI (a := 5) (b := i47) (by omega) (by omega)).mp h) (by omega))) (fun _ => ?_)
      refine lv_iload hx hb dL_areAlike_53 (lv_at hl 1 rfl) ?_
      refine lv_if_eq (tgt := 79) hx hb dL_areAlike_55 (by decide) (fun c_55 => absurd c_55 (by decide)) (fun _ => ?_)
      refine lv_aload_n hx hb dL_areAlike_58 rfl (lv_at hl 3 rfl) ?_
      refine lv_iload_n hx hb dL_areAlike_59 rfl (lv_at hl 2 rfl) ?_
      refine lv_iload hx hb dL_areAlike_60 (lv_at hl 0 rfl) ?_
      refine zcO (n := 2) (As := [.int (nI N), .int (nI i47)]) (rest := []) (Y := zW g b r U) hx hb hml hown hts hN (kM_ifStepped l g a q V (nI N) (nI i47) okO) gL_areAlike_X5_ifStepped rfl (by decide +kernel) ⟨rfl, rfl⟩ ⟨Nat.le_of_ble_eq_true rfl, Nat.le_of_ble_eq_true rfl⟩ hK hP hD hS hA rfl hl.1 rfl (Nat.le_of_ble_eq_true rfl) dL_areAlike_62 ⟨Nat.le_of_ble_eq_true rfl, Nat.le_of_ble_eq_true rfl⟩ (fun H locs hP hD hS => ?_)
      refine lv_aload_n hx hb dL_areAlike_65 rfl (lv_at hl 4 rfl) ?_
      refine lv_iload_n hx hb dL_areAlike_66 rfl (lv_at hl 2 rfl) ?_
      refine lv_iload hx hb dL_areAlike_67 (lv_at hl 0 rfl) ?_
      refine zcT (n := 2) (As := [.int (nI N), .int (nI i47)]) (rest := [.int (kF_ifStepped V (nI N) (nI i47))]) (Y := zW g a q (kG_ifStepped V (nI N) (nI i47))) hx hb hml hown hts hN (kM_ifStepped l g b r U (nI N) (nI i47) okP) gL_areAlike_X5_ifStepped rfl (by decide +kernel) ⟨rfl, rfl⟩ ⟨Nat.le_of_ble_eq_true rfl, Nat.le_of_ble_eq_true rfl⟩ hK hP hD hS hA rfl hl.1 rfl (Nat.le_of_ble_eq_true rfl) dL_areAlike_69 ⟨Nat.le_of_ble_eq_true rfl, Nat.le_of_ble_eq_true rfl⟩ (fun H locs hP hD hS => ?_)
      refine lv_icmp_ne (tgt := 79) hx hb dL_areAlike_72 (by decide) (fun c_72 => absurd fI c_72) (fun _ => ?_)
      refine lv_iconst (v := (1 : Int32)) hx hb dL_areAlike_75 (by decide) ?_
      refine lv_goto (tgt := 80) hx hb dL_areAlike_76 (by decide) ?_
      refine lv_istore (lv' := [(4, .int (1 : Int32)), (5, .int (nI i47)), (3, .int (nI N)), (0, .ref a), (1, .ref b), (2, .int p0)]) hx hb dL_areAlike_80 hl (by decide) rfl (fun ls hl => ?_)
      refine lv_iinc (v := (nI (i47 + 1))) (lv' := [(5, .int (nI (i47 + 1))), (4, .int (1 : Int32)), (3, .int (nI N)), (0, .ref a), (1, .ref b), (2, .int p0)]) hx hb dL_areAlike_82 hl (k := 1) rfl (nI_1 i47) (by decide) rfl (fun ls hl => ?_)
      refine lv_goto (tgt := 47) hx hb dL_areAlike_85 (by decide) ?_
      exact ih47 (i47 + 1) (by omega) (kG_ifStepped V (nI N) (nI i47)) (kG_ifStepped U (nI N) (nI i47)) _ _ _ ((hR.tr _ _ _ (hR.tr V U _ hI).1).2) hP hD hS (lv_sub hl [0, 1, 2, 3, 4, 5] rfl) kx47
  refine L47 5 0 (by omega) (kG_untilJam V) (kG_untilJam U) _ _ _ hI hP hD hS (lv_sub hl [0, 1, 2, 3, 4, 5] rfl) (fun V U H locs ls hI hP hD hS hl => ?_)
  have hl := lv_sub hl [1, 2, 3, 4, 5, 0] rfl
  have hl : lv_has ls 7 [(4, .int (1 : Int32)), (3, .int (nI N)), (0, .ref a), (1, .ref b), (2, .int p0), (5, .int (nI 5))] := hl
  have okO := (hR.ok _ _ hI).1
  have okP := (hR.ok _ _ hI).2
  refine lv_iconst (v := (0 : Int32)) hx hb dL_areAlike_88 (by decide) ?_
  refine lv_istore (lv' := [(5, .int (0 : Int32)), (4, .int (1 : Int32)), (3, .int (nI N)), (0, .ref a), (1, .ref b), (2, .int p0)]) hx hb dL_areAlike_89 hl (by decide) rfl (fun ls hl => ?_)
  have L91 : ∀ (n91 i91 : Nat), i91 + n91 = 18 → ∀ (H : Heap) (locs : List Loc) (ls : Array Slot), va_P g.1 vwCl (zW g a q V ++ zW g b r U) H → va_D A (zW g a q V ++ zW g b r U) → va_S A s.heap H locs → lv_has ls 7 [(5, .int (nI i91)), (4, .int (1 : Int32)), (3, .int (nI N)), (0, .ref a), (1, .ref b), (2, .int p0)] → (∀ (H : Heap) (locs : List Loc) (ls : Array Slot), va_P g.1 vwCl (zW g a q V ++ zW g b r U) H → va_D A (zW g a q V ++ zW g b r U) → va_S A s.heap H locs → lv_has ls 7 [(5, .int (nI 18)), (4, .int (1 : Int32)), (3, .int (nI N)), (0, .ref a), (1, .ref b), (2, .int p0)] → W p l e rm_L_areAlike s m ([.ref a, .ref b, .int p0] : List Value).toArray below meth c H locs 0 0 Q (F0 m 166 ls [])) → W p l e rm_L_areAlike s m ([.ref a, .ref b, .int p0] : List Value).toArray below meth c H locs 0 0 Q (F0 m 91 ls []) := by
    intro n91
    induction n91 with
    | zero =>
      intro i91 hi91 H locs ls hP hD hS hl kx91
      refine lv_iload hx hb dL_areAlike_91 (lv_at hl 0 rfl) ?_
      refine lv_bipush (v := (18 : Int32)) hx hb dL_areAlike_93 (by decide) ?_
      refine lv_icmp_ge (tgt := 166) hx hb dL_areAlike_95 (by decide) (fun _ => ?_) (fun c_95 => absurd ((nI_leI (a := 18) (b := i91) (by omega) (by omega)).mpr (by omega)) c_95)
      have e91 : i91 = 18 := by omega
      subst e91
      exact kx91  _ _ _  hP hD hS (lv_sub hl [0, 1, 2, 3, 4, 5] rfl)
    | succ n91 ih91 =>
      intro i91 hi91 H locs ls hP hD hS hl kx91
      refine lv_iload hx hb dL_areAlike_91 (lv_at hl 0 rfl) ?_
      refine lv_bipush (v := (18 : Int32)) hx hb dL_areAlike_93 (by decide) ?_
      refine lv_icmp_ge (tgt := 166) hx hb dL_areAlike_95 (by decide) (fun c_95 => absurd c_95 (fun h => absurd ((nI_leI (a := 18) (b := i91) (by omega) (by omega)).mp h) (by omega))) (fun _ => ?_)
      refine lv_iload hx hb dL_areAlike_98 (lv_at hl 1 rfl) ?_
      refine lv_if_eq (tgt := 157) hx hb dL_areAlike_100 (by decide) (fun c_100 => absurd c_100 (by decide)) (fun _ => ?_)
      have K117 : ∀ (H : Heap) (locs : List Loc) (ls : Array Slot), i91 = 6 ∨ i91 = 7 → va_P g.1 vwCl (zW g a q V ++ zW g b r U) H → va_D A (zW g a q V ++ zW g b r U) → va_S A s.heap H locs → lv_has ls 7 [(5, .int (nI i91)), (4, .int (1 : Int32)), (3, .int (nI N)), (0, .ref a), (1, .ref b), (2, .int p0)] → W p l e rm_L_areAlike s m ([.ref a, .ref b, .int p0] : List Value).toArray below meth c H locs 0 0 Q (F0 m 117 ls []) := by
        intro H locs ls h67 hP hD hS hl
        refine lv_aload_n hx hb dL_areAlike_117 rfl (lv_at hl 3 rfl) ?_
        refine lv_iload hx hb dL_areAlike_118 (lv_at hl 0 rfl) ?_
        refine zcO (n := 1) (As := [.int (nI i91)]) (rest := []) (Y := zW g b r U) hx hb hml hown hts hN (kM_count l g a q V (nI i91)) gL_areAlike_X5_count rfl (by decide +kernel) ⟨rfl, rfl⟩ ⟨Nat.le_of_ble_eq_true rfl, Nat.le_of_ble_eq_true rfl⟩ hK hP hD hS hA rfl hl.1 rfl (Nat.le_of_ble_eq_true rfl) dL_areAlike_120 ⟨Nat.le_of_ble_eq_true rfl, Nat.le_of_ble_eq_true rfl⟩ (fun H locs hP hD hS => ?_)
        refine zcSi (n := 1) (As := [.int (kF_count V (nI i91))]) (rest := []) hx hb hml hown hts hN (m_L_turned l g (kF_count V (nI i91))) gL_areAlike_L_turned rfl (by decide +kernel) ⟨rfl, rfl⟩ ⟨Nat.le_of_ble_eq_true rfl, Nat.le_of_ble_eq_true rfl⟩ hK hP hD hS hA rfl hl.1 rfl (Nat.le_of_ble_eq_true rfl) dL_areAlike_123 ⟨Nat.zero_le _, Nat.zero_le _⟩ (fun H locs hP hD hS => ?_)
        refine lv_aload_n hx hb dL_areAlike_126 rfl (lv_at hl 4 rfl) ?_
        refine lv_iload hx hb dL_areAlike_127 (lv_at hl 0 rfl) ?_
        refine zcT (n := 1) (As := [.int (nI i91)]) (rest := [.int (f_L_turned (kF_count V (nI i91)))]) (Y := zW g a q V) hx hb hml hown hts hN (kM_count l g b r U (nI i91)) gL_areAlike_X5_count rfl (by decide +kernel) ⟨rfl, rfl⟩ ⟨Nat.le_of_ble_eq_true rfl, Nat.le_of_ble_eq_true rfl⟩ hK hP hD hS hA rfl hl.1 rfl (Nat.le_of_ble_eq_true rfl) dL_areAlike_129 ⟨Nat.le_of_ble_eq_true rfl, Nat.le_of_ble_eq_true rfl⟩ (fun H locs hP hD hS => ?_)
        refine lv_icmp_ne (tgt := 157) hx hb dL_areAlike_132 (by decide) (fun c_132 => absurd ((hR.alike V U hI).2.2.2.2 i91 h67) c_132) (fun _ => ?_)
        refine lv_goto (tgt := 153) hx hb dL_areAlike_135 (by decide) ?_
        refine lv_iconst (v := (1 : Int32)) hx hb dL_areAlike_153 (by decide) ?_
        refine lv_goto (tgt := 158) hx hb dL_areAlike_154 (by decide) ?_
        refine lv_istore (lv' := [(4, .int (1 : Int32)), (5, .int (nI i91)), (3, .int (nI N)), (0, .ref a), (1, .ref b), (2, .int p0)]) hx hb dL_areAlike_158 hl (by decide) rfl (fun ls hl => ?_)
        refine lv_iinc (v := (nI (i91 + 1))) (lv' := [(5, .int (nI (i91 + 1))), (4, .int (1 : Int32)), (3, .int (nI N)), (0, .ref a), (1, .ref b), (2, .int p0)]) hx hb dL_areAlike_160 hl (k := 1) rfl (nI_1 i91) (by decide) rfl (fun ls hl => ?_)
        refine lv_goto (tgt := 91) hx hb dL_areAlike_163 (by decide) ?_
        exact ih91 (i91 + 1) (by omega)  _ _ _  hP hD hS (lv_sub hl [0, 1, 2, 3, 4, 5] rfl) kx91
      refine lv_iload hx hb dL_areAlike_103 (lv_at hl 0 rfl) ?_
      refine lv_bipush (v := (6 : Int32)) hx hb dL_areAlike_105 (by decide) ?_
      refine lv_icmp_eq (tgt := 117) hx hb dL_areAlike_107 (by decide) (fun c_107 => ?_) (fun c_107 => ?_)
      · exact K117  _ _ _ (Or.inl ((nI_eq (a := i91) (b := 6) (by omega) (by omega)).mp c_107)) hP hD hS (lv_sub hl [0, 1, 2, 3, 4, 5] rfl)
      · refine lv_iload hx hb dL_areAlike_110 (lv_at hl 0 rfl) ?_
        refine lv_bipush (v := (7 : Int32)) hx hb dL_areAlike_112 (by decide) ?_
        refine lv_icmp_ne (tgt := 138) hx hb dL_areAlike_114 (by decide) (fun c_114 => ?_) (fun c_114 => ?_)
        · refine lv_aload_n hx hb dL_areAlike_138 rfl (lv_at hl 3 rfl) ?_
          refine lv_iload hx hb dL_areAlike_139 (lv_at hl 0 rfl) ?_
          refine zcO (n := 1) (As := [.int (nI i91)]) (rest := []) (Y := zW g b r U) hx hb hml hown hts hN (kM_count l g a q V (nI i91)) gL_areAlike_X5_count rfl (by decide +kernel) ⟨rfl, rfl⟩ ⟨Nat.le_of_ble_eq_true rfl, Nat.le_of_ble_eq_true rfl⟩ hK hP hD hS hA rfl hl.1 rfl (Nat.le_of_ble_eq_true rfl) dL_areAlike_141 ⟨Nat.le_of_ble_eq_true rfl, Nat.le_of_ble_eq_true rfl⟩ (fun H locs hP hD hS => ?_)
          refine lv_aload_n hx hb dL_areAlike_144 rfl (lv_at hl 4 rfl) ?_
          refine lv_iload hx hb dL_areAlike_145 (lv_at hl 0 rfl) ?_
          refine zcT (n := 1) (As := [.int (nI i91)]) (rest := [.int (kF_count V (nI i91))]) (Y := zW g a q V) hx hb hml hown hts hN (kM_count l g b r U (nI i91)) gL_areAlike_X5_count rfl (by decide +kernel) ⟨rfl, rfl⟩ ⟨Nat.le_of_ble_eq_true rfl, Nat.le_of_ble_eq_true rfl⟩ hK hP hD hS hA rfl hl.1 rfl (Nat.le_of_ble_eq_true rfl) dL_areAlike_147 ⟨Nat.le_of_ble_eq_true rfl, Nat.le_of_ble_eq_true rfl⟩ (fun H locs hP hD hS => ?_)
          refine lv_icmp_ne (tgt := 157) hx hb dL_areAlike_150 (by decide) (fun c_150 => absurd ((hR.alike V U hI).2.2.2.1 i91 (by omega) (fun e => c_107 (by rw [e]; rfl)) (fun e => c_114 (by rw [e]; rfl))) c_150) (fun _ => ?_)
          refine lv_iconst (v := (1 : Int32)) hx hb dL_areAlike_153 (by decide) ?_
          refine lv_goto (tgt := 158) hx hb dL_areAlike_154 (by decide) ?_
          refine lv_istore (lv' := [(4, .int (1 : Int32)), (5, .int (nI i91)), (3, .int (nI N)), (0, .ref a), (1, .ref b), (2, .int p0)]) hx hb dL_areAlike_158 hl (by decide) rfl (fun ls hl => ?_)
          refine lv_iinc (v := (nI (i91 + 1))) (lv' := [(5, .int (nI (i91 + 1))), (4, .int (1 : Int32)), (3, .int (nI N)), (0, .ref a), (1, .ref b), (2, .int p0)]) hx hb dL_areAlike_160 hl (k := 1) rfl (nI_1 i91) (by decide) rfl (fun ls hl => ?_)
          refine lv_goto (tgt := 91) hx hb dL_areAlike_163 (by decide) ?_
          exact ih91 (i91 + 1) (by omega)  _ _ _  hP hD hS (lv_sub hl [0, 1, 2, 3, 4, 5] rfl) kx91
        · exact K117  _ _ _ (Or.inr ((nI_eq (a := i91) (b := 7) (by omega) (by omega)).mp c_114)) hP hD hS (lv_sub hl [0, 1, 2, 3, 4, 5] rfl)
  refine L91 18 0 (by omega)  _ _ _  hP hD hS (lv_sub hl [0, 1, 2, 3, 4, 5] rfl) (fun  H locs ls  hP hD hS hl => ?_)
  have hl := lv_sub hl [1, 2, 3, 4, 5, 0] rfl
  have hl : lv_has ls 7 [(4, .int (1 : Int32)), (3, .int (nI N)), (0, .ref a), (1, .ref b), (2, .int p0), (5, .int (nI 18))] := hl
  refine lv_iconst (v := (0 : Int32)) hx hb dL_areAlike_166 (by decide) ?_
  refine lv_istore (lv' := [(5, .int (0 : Int32)), (4, .int (1 : Int32)), (3, .int (nI N)), (0, .ref a), (1, .ref b), (2, .int p0)]) hx hb dL_areAlike_167 hl (by decide) rfl (fun ls hl => ?_)
  have L169 : ∀ (n169 i169 : Nat), i169 + n169 = 16 → ∀ (H : Heap) (locs : List Loc) (ls : Array Slot), va_P g.1 vwCl (zW g a q V ++ zW g b r U) H → va_D A (zW g a q V ++ zW g b r U) → va_S A s.heap H locs → lv_has ls 7 [(5, .int (nI i169)), (4, .int (1 : Int32)), (3, .int (nI N)), (0, .ref a), (1, .ref b), (2, .int p0)] → (∀ (H : Heap) (locs : List Loc) (ls : Array Slot), va_P g.1 vwCl (zW g a q V ++ zW g b r U) H → va_D A (zW g a q V ++ zW g b r U) → va_S A s.heap H locs → lv_has ls 7 [(5, .int (nI 16)), (4, .int (1 : Int32)), (3, .int (nI N)), (0, .ref a), (1, .ref b), (2, .int p0)] → W p l e rm_L_areAlike s m ([.ref a, .ref b, .int p0] : List Value).toArray below meth c H locs 0 0 Q (F0 m 341 ls [])) → W p l e rm_L_areAlike s m ([.ref a, .ref b, .int p0] : List Value).toArray below meth c H locs 0 0 Q (F0 m 169 ls []) := by
    intro n169
    induction n169 with
    | zero =>
      intro i169 hi169 H locs ls hP hD hS hl kx169
      refine lv_iload hx hb dL_areAlike_169 (lv_at hl 0 rfl) ?_
      refine lv_bipush (v := (16 : Int32)) hx hb dL_areAlike_171 (by decide) ?_
      refine lv_icmp_ge (tgt := 341) hx hb dL_areAlike_173 (by decide) (fun _ => ?_) (fun c_173 => absurd ((nI_leI (a := 16) (b := i169) (by omega) (by omega)).mpr (by omega)) c_173)
      have e169 : i169 = 16 := by omega
      subst e169
      exact kx169  _ _ _  hP hD hS (lv_sub hl [0, 1, 2, 3, 4, 5] rfl)
    | succ n169 ih169 =>
      intro i169 hi169 H locs ls hP hD hS hl kx169
      obtain ⟨r0, r1, r2, r3⟩ := (hR.rows V U hI).1 i169 (by omega)
      refine lv_iload hx hb dL_areAlike_169 (lv_at hl 0 rfl) ?_
      refine lv_bipush (v := (16 : Int32)) hx hb dL_areAlike_171 (by decide) ?_
      refine lv_icmp_ge (tgt := 341) hx hb dL_areAlike_173 (by decide) (fun c_173 => absurd c_173 (fun h => absurd ((nI_leI (a := 16) (b := i169) (by omega) (by omega)).mp h) (by omega))) (fun _ => ?_)
      refine lv_iload hx hb dL_areAlike_176 (lv_at hl 1 rfl) ?_
      refine lv_if_eq (tgt := 256) hx hb dL_areAlike_178 (by decide) (fun c_178 => absurd c_178 (by decide)) (fun _ => ?_)
      refine lv_aload_n hx hb dL_areAlike_181 rfl (lv_at hl 3 rfl) ?_
      refine lv_iload hx hb dL_areAlike_182 (lv_at hl 0 rfl) ?_
      refine lv_iconst (v := (0 : Int32)) hx hb dL_areAlike_184 (by decide) ?_
      refine zcO (n := 2) (As := [.int (nI i169), .int (0 : Int32)]) (rest := []) (Y := zW g b r U) hx hb hml hown hts hN (kM_row l g a q V (nI i169) (0 : Int32)) gL_areAlike_X5_row rfl (by decide +kernel) ⟨rfl, rfl⟩ ⟨Nat.le_of_ble_eq_true rfl, Nat.le_of_ble_eq_true rfl⟩ hK hP hD hS hA rfl hl.1 rfl (Nat.le_of_ble_eq_true rfl) dL_areAlike_185 ⟨Nat.le_of_ble_eq_true rfl, Nat.le_of_ble_eq_true rfl⟩ (fun H locs hP hD hS => ?_)
      refine zcSi (n := 1) (As := [.int (kF_row V (nI i169) (0 : Int32))]) (rest := []) hx hb hml hown hts hN (m_L_turned l g (kF_row V (nI i169) (0 : Int32))) gL_areAlike_L_turned rfl (by decide +kernel) ⟨rfl, rfl⟩ ⟨Nat.le_of_ble_eq_true rfl, Nat.le_of_ble_eq_true rfl⟩ hK hP hD hS hA rfl hl.1 rfl (Nat.le_of_ble_eq_true rfl) dL_areAlike_188 ⟨Nat.zero_le _, Nat.zero_le _⟩ (fun H locs hP hD hS => ?_)
      refine lv_aload_n hx hb dL_areAlike_191 rfl (lv_at hl 4 rfl) ?_
      refine lv_iload hx hb dL_areAlike_192 (lv_at hl 0 rfl) ?_
      refine lv_iconst (v := (0 : Int32)) hx hb dL_areAlike_194 (by decide) ?_
      refine zcT (n := 2) (As := [.int (nI i169), .int (0 : Int32)]) (rest := [.int (f_L_turned (kF_row V (nI i169) (0 : Int32)))]) (Y := zW g a q V) hx hb hml hown hts hN (kM_row l g b r U (nI i169) (0 : Int32)) gL_areAlike_X5_row rfl (by decide +kernel) ⟨rfl, rfl⟩ ⟨Nat.le_of_ble_eq_true rfl, Nat.le_of_ble_eq_true rfl⟩ hK hP hD hS hA rfl hl.1 rfl (Nat.le_of_ble_eq_true rfl) dL_areAlike_195 ⟨Nat.le_of_ble_eq_true rfl, Nat.le_of_ble_eq_true rfl⟩ (fun H locs hP hD hS => ?_)
      refine lv_icmp_ne (tgt := 256) hx hb dL_areAlike_198 (by decide) (fun c_198 => absurd r0 c_198) (fun _ => ?_)
      refine lv_aload_n hx hb dL_areAlike_201 rfl (lv_at hl 3 rfl) ?_
      refine lv_iload hx hb dL_areAlike_202 (lv_at hl 0 rfl) ?_
      refine lv_iconst (v := (1 : Int32)) hx hb dL_areAlike_204 (by decide) ?_
      refine zcO (n := 2) (As := [.int (nI i169), .int (1 : Int32)]) (rest := []) (Y := zW g b r U) hx hb hml hown hts hN (kM_row l g a q V (nI i169) (1 : Int32)) gL_areAlike_X5_row rfl (by decide +kernel) ⟨rfl, rfl⟩ ⟨Nat.le_of_ble_eq_true rfl, Nat.le_of_ble_eq_true rfl⟩ hK hP hD hS hA rfl hl.1 rfl (Nat.le_of_ble_eq_true rfl) dL_areAlike_205 ⟨Nat.le_of_ble_eq_true rfl, Nat.le_of_ble_eq_true rfl⟩ (fun H locs hP hD hS => ?_)
      refine lv_aload_n hx hb dL_areAlike_208 rfl (lv_at hl 4 rfl) ?_
      refine lv_iload hx hb dL_areAlike_209 (lv_at hl 0 rfl) ?_
      refine lv_iconst (v := (1 : Int32)) hx hb dL_areAlike_211 (by decide) ?_
      refine zcT (n := 2) (As := [.int (nI i169), .int (1 : Int32)]) (rest := [.int (kF_row V (nI i169) (1 : Int32))]) (Y := zW g a q V) hx hb hml hown hts hN (kM_row l g b r U (nI i169) (1 : Int32)) gL_areAlike_X5_row rfl (by decide +kernel) ⟨rfl, rfl⟩ ⟨Nat.le_of_ble_eq_true rfl, Nat.le_of_ble_eq_true rfl⟩ hK hP hD hS hA rfl hl.1 rfl (Nat.le_of_ble_eq_true rfl) dL_areAlike_212 ⟨Nat.le_of_ble_eq_true rfl, Nat.le_of_ble_eq_true rfl⟩ (fun H locs hP hD hS => ?_)
      refine lv_icmp_ne (tgt := 256) hx hb dL_areAlike_215 (by decide) (fun c_215 => absurd r1 c_215) (fun _ => ?_)
      refine lv_aload_n hx hb dL_areAlike_218 rfl (lv_at hl 3 rfl) ?_
      refine lv_iload hx hb dL_areAlike_219 (lv_at hl 0 rfl) ?_
      refine lv_iconst (v := (2 : Int32)) hx hb dL_areAlike_221 (by decide) ?_
      refine zcO (n := 2) (As := [.int (nI i169), .int (2 : Int32)]) (rest := []) (Y := zW g b r U) hx hb hml hown hts hN (kM_row l g a q V (nI i169) (2 : Int32)) gL_areAlike_X5_row rfl (by decide +kernel) ⟨rfl, rfl⟩ ⟨Nat.le_of_ble_eq_true rfl, Nat.le_of_ble_eq_true rfl⟩ hK hP hD hS hA rfl hl.1 rfl (Nat.le_of_ble_eq_true rfl) dL_areAlike_222 ⟨Nat.le_of_ble_eq_true rfl, Nat.le_of_ble_eq_true rfl⟩ (fun H locs hP hD hS => ?_)
      refine lv_aload_n hx hb dL_areAlike_225 rfl (lv_at hl 4 rfl) ?_
      refine lv_iload hx hb dL_areAlike_226 (lv_at hl 0 rfl) ?_
      refine lv_iconst (v := (2 : Int32)) hx hb dL_areAlike_228 (by decide) ?_
      refine zcT (n := 2) (As := [.int (nI i169), .int (2 : Int32)]) (rest := [.int (kF_row V (nI i169) (2 : Int32))]) (Y := zW g a q V) hx hb hml hown hts hN (kM_row l g b r U (nI i169) (2 : Int32)) gL_areAlike_X5_row rfl (by decide +kernel) ⟨rfl, rfl⟩ ⟨Nat.le_of_ble_eq_true rfl, Nat.le_of_ble_eq_true rfl⟩ hK hP hD hS hA rfl hl.1 rfl (Nat.le_of_ble_eq_true rfl) dL_areAlike_229 ⟨Nat.le_of_ble_eq_true rfl, Nat.le_of_ble_eq_true rfl⟩ (fun H locs hP hD hS => ?_)
      refine lv_icmp_ne (tgt := 256) hx hb dL_areAlike_232 (by decide) (fun c_232 => absurd r2 c_232) (fun _ => ?_)
      refine lv_aload_n hx hb dL_areAlike_235 rfl (lv_at hl 3 rfl) ?_
      refine lv_iload hx hb dL_areAlike_236 (lv_at hl 0 rfl) ?_
      refine lv_iconst (v := (3 : Int32)) hx hb dL_areAlike_238 (by decide) ?_
      refine zcO (n := 2) (As := [.int (nI i169), .int (3 : Int32)]) (rest := []) (Y := zW g b r U) hx hb hml hown hts hN (kM_row l g a q V (nI i169) (3 : Int32)) gL_areAlike_X5_row rfl (by decide +kernel) ⟨rfl, rfl⟩ ⟨Nat.le_of_ble_eq_true rfl, Nat.le_of_ble_eq_true rfl⟩ hK hP hD hS hA rfl hl.1 rfl (Nat.le_of_ble_eq_true rfl) dL_areAlike_239 ⟨Nat.le_of_ble_eq_true rfl, Nat.le_of_ble_eq_true rfl⟩ (fun H locs hP hD hS => ?_)
      refine lv_aload_n hx hb dL_areAlike_242 rfl (lv_at hl 4 rfl) ?_
      refine lv_iload hx hb dL_areAlike_243 (lv_at hl 0 rfl) ?_
      refine lv_iconst (v := (3 : Int32)) hx hb dL_areAlike_245 (by decide) ?_
      refine zcT (n := 2) (As := [.int (nI i169), .int (3 : Int32)]) (rest := [.int (kF_row V (nI i169) (3 : Int32))]) (Y := zW g a q V) hx hb hml hown hts hN (kM_row l g b r U (nI i169) (3 : Int32)) gL_areAlike_X5_row rfl (by decide +kernel) ⟨rfl, rfl⟩ ⟨Nat.le_of_ble_eq_true rfl, Nat.le_of_ble_eq_true rfl⟩ hK hP hD hS hA rfl hl.1 rfl (Nat.le_of_ble_eq_true rfl) dL_areAlike_246 ⟨Nat.le_of_ble_eq_true rfl, Nat.le_of_ble_eq_true rfl⟩ (fun H locs hP hD hS => ?_)
      refine lv_icmp_ne (tgt := 256) hx hb dL_areAlike_249 (by decide) (fun c_249 => absurd r3 c_249) (fun _ => ?_)
      refine lv_iconst (v := (1 : Int32)) hx hb dL_areAlike_252 (by decide) ?_
      refine lv_goto (tgt := 257) hx hb dL_areAlike_253 (by decide) ?_
      refine lv_istore (lv' := [(4, .int (1 : Int32)), (5, .int (nI i169)), (3, .int (nI N)), (0, .ref a), (1, .ref b), (2, .int p0)]) hx hb dL_areAlike_257 hl (by decide) rfl (fun ls hl => ?_)
      refine lv_iconst (v := (0 : Int32)) hx hb dL_areAlike_259 (by decide) ?_
      refine lv_istore (lv' := [(6, .int (0 : Int32)), (4, .int (1 : Int32)), (5, .int (nI i169)), (3, .int (nI N)), (0, .ref a), (1, .ref b), (2, .int p0)]) hx hb dL_areAlike_260 hl (by decide) rfl (fun ls hl => ?_)
      have L262 : ∀ (n262 i262 : Nat), i262 + n262 = 6 → ∀ (H : Heap) (locs : List Loc) (ls : Array Slot), va_P g.1 vwCl (zW g a q V ++ zW g b r U) H → va_D A (zW g a q V ++ zW g b r U) → va_S A s.heap H locs → lv_has ls 7 [(6, .int (nI i262)), (4, .int (1 : Int32)), (5, .int (nI i169)), (3, .int (nI N)), (0, .ref a), (1, .ref b), (2, .int p0)] → (∀ (H : Heap) (locs : List Loc) (ls : Array Slot), va_P g.1 vwCl (zW g a q V ++ zW g b r U) H → va_D A (zW g a q V ++ zW g b r U) → va_S A s.heap H locs → lv_has ls 7 [(6, .int (nI 6)), (4, .int (1 : Int32)), (5, .int (nI i169)), (3, .int (nI N)), (0, .ref a), (1, .ref b), (2, .int p0)] → W p l e rm_L_areAlike s m ([.ref a, .ref b, .int p0] : List Value).toArray below meth c H locs 0 0 Q (F0 m 335 ls [])) → W p l e rm_L_areAlike s m ([.ref a, .ref b, .int p0] : List Value).toArray below meth c H locs 0 0 Q (F0 m 262 ls []) := by
        intro n262
        induction n262 with
        | zero =>
          intro i262 hi262 H locs ls hP hD hS hl kx262
          refine lv_iload hx hb dL_areAlike_262 (lv_at hl 0 rfl) ?_
          refine lv_bipush (v := (6 : Int32)) hx hb dL_areAlike_264 (by decide) ?_
          refine lv_icmp_ge (tgt := 335) hx hb dL_areAlike_266 (by decide) (fun _ => ?_) (fun c_266 => absurd ((nI_leI (a := 6) (b := i262) (by omega) (by omega)).mpr (by omega)) c_266)
          have e262 : i262 = 6 := by omega
          subst e262
          exact kx262  _ _ _  hP hD hS (lv_sub hl [0, 1, 2, 3, 4, 5, 6] rfl)
        | succ n262 ih262 =>
          intro i262 hi262 H locs ls hP hD hS hl kx262
          refine lv_iload hx hb dL_areAlike_262 (lv_at hl 0 rfl) ?_
          refine lv_bipush (v := (6 : Int32)) hx hb dL_areAlike_264 (by decide) ?_
          refine lv_icmp_ge (tgt := 335) hx hb dL_areAlike_266 (by decide) (fun c_266 => absurd c_266 (fun h => absurd ((nI_leI (a := 6) (b := i262) (by omega) (by omega)).mp h) (by omega))) (fun _ => ?_)
          refine lv_iload hx hb dL_areAlike_269 (lv_at hl 1 rfl) ?_
          refine lv_if_eq (tgt := 326) hx hb dL_areAlike_271 (by decide) (fun c_271 => absurd c_271 (by decide)) (fun _ => ?_)
          refine lv_aload_n hx hb dL_areAlike_274 rfl (lv_at hl 4 rfl) ?_
          refine lv_iload hx hb dL_areAlike_275 (lv_at hl 2 rfl) ?_
          refine lv_iload hx hb dL_areAlike_277 (lv_at hl 0 rfl) ?_
          refine zcO (n := 2) (As := [.int (nI i169), .int (nI i262)]) (rest := []) (Y := zW g b r U) hx hb hml hown hts hN (kM_stamped l g a q V (nI i169) (nI i262)) gL_areAlike_X5_stamped rfl (by decide +kernel) ⟨rfl, rfl⟩ ⟨Nat.le_of_ble_eq_true rfl, Nat.le_of_ble_eq_true rfl⟩ hK hP hD hS hA rfl hl.1 rfl (Nat.le_of_ble_eq_true rfl) dL_areAlike_279 ⟨Nat.le_of_ble_eq_true rfl, Nat.le_of_ble_eq_true rfl⟩ (fun H locs hP hD hS => ?_)
          refine lv_aload_n hx hb dL_areAlike_282 rfl (lv_at hl 5 rfl) ?_
          refine lv_iload hx hb dL_areAlike_283 (lv_at hl 2 rfl) ?_
          refine lv_iconst (v := (5 : Int32)) hx hb dL_areAlike_285 (by decide) ?_
          refine lv_iload hx hb dL_areAlike_286 (lv_at hl 0 rfl) ?_
          refine lv_isub hx hb dL_areAlike_288 ?_
          refine zcT (n := 2) (As := [.int (nI i169), .int ((5 : Int32) - (nI i262))]) (rest := [.int (kF_stamped V (nI i169) (nI i262))]) (Y := zW g a q V) hx hb hml hown hts hN (kM_stamped l g b r U (nI i169) ((5 : Int32) - (nI i262))) gL_areAlike_X5_stamped rfl (by decide +kernel) ⟨rfl, rfl⟩ ⟨Nat.le_of_ble_eq_true rfl, Nat.le_of_ble_eq_true rfl⟩ hK hP hD hS hA rfl hl.1 rfl (Nat.le_of_ble_eq_true rfl) dL_areAlike_289 ⟨Nat.le_of_ble_eq_true rfl, Nat.le_of_ble_eq_true rfl⟩ (fun H locs hP hD hS => ?_)
          refine lv_icmp_ne (tgt := 326) hx hb dL_areAlike_292 (by decide) (fun c_292 => absurd ((hR.rows V U hI).2.1 i169 i262 (by omega) (by omega)) c_292) (fun _ => ?_)
          have K322 : ∀ (H : Heap) (locs : List Loc) (ls : Array Slot), va_P g.1 vwCl (zW g a q V ++ zW g b r U) H → va_D A (zW g a q V ++ zW g b r U) → va_S A s.heap H locs → lv_has ls 7 [(6, .int (nI i262)), (4, .int (1 : Int32)), (5, .int (nI i169)), (3, .int (nI N)), (0, .ref a), (1, .ref b), (2, .int p0)] → W p l e rm_L_areAlike s m ([.ref a, .ref b, .int p0] : List Value).toArray below meth c H locs 0 0 Q (F0 m 322 ls []) := by
            intro H locs ls hP hD hS hl
            refine lv_iconst (v := (1 : Int32)) hx hb dL_areAlike_322 (by decide) ?_
            refine lv_goto (tgt := 327) hx hb dL_areAlike_323 (by decide) ?_
            refine lv_istore (lv' := [(4, .int (1 : Int32)), (6, .int (nI i262)), (5, .int (nI i169)), (3, .int (nI N)), (0, .ref a), (1, .ref b), (2, .int p0)]) hx hb dL_areAlike_327 hl (by decide) rfl (fun ls hl => ?_)
            refine lv_iinc (v := (nI (i262 + 1))) (lv' := [(6, .int (nI (i262 + 1))), (4, .int (1 : Int32)), (5, .int (nI i169)), (3, .int (nI N)), (0, .ref a), (1, .ref b), (2, .int p0)]) hx hb dL_areAlike_329 hl (k := 1) rfl (nI_1 i262) (by decide) rfl (fun ls hl => ?_)
            refine lv_goto (tgt := 262) hx hb dL_areAlike_332 (by decide) ?_
            exact ih262 (i262 + 1) (by omega)  _ _ _  hP hD hS (lv_sub hl [0, 1, 2, 3, 4, 5, 6] rfl) kx262
          refine lv_iload hx hb dL_areAlike_295 (lv_at hl 2 rfl) ?_
          refine lv_iconst (v := (4 : Int32)) hx hb dL_areAlike_297 (by decide) ?_
          refine lv_icmp_gt (tgt := 322) hx hb dL_areAlike_298 (by decide) (fun c_298 => ?_) (fun c_298 => ?_)
          · exact K322  _ _ _  hP hD hS (lv_sub hl [0, 1, 2, 3, 4, 5, 6] rfl)
          · refine lv_aload_n hx hb dL_areAlike_301 rfl (lv_at hl 4 rfl) ?_
            refine lv_iload hx hb dL_areAlike_302 (lv_at hl 0 rfl) ?_
            refine lv_iload hx hb dL_areAlike_304 (lv_at hl 2 rfl) ?_
            refine zcO (n := 2) (As := [.int (nI i262), .int (nI i169)]) (rest := []) (Y := zW g b r U) hx hb hml hown hts hN (kM_stamp l g a q V (nI i262) (nI i169)) gL_areAlike_X5_stamp rfl (by decide +kernel) ⟨rfl, rfl⟩ ⟨Nat.le_of_ble_eq_true rfl, Nat.le_of_ble_eq_true rfl⟩ hK hP hD hS hA rfl hl.1 rfl (Nat.le_of_ble_eq_true rfl) dL_areAlike_306 ⟨Nat.le_of_ble_eq_true rfl, Nat.le_of_ble_eq_true rfl⟩ (fun H locs hP hD hS => ?_)
            refine lv_aload_n hx hb dL_areAlike_309 rfl (lv_at hl 5 rfl) ?_
            refine lv_iconst (v := (5 : Int32)) hx hb dL_areAlike_310 (by decide) ?_
            refine lv_iload hx hb dL_areAlike_311 (lv_at hl 0 rfl) ?_
            refine lv_isub hx hb dL_areAlike_313 ?_
            refine lv_iload hx hb dL_areAlike_314 (lv_at hl 2 rfl) ?_
            refine zcT (n := 2) (As := [.int ((5 : Int32) - (nI i262)), .int (nI i169)]) (rest := [.int (kF_stamp V (nI i262) (nI i169))]) (Y := zW g a q V) hx hb hml hown hts hN (kM_stamp l g b r U ((5 : Int32) - (nI i262)) (nI i169)) gL_areAlike_X5_stamp rfl (by decide +kernel) ⟨rfl, rfl⟩ ⟨Nat.le_of_ble_eq_true rfl, Nat.le_of_ble_eq_true rfl⟩ hK hP hD hS hA rfl hl.1 rfl (Nat.le_of_ble_eq_true rfl) dL_areAlike_316 ⟨Nat.le_of_ble_eq_true rfl, Nat.le_of_ble_eq_true rfl⟩ (fun H locs hP hD hS => ?_)
            refine lv_icmp_ne (tgt := 326) hx hb dL_areAlike_319 (by decide) (fun c_319 => absurd ((hR.rows V U hI).2.2 i262 i169 (by omega) (by have h9 : ¬ 4 < i169 := fun h => c_298 ((nI_ltI (a := 4) (b := i169) (by omega) (by omega)).mpr h); omega)) c_319) (fun _ => ?_)
            exact K322  _ _ _  hP hD hS (lv_sub hl [0, 1, 2, 3, 4, 5, 6] rfl)
      refine L262 6 0 (by omega)  _ _ _  hP hD hS (lv_sub hl [0, 1, 2, 3, 4, 5, 6] rfl) (fun  H locs ls  hP hD hS hl => ?_)
      have hl := lv_sub hl [1, 2, 3, 4, 5, 6, 0] rfl
      have hl : lv_has ls 7 [(4, .int (1 : Int32)), (5, .int (nI i169)), (3, .int (nI N)), (0, .ref a), (1, .ref b), (2, .int p0), (6, .int (nI 6))] := hl
      refine lv_iinc (v := (nI (i169 + 1))) (lv' := [(5, .int (nI (i169 + 1))), (4, .int (1 : Int32)), (3, .int (nI N)), (0, .ref a), (1, .ref b), (2, .int p0), (6, .int (nI 6))]) hx hb dL_areAlike_335 hl (k := 1) rfl (nI_1 i169) (by decide) rfl (fun ls hl => ?_)
      refine lv_goto (tgt := 169) hx hb dL_areAlike_338 (by decide) ?_
      exact ih169 (i169 + 1) (by omega)  _ _ _  hP hD hS (lv_sub hl [0, 1, 2, 3, 4, 5] rfl) kx169
  refine L169 16 0 (by omega)  _ _ _  hP hD hS (lv_sub hl [0, 1, 2, 3, 4, 5] rfl) (fun  H locs ls  hP hD hS hl => ?_)
  have hl := lv_sub hl [1, 2, 3, 4, 5, 0] rfl
  have hl : lv_has ls 7 [(4, .int (1 : Int32)), (3, .int (nI N)), (0, .ref a), (1, .ref b), (2, .int p0), (5, .int (nI 16))] := hl
  rcases hR.best V U hI with ⟨b1, b2⟩ | ⟨b1, b2, b3⟩
  · refine lv_aload_n hx hb dL_areAlike_341 rfl (lv_at hl 2 rfl) ?_
    refine zcO (n := 0) (As := []) (rest := []) (Y := zW g b r U) hx hb hml hown hts hN (kM_bestOut l g a q V okO) gL_areAlike_X5_bestOut rfl (by decide +kernel) ⟨rfl, rfl⟩ ⟨Nat.le_of_ble_eq_true rfl, Nat.le_of_ble_eq_true rfl⟩ hK hP hD hS hA rfl hl.1 rfl (Nat.le_of_ble_eq_true rfl) dL_areAlike_342 ⟨Nat.le_of_ble_eq_true rfl, Nat.le_of_ble_eq_true rfl⟩ (fun H locs hP hD hS => ?_)
    refine lv_istore (lv' := [(5, .int (kF_bestOut V)), (4, .int (1 : Int32)), (3, .int (nI N)), (0, .ref a), (1, .ref b), (2, .int p0)]) hx hb dL_areAlike_345 hl (by decide) rfl (fun ls hl => ?_)
    refine lv_aload_n hx hb dL_areAlike_347 rfl (lv_at hl 4 rfl) ?_
    refine zcT (n := 0) (As := []) (rest := []) (Y := zW g a q (kG_bestOut V)) hx hb hml hown hts hN (kM_bestOut l g b r U okP) gL_areAlike_X5_bestOut rfl (by decide +kernel) ⟨rfl, rfl⟩ ⟨Nat.le_of_ble_eq_true rfl, Nat.le_of_ble_eq_true rfl⟩ hK hP hD hS hA rfl hl.1 rfl (Nat.le_of_ble_eq_true rfl) dL_areAlike_348 ⟨Nat.le_of_ble_eq_true rfl, Nat.le_of_ble_eq_true rfl⟩ (fun H locs hP hD hS => ?_)
    refine lv_istore (lv' := [(6, .int (kF_bestOut U)), (5, .int (kF_bestOut V)), (4, .int (1 : Int32)), (3, .int (nI N)), (0, .ref a), (1, .ref b), (2, .int p0)]) hx hb dL_areAlike_351 hl (by decide) rfl (fun ls hl => ?_)
    refine lv_iload hx hb dL_areAlike_353 (lv_at hl 2 rfl) ?_
    refine lv_if_eq (tgt := 407) hx hb dL_areAlike_355 (by decide) (fun c_355 => absurd c_355 (by decide)) (fun _ => ?_)
    refine lv_iload hx hb dL_areAlike_358 (lv_at hl 1 rfl) ?_
    refine lv_bipush (v := (-6 : Int32)) hx hb dL_areAlike_360 (by decide) ?_
    refine lv_icmp_ne (tgt := 369) hx hb dL_areAlike_362 (by decide) (fun c_362 => absurd b1 c_362) (fun _ => ?_)
    refine lv_iconst (v := (1 : Int32)) hx hb dL_areAlike_365 (by decide) ?_
    refine lv_goto (tgt := 370) hx hb dL_areAlike_366 (by decide) ?_
    refine lv_iload hx hb dL_areAlike_370 (lv_at hl 0 rfl) ?_
    refine lv_bipush (v := (-6 : Int32)) hx hb dL_areAlike_372 (by decide) ?_
    refine lv_icmp_ne (tgt := 381) hx hb dL_areAlike_374 (by decide) (fun c_374 => absurd b2 c_374) (fun _ => ?_)
    refine lv_iconst (v := (1 : Int32)) hx hb dL_areAlike_377 (by decide) ?_
    refine lv_goto (tgt := 382) hx hb dL_areAlike_378 (by decide) ?_
    refine lv_icmp_ne (tgt := 407) hx hb dL_areAlike_382 (by decide) (fun c_382 => absurd (rfl) c_382) (fun _ => ?_)
    refine lv_iload hx hb dL_areAlike_385 (lv_at hl 1 rfl) ?_
    refine lv_if_lt (tgt := 403) hx hb dL_areAlike_387 (by decide) (fun _ => ?_) (fun c_387 => absurd (by rw [b1]; decide) c_387)
    refine lv_iconst (v := (1 : Int32)) hx hb dL_areAlike_403 (by decide) ?_
    refine lv_goto (tgt := 408) hx hb dL_areAlike_404 (by decide) ?_
    exact hret (1 : Int32) (kG_bestOut V, kG_bestOut U) _ _ _ _ dL_areAlike_408 rfl rfl hP hD hS
  · refine lv_aload_n hx hb dL_areAlike_341 rfl (lv_at hl 2 rfl) ?_
    refine zcO (n := 0) (As := []) (rest := []) (Y := zW g b r U) hx hb hml hown hts hN (kM_bestOut l g a q V okO) gL_areAlike_X5_bestOut rfl (by decide +kernel) ⟨rfl, rfl⟩ ⟨Nat.le_of_ble_eq_true rfl, Nat.le_of_ble_eq_true rfl⟩ hK hP hD hS hA rfl hl.1 rfl (Nat.le_of_ble_eq_true rfl) dL_areAlike_342 ⟨Nat.le_of_ble_eq_true rfl, Nat.le_of_ble_eq_true rfl⟩ (fun H locs hP hD hS => ?_)
    refine lv_istore (lv' := [(5, .int (kF_bestOut V)), (4, .int (1 : Int32)), (3, .int (nI N)), (0, .ref a), (1, .ref b), (2, .int p0)]) hx hb dL_areAlike_345 hl (by decide) rfl (fun ls hl => ?_)
    refine lv_aload_n hx hb dL_areAlike_347 rfl (lv_at hl 4 rfl) ?_
    refine zcT (n := 0) (As := []) (rest := []) (Y := zW g a q (kG_bestOut V)) hx hb hml hown hts hN (kM_bestOut l g b r U okP) gL_areAlike_X5_bestOut rfl (by decide +kernel) ⟨rfl, rfl⟩ ⟨Nat.le_of_ble_eq_true rfl, Nat.le_of_ble_eq_true rfl⟩ hK hP hD hS hA rfl hl.1 rfl (Nat.le_of_ble_eq_true rfl) dL_areAlike_348 ⟨Nat.le_of_ble_eq_true rfl, Nat.le_of_ble_eq_true rfl⟩ (fun H locs hP hD hS => ?_)
    refine lv_istore (lv' := [(6, .int (kF_bestOut U)), (5, .int (kF_bestOut V)), (4, .int (1 : Int32)), (3, .int (nI N)), (0, .ref a), (1, .ref b), (2, .int p0)]) hx hb dL_areAlike_351 hl (by decide) rfl (fun ls hl => ?_)
    refine lv_iload hx hb dL_areAlike_353 (lv_at hl 2 rfl) ?_
    refine lv_if_eq (tgt := 407) hx hb dL_areAlike_355 (by decide) (fun c_355 => absurd c_355 (by decide)) (fun _ => ?_)
    refine lv_iload hx hb dL_areAlike_358 (lv_at hl 1 rfl) ?_
    refine lv_bipush (v := (-6 : Int32)) hx hb dL_areAlike_360 (by decide) ?_
    refine lv_icmp_ne (tgt := 369) hx hb dL_areAlike_362 (by decide) (fun _ => ?_) (fun c_362 => absurd c_362 b1)
    refine lv_iconst (v := (0 : Int32)) hx hb dL_areAlike_369 (by decide) ?_
    refine lv_iload hx hb dL_areAlike_370 (lv_at hl 0 rfl) ?_
    refine lv_bipush (v := (-6 : Int32)) hx hb dL_areAlike_372 (by decide) ?_
    refine lv_icmp_ne (tgt := 381) hx hb dL_areAlike_374 (by decide) (fun _ => ?_) (fun c_374 => absurd c_374 b2)
    refine lv_iconst (v := (0 : Int32)) hx hb dL_areAlike_381 (by decide) ?_
    refine lv_icmp_ne (tgt := 407) hx hb dL_areAlike_382 (by decide) (fun c_382 => absurd (rfl) c_382) (fun _ => ?_)
    refine lv_iload hx hb dL_areAlike_385 (lv_at hl 1 rfl) ?_
    refine lv_if_lt (tgt := 403) hx hb dL_areAlike_387 (by decide) (fun c_387 => ?_) (fun c_387 => ?_)
    · refine lv_iconst (v := (1 : Int32)) hx hb dL_areAlike_403 (by decide) ?_
      refine lv_goto (tgt := 408) hx hb dL_areAlike_404 (by decide) ?_
      exact hret (1 : Int32) (kG_bestOut V, kG_bestOut U) _ _ _ _ dL_areAlike_408 rfl rfl hP hD hS
    · refine lv_iload hx hb dL_areAlike_390 (lv_at hl 1 rfl) ?_
      refine lv_bipush (v := (6 : Int32)) hx hb dL_areAlike_392 (by decide) ?_
      refine lv_idiv hx hb dL_areAlike_394 (by decide) ?_
      refine lv_iload hx hb dL_areAlike_395 (lv_at hl 0 rfl) ?_
      refine lv_bipush (v := (6 : Int32)) hx hb dL_areAlike_397 (by decide) ?_
      refine lv_idiv hx hb dL_areAlike_399 (by decide) ?_
      refine lv_icmp_ne (tgt := 407) hx hb dL_areAlike_400 (by decide) (fun c_400 => absurd b3 c_400) (fun _ => ?_)
      refine lv_iconst (v := (1 : Int32)) hx hb dL_areAlike_403 (by decide) ?_
      refine lv_goto (tgt := 408) hx hb dL_areAlike_404 (by decide) ?_
      exact hret (1 : Int32) (kG_bestOut V, kG_bestOut U) _ _ _ _ dL_areAlike_408 rfl rfl hP hD hS
