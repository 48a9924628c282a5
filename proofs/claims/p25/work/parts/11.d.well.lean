abbrev rm_L_isWell : Room := { frames := 6, cells := 0, slots := 0, locals := 128 }
theorem zpe_lt {V : zPV} {r k : Nat} {x : Int32} (h : x = zsum (zpe V r) k) (c : kF_stamped V (nI r) (nI k) < (0 : Int32)) : x + (0 : Int32) = zsum (zpe V r) (k + 1) := by
  show _ = zsum (zpe V r) k + (if kF_stamped V (nI r) (nI k) < (0 : Int32) then 0 else 1)
  rw [if_pos c, h]
theorem zpe_ge {V : zPV} {r k : Nat} {x : Int32} (h : x = zsum (zpe V r) k) (c : ¬ kF_stamped V (nI r) (nI k) < (0 : Int32)) : x + (1 : Int32) = zsum (zpe V r) (k + 1) := by
  show _ = zsum (zpe V r) k + (if kF_stamped V (nI r) (nI k) < (0 : Int32) then 0 else 1)
  rw [if_neg c, h]
set_option maxRecDepth 100000 in
set_option maxHeartbeats 4000000 in
theorem m_L_isWell (l : Launch) (g : zG) {I I2 : zRel2} {J : zRel3} (hR : zS2 I I2 J) (a : Nat) (q : zAd) (V U : zPV) (hI : I V U) : ZE l yL_isWell wsL_isWell rm_L_isWell g (zW g a q V) [.ref a] (fun rv (u : zPV) => rv = 1 ∧ ∃ t, u = zTr V t) (fun u => zW g a q u) := by
  refine zopenE (cc := cL_isWell) (maxL := 9) (ret := .boolean) (by decide +kernel) rfl (Nat.le_of_ble_eq_true rfl) ?_
  intro p e s m below meth c A Q ls hx hb hml hown hts hP hK hD hA hN hGS hl hret
  have hS : va_S A s.heap s.heap [] := va_S.rf
  have hl : lv_has ls 9 [(0, .ref a)] := hl
  have hown : s.vm.findClass RL = some m.cls := hown
  obtain ⟨w1, w2, w3, w4, w5⟩ := hR.well V U hI
  obtain ⟨s1, s2, s3, s4⟩ := hR.wellS V U hI
  obtain ⟨j1, j2, j3⟩ := hR.wellJ V U hI
  have okO := (hR.ok V U hI).1
  refine lv_iconst (v := (0 : Int32)) hx hb dL_isWell_0 (by decide) ?_
  refine lv_istore_n (lv' := [(1, .int (0 : Int32)), (0, .ref a)]) hx hb dL_isWell_1 rfl hl (by decide) rfl (fun ls hl => ?_)
  refine lv_iconst (v := (0 : Int32)) hx hb dL_isWell_2 (by decide) ?_
  refine lv_istore_n (lv' := [(2, .int (0 : Int32)), (1, .int (0 : Int32)), (0, .ref a)]) hx hb dL_isWell_3 rfl hl (by decide) rfl (fun ls hl => ?_)
  refine lv_iconst (v := (0 : Int32)) hx hb dL_isWell_4 (by decide) ?_
  refine lv_istore_n (lv' := [(3, .int (0 : Int32)), (2, .int (0 : Int32)), (1, .int (0 : Int32)), (0, .ref a)]) hx hb dL_isWell_5 rfl hl (by decide) rfl (fun ls hl => ?_)
  refine lv_aload_n hx hb dL_isWell_6 rfl (lv_at hl 3 rfl) ?_
  refine lv_bipush (v := (9 : Int32)) hx hb dL_isWell_7 (by decide) ?_
  refine zc1 (n := 1) (As := [.int (9 : Int32)]) (rest := []) hx hb hml hown hts hN (kM_count l g a q V (9 : Int32)) gL_isWell_X5_count rfl (by decide +kernel) ⟨rfl, rfl⟩ ⟨Nat.le_of_ble_eq_true rfl, Nat.le_of_ble_eq_true rfl⟩ hK hP hD hS hA rfl hl.1 rfl (Nat.le_of_ble_eq_true rfl) dL_isWell_9 ⟨Nat.le_of_ble_eq_true rfl, Nat.le_of_ble_eq_true rfl⟩ (fun H locs hP hD hS => ?_)
  refine lv_bipush (v := (8 : Int32)) hx hb dL_isWell_12 (by decide) ?_
  refine lv_icmp_ge (tgt := 52) hx hb dL_isWell_14 (by decide) (fun c_14 => absurd c_14 w1) (fun _ => ?_)
  refine lv_aload_n hx hb dL_isWell_17 rfl (lv_at hl 3 rfl) ?_
  refine lv_bipush (v := (8 : Int32)) hx hb dL_isWell_18 (by decide) ?_
  refine zc1 (n := 1) (As := [.int (8 : Int32)]) (rest := []) hx hb hml hown hts hN (kM_count l g a q V (8 : Int32)) gL_isWell_X5_count rfl (by decide +kernel) ⟨rfl, rfl⟩ ⟨Nat.le_of_ble_eq_true rfl, Nat.le_of_ble_eq_true rfl⟩ hK hP hD hS hA rfl hl.1 rfl (Nat.le_of_ble_eq_true rfl) dL_isWell_20 ⟨Nat.le_of_ble_eq_true rfl, Nat.le_of_ble_eq_true rfl⟩ (fun H locs hP hD hS => ?_)
  have K35 : ∀ (H : Heap) (locs : List Loc) (ls : Array Slot), va_P g.1 vwCl (zW g a q V) H → va_D A (zW g a q V) → va_S A s.heap H locs → lv_has ls 9 [(3, .int (0 : Int32)), (2, .int (0 : Int32)), (1, .int (0 : Int32)), (0, .ref a)] → W p l e rm_L_isWell s m ([.ref a] : List Value).toArray below meth c H locs 0 0 Q (F0 m 35 ls []) := by
    intro H locs ls hP hD hS hl
    refine lv_aload_n hx hb dL_isWell_35 rfl (lv_at hl 3 rfl) ?_
    refine lv_iconst (v := (0 : Int32)) hx hb dL_isWell_36 (by decide) ?_
    refine zc1 (n := 1) (As := [.int (0 : Int32)]) (rest := []) hx hb hml hown hts hN (kM_nextStamps l g a q V (0 : Int32) okO) gL_isWell_X5_nextStamps rfl (by decide +kernel) ⟨rfl, rfl⟩ ⟨Nat.le_of_ble_eq_true rfl, Nat.le_of_ble_eq_true rfl⟩ hK hP hD hS hA rfl hl.1 rfl (Nat.le_of_ble_eq_true rfl) dL_isWell_37 ⟨Nat.le_of_ble_eq_true rfl, Nat.le_of_ble_eq_true rfl⟩ (fun H locs hP hD hS => ?_)
    refine lv_aload_n hx hb dL_isWell_40 rfl (lv_at hl 3 rfl) ?_
    refine lv_iconst (v := (1 : Int32)) hx hb dL_isWell_41 (by decide) ?_
    refine zc1 (n := 1) (As := [.int (1 : Int32)]) (rest := [.int (kF_nextStamps V (0 : Int32))]) hx hb hml hown hts hN (kM_nextStamps l g a q V (1 : Int32) okO) gL_isWell_X5_nextStamps rfl (by decide +kernel) ⟨rfl, rfl⟩ ⟨Nat.le_of_ble_eq_true rfl, Nat.le_of_ble_eq_true rfl⟩ hK hP hD hS hA rfl hl.1 rfl (Nat.le_of_ble_eq_true rfl) dL_isWell_42 ⟨Nat.le_of_ble_eq_true rfl, Nat.le_of_ble_eq_true rfl⟩ (fun H locs hP hD hS => ?_)
    refine lv_icmp_ne (tgt := 52) hx hb dL_isWell_45 (by decide) (fun c_45 => absurd w3 c_45) (fun _ => ?_)
    refine lv_iconst (v := (1 : Int32)) hx hb dL_isWell_48 (by decide) ?_
    refine lv_goto (tgt := 53) hx hb dL_isWell_49 (by decide) ?_
    refine lv_istore (lv' := [(4, .int (1 : Int32)), (3, .int (0 : Int32)), (2, .int (0 : Int32)), (1, .int (0 : Int32)), (0, .ref a)]) hx hb dL_isWell_53 hl (by decide) rfl (fun ls hl => ?_)
    refine lv_iconst (v := (0 : Int32)) hx hb dL_isWell_55 (by decide) ?_
    refine lv_istore (lv' := [(5, .int (0 : Int32)), (4, .int (1 : Int32)), (3, .int (0 : Int32)), (2, .int (0 : Int32)), (1, .int (0 : Int32)), (0, .ref a)]) hx hb dL_isWell_56 hl (by decide) rfl (fun ls hl => ?_)
    have L58 : ∀ (n58 i58 : Nat), i58 + n58 = 16 → ∀ (x1 : Int32) (H : Heap) (locs : List Loc) (ls : Array Slot), x1 = zsum (fun r => zsum (zpe V r) 6) i58 → va_P g.1 vwCl (zW g a q V) H → va_D A (zW g a q V) → va_S A s.heap H locs → lv_has ls 9 [(5, .int (nI i58)), (1, .int x1), (4, .int (1 : Int32)), (3, .int (0 : Int32)), (2, .int (0 : Int32)), (0, .ref a)] → (∀ (x1 : Int32) (H : Heap) (locs : List Loc) (ls : Array Slot), x1 = zsum (fun r => zsum (zpe V r) 6) 16 → va_P g.1 vwCl (zW g a q V) H → va_D A (zW g a q V) → va_S A s.heap H locs → lv_has ls 9 [(5, .int (nI 16)), (1, .int x1), (4, .int (1 : Int32)), (3, .int (0 : Int32)), (2, .int (0 : Int32)), (0, .ref a)] → W p l e rm_L_isWell s m ([.ref a] : List Value).toArray below meth c H locs 0 0 Q (F0 m 250 ls [])) → W p l e rm_L_isWell s m ([.ref a] : List Value).toArray below meth c H locs 0 0 Q (F0 m 58 ls []) := by
      intro n58
      induction n58 with
      | zero =>
        intro i58 hi58 x1 H locs ls h1 hP hD hS hl kx58
        refine lv_iload hx hb dL_isWell_58 (lv_at hl 0 rfl) ?_
        refine lv_bipush (v := (16 : Int32)) hx hb dL_isWell_60 (by decide) ?_
        refine lv_icmp_ge (tgt := 250) hx hb dL_isWell_62 (by decide) (fun _ => ?_) (fun c_62 => absurd ((nI_leI (a := 16) (b := i58) (by omega) (by omega)).mpr (by omega)) c_62)
        have e58 : i58 = 16 := by omega
        subst e58
        exact kx58 x1 _ _ _ h1 hP hD hS (lv_sub hl [0, 1, 2, 3, 4, 5] rfl)
      | succ n58 ih58 =>
        intro i58 hi58 x1 H locs ls h1 hP hD hS hl kx58
        refine lv_iload hx hb dL_isWell_58 (lv_at hl 0 rfl) ?_
        refine lv_bipush (v := (16 : Int32)) hx hb dL_isWell_60 (by decide) ?_
        refine lv_icmp_ge (tgt := 250) hx hb dL_isWell_62 (by decide) (fun c_62 => absurd c_62 (fun h => absurd ((nI_leI (a := 16) (b := i58) (by omega) (by omega)).mp h) (by omega))) (fun _ => ?_)
        refine lv_iconst (v := (0 : Int32)) hx hb dL_isWell_65 (by decide) ?_
        refine lv_istore (lv' := [(6, .int (0 : Int32)), (5, .int (nI i58)), (1, .int x1), (4, .int (1 : Int32)), (3, .int (0 : Int32)), (2, .int (0 : Int32)), (0, .ref a)]) hx hb dL_isWell_66 hl (by decide) rfl (fun ls hl => ?_)
        refine lv_iconst (v := (0 : Int32)) hx hb dL_isWell_68 (by decide) ?_
        refine lv_istore (lv' := [(7, .int (0 : Int32)), (6, .int (0 : Int32)), (5, .int (nI i58)), (1, .int x1), (4, .int (1 : Int32)), (3, .int (0 : Int32)), (2, .int (0 : Int32)), (0, .ref a)]) hx hb dL_isWell_69 hl (by decide) rfl (fun ls hl => ?_)
        have L71 : ∀ (n71 i71 : Nat), i71 + n71 = 6 → ∀ (x6 : Int32) (H : Heap) (locs : List Loc) (ls : Array Slot), x6 = zsum (zpe V i58) i71 → va_P g.1 vwCl (zW g a q V) H → va_D A (zW g a q V) → va_S A s.heap H locs → lv_has ls 9 [(7, .int (nI i71)), (6, .int x6), (5, .int (nI i58)), (1, .int x1), (4, .int (1 : Int32)), (3, .int (0 : Int32)), (2, .int (0 : Int32)), (0, .ref a)] → (∀ (x6 : Int32) (H : Heap) (locs : List Loc) (ls : Array Slot), x6 = zsum (zpe V i58) 6 → va_P g.1 vwCl (zW g a q V) H → va_D A (zW g a q V) → va_S A s.heap H locs → lv_has ls 9 [(7, .int (nI 6)), (6, .int x6), (5, .int (nI i58)), (1, .int x1), (4, .int (1 : Int32)), (3, .int (0 : Int32)), (2, .int (0 : Int32)), (0, .ref a)] → W p l e rm_L_isWell s m ([.ref a] : List Value).toArray below meth c H locs 0 0 Q (F0 m 166 ls [])) → W p l e rm_L_isWell s m ([.ref a] : List Value).toArray below meth c H locs 0 0 Q (F0 m 71 ls []) := by
          intro n71
          induction n71 with
          | zero =>
            intro i71 hi71 x6 H locs ls h6 hP hD hS hl kx71
            refine lv_iload hx hb dL_isWell_71 (lv_at hl 0 rfl) ?_
            refine lv_bipush (v := (6 : Int32)) hx hb dL_isWell_73 (by decide) ?_
            refine lv_icmp_ge (tgt := 166) hx hb dL_isWell_75 (by decide) (fun _ => ?_) (fun c_75 => absurd ((nI_leI (a := 6) (b := i71) (by omega) (by omega)).mpr (by omega)) c_75)
            have e71 : i71 = 6 := by omega
            subst e71
            exact kx71 x6 _ _ _ h6 hP hD hS (lv_sub hl [0, 1, 2, 3, 4, 5, 6, 7] rfl)
          | succ n71 ih71 =>
            intro i71 hi71 x6 H locs ls h6 hP hD hS hl kx71
            refine lv_iload hx hb dL_isWell_71 (lv_at hl 0 rfl) ?_
            refine lv_bipush (v := (6 : Int32)) hx hb dL_isWell_73 (by decide) ?_
            refine lv_icmp_ge (tgt := 166) hx hb dL_isWell_75 (by decide) (fun c_75 => absurd c_75 (fun h => absurd ((nI_leI (a := 6) (b := i71) (by omega) (by omega)).mp h) (by omega))) (fun _ => ?_)
            refine lv_aload_n hx hb dL_isWell_78 rfl (lv_at hl 7 rfl) ?_
            refine lv_iload hx hb dL_isWell_79 (lv_at hl 2 rfl) ?_
            refine lv_iload hx hb dL_isWell_81 (lv_at hl 0 rfl) ?_
            refine zc1 (n := 2) (As := [.int (nI i58), .int (nI i71)]) (rest := []) hx hb hml hown hts hN (kM_stamped l g a q V (nI i58) (nI i71)) gL_isWell_X5_stamped rfl (by decide +kernel) ⟨rfl, rfl⟩ ⟨Nat.le_of_ble_eq_true rfl, Nat.le_of_ble_eq_true rfl⟩ hK hP hD hS hA rfl hl.1 rfl (Nat.le_of_ble_eq_true rfl) dL_isWell_83 ⟨Nat.le_of_ble_eq_true rfl, Nat.le_of_ble_eq_true rfl⟩ (fun H locs hP hD hS => ?_)
            refine lv_istore (lv' := [(8, .int (kF_stamped V (nI i58) (nI i71))), (7, .int (nI i71)), (6, .int x6), (5, .int (nI i58)), (1, .int x1), (4, .int (1 : Int32)), (3, .int (0 : Int32)), (2, .int (0 : Int32)), (0, .ref a)]) hx hb dL_isWell_86 hl (by decide) rfl (fun ls hl => ?_)
            refine lv_iload hx hb dL_isWell_88 (lv_at hl 2 rfl) ?_
            refine lv_iload hx hb dL_isWell_90 (lv_at hl 0 rfl) ?_
            refine lv_if_lt (tgt := 99) hx hb dL_isWell_92 (by decide) (fun c_92 => ?_) (fun c_92 => ?_)
            · refine lv_iconst (v := (0 : Int32)) hx hb dL_isWell_99 (by decide) ?_
              refine lv_iadd hx hb dL_isWell_100 ?_
              refine lv_istore (lv' := [(6, .int (x6 + (0 : Int32))), (8, .int (kF_stamped V (nI i58) (nI i71))), (7, .int (nI i71)), (5, .int (nI i58)), (1, .int x1), (4, .int (1 : Int32)), (3, .int (0 : Int32)), (2, .int (0 : Int32)), (0, .ref a)]) hx hb dL_isWell_101 hl (by decide) rfl (fun ls hl => ?_)
              refine lv_iload hx hb dL_isWell_103 (lv_at hl 5 rfl) ?_
              refine lv_if_eq (tgt := 157) hx hb dL_isWell_105 (by decide) (fun c_105 => absurd c_105 (by decide)) (fun _ => ?_)
              refine lv_iload hx hb dL_isWell_108 (lv_at hl 1 rfl) ?_
              refine lv_if_lt (tgt := 117) hx hb dL_isWell_110 (by decide) (fun _ => ?_) (fun c_110 => absurd c_92 c_110)
              refine lv_iconst (v := (0 : Int32)) hx hb dL_isWell_117 (by decide) ?_
              refine lv_aload_n hx hb dL_isWell_118 rfl (lv_at hl 8 rfl) ?_
              refine lv_iload hx hb dL_isWell_119 (lv_at hl 3 rfl) ?_
              refine lv_iconst (v := (0 : Int32)) hx hb dL_isWell_121 (by decide) ?_
              refine zc1 (n := 2) (As := [.int (nI i58), .int (0 : Int32)]) (rest := [.int (0 : Int32)]) hx hb hml hown hts hN (kM_row l g a q V (nI i58) (0 : Int32)) gL_isWell_X5_row rfl (by decide +kernel) ⟨rfl, rfl⟩ ⟨Nat.le_of_ble_eq_true rfl, Nat.le_of_ble_eq_true rfl⟩ hK hP hD hS hA rfl hl.1 rfl (Nat.le_of_ble_eq_true rfl) dL_isWell_122 ⟨Nat.le_of_ble_eq_true rfl, Nat.le_of_ble_eq_true rfl⟩ (fun H locs hP hD hS => ?_)
              refine lv_iload hx hb dL_isWell_125 (lv_at hl 2 rfl) ?_
              refine lv_ishr hx hb dL_isWell_127 ?_
              refine lv_iconst (v := (1 : Int32)) hx hb dL_isWell_128 (by decide) ?_
              refine lv_iand hx hb dL_isWell_129 ?_
              refine lv_iconst (v := (1 : Int32)) hx hb dL_isWell_130 (by decide) ?_
              refine lv_icmp_ne (tgt := 138) hx hb dL_isWell_131 (by decide) (fun _ => ?_) (fun c_131 => absurd c_131 (fun h => (w4 i58 i71 (by omega) (by omega)).1.mpr h c_92))
              refine lv_iconst (v := (0 : Int32)) hx hb dL_isWell_138 (by decide) ?_
              refine lv_icmp_ne (tgt := 157) hx hb dL_isWell_139 (by decide) (fun c_139 => absurd (rfl) c_139) (fun _ => ?_)
              refine lv_iload hx hb dL_isWell_142 (lv_at hl 1 rfl) ?_
              refine lv_aload_n hx hb dL_isWell_144 rfl (lv_at hl 8 rfl) ?_
              refine lv_bipush (v := (10 : Int32)) hx hb dL_isWell_145 (by decide) ?_
              refine zc1 (n := 1) (As := [.int (10 : Int32)]) (rest := [.int (kF_stamped V (nI i58) (nI i71))]) hx hb hml hown hts hN (kM_count l g a q V (10 : Int32)) gL_isWell_X5_count rfl (by decide +kernel) ⟨rfl, rfl⟩ ⟨Nat.le_of_ble_eq_true rfl, Nat.le_of_ble_eq_true rfl⟩ hK hP hD hS hA rfl hl.1 rfl (Nat.le_of_ble_eq_true rfl) dL_isWell_147 ⟨Nat.le_of_ble_eq_true rfl, Nat.le_of_ble_eq_true rfl⟩ (fun H locs hP hD hS => ?_)
              refine lv_icmp_gt (tgt := 157) hx hb dL_isWell_150 (by decide) (fun c_150 => absurd c_150 (w4 i58 i71 (by omega) (by omega)).2) (fun _ => ?_)
              refine lv_iconst (v := (1 : Int32)) hx hb dL_isWell_153 (by decide) ?_
              refine lv_goto (tgt := 158) hx hb dL_isWell_154 (by decide) ?_
              refine lv_istore (lv' := [(4, .int (1 : Int32)), (6, .int (x6 + (0 : Int32))), (8, .int (kF_stamped V (nI i58) (nI i71))), (7, .int (nI i71)), (5, .int (nI i58)), (1, .int x1), (3, .int (0 : Int32)), (2, .int (0 : Int32)), (0, .ref a)]) hx hb dL_isWell_158 hl (by decide) rfl (fun ls hl => ?_)
              refine lv_iinc (v := (nI (i71 + 1))) (lv' := [(7, .int (nI (i71 + 1))), (4, .int (1 : Int32)), (6, .int (x6 + (0 : Int32))), (8, .int (kF_stamped V (nI i58) (nI i71))), (5, .int (nI i58)), (1, .int x1), (3, .int (0 : Int32)), (2, .int (0 : Int32)), (0, .ref a)]) hx hb dL_isWell_160 hl (k := 3) rfl (nI_1 i71) (by decide) rfl (fun ls hl => ?_)
              refine lv_goto (tgt := 71) hx hb dL_isWell_163 (by decide) ?_
              exact ih71 (i71 + 1) (by omega) (x6 + (0 : Int32)) _ _ _ (zpe_lt h6 c_92) hP hD hS (lv_sub hl [0, 2, 4, 5, 1, 6, 7, 8] rfl) kx71
            · refine lv_iconst (v := (1 : Int32)) hx hb dL_isWell_95 (by decide) ?_
              refine lv_goto (tgt := 100) hx hb dL_isWell_96 (by decide) ?_
              refine lv_iadd hx hb dL_isWell_100 ?_
              refine lv_istore (lv' := [(6, .int (x6 + (1 : Int32))), (8, .int (kF_stamped V (nI i58) (nI i71))), (7, .int (nI i71)), (5, .int (nI i58)), (1, .int x1), (4, .int (1 : Int32)), (3, .int (0 : Int32)), (2, .int (0 : Int32)), (0, .ref a)]) hx hb dL_isWell_101 hl (by decide) rfl (fun ls hl => ?_)
              refine lv_iload hx hb dL_isWell_103 (lv_at hl 5 rfl) ?_
              refine lv_if_eq (tgt := 157) hx hb dL_isWell_105 (by decide) (fun c_105 => absurd c_105 (by decide)) (fun _ => ?_)
              refine lv_iload hx hb dL_isWell_108 (lv_at hl 1 rfl) ?_
              refine lv_if_lt (tgt := 117) hx hb dL_isWell_110 (by decide) (fun c_110 => absurd c_110 c_92) (fun _ => ?_)
              refine lv_iconst (v := (1 : Int32)) hx hb dL_isWell_113 (by decide) ?_
              refine lv_goto (tgt := 118) hx hb dL_isWell_114 (by decide) ?_
              refine lv_aload_n hx hb dL_isWell_118 rfl (lv_at hl 8 rfl) ?_
              refine lv_iload hx hb dL_isWell_119 (lv_at hl 3 rfl) ?_
              refine lv_iconst (v := (0 : Int32)) hx hb dL_isWell_121 (by decide) ?_
              refine zc1 (n := 2) (As := [.int (nI i58), .int (0 : Int32)]) (rest := [.int (1 : Int32)]) hx hb hml hown hts hN (kM_row l g a q V (nI i58) (0 : Int32)) gL_isWell_X5_row rfl (by decide +kernel) ⟨rfl, rfl⟩ ⟨Nat.le_of_ble_eq_true rfl, Nat.le_of_ble_eq_true rfl⟩ hK hP hD hS hA rfl hl.1 rfl (Nat.le_of_ble_eq_true rfl) dL_isWell_122 ⟨Nat.le_of_ble_eq_true rfl, Nat.le_of_ble_eq_true rfl⟩ (fun H locs hP hD hS => ?_)
              refine lv_iload hx hb dL_isWell_125 (lv_at hl 2 rfl) ?_
              refine lv_ishr hx hb dL_isWell_127 ?_
              refine lv_iconst (v := (1 : Int32)) hx hb dL_isWell_128 (by decide) ?_
              refine lv_iand hx hb dL_isWell_129 ?_
              refine lv_iconst (v := (1 : Int32)) hx hb dL_isWell_130 (by decide) ?_
              refine lv_icmp_ne (tgt := 138) hx hb dL_isWell_131 (by decide) (fun c_131 => absurd ((w4 i58 i71 (by omega) (by omega)).1.mp c_92) c_131) (fun _ => ?_)
              refine lv_iconst (v := (1 : Int32)) hx hb dL_isWell_134 (by decide) ?_
              refine lv_goto (tgt := 139) hx hb dL_isWell_135 (by decide) ?_
              refine lv_icmp_ne (tgt := 157) hx hb dL_isWell_139 (by decide) (fun c_139 => absurd (rfl) c_139) (fun _ => ?_)
              refine lv_iload hx hb dL_isWell_142 (lv_at hl 1 rfl) ?_
              refine lv_aload_n hx hb dL_isWell_144 rfl (lv_at hl 8 rfl) ?_
              refine lv_bipush (v := (10 : Int32)) hx hb dL_isWell_145 (by decide) ?_
              refine zc1 (n := 1) (As := [.int (10 : Int32)]) (rest := [.int (kF_stamped V (nI i58) (nI i71))]) hx hb hml hown hts hN (kM_count l g a q V (10 : Int32)) gL_isWell_X5_count rfl (by decide +kernel) ⟨rfl, rfl⟩ ⟨Nat.le_of_ble_eq_true rfl, Nat.le_of_ble_eq_true rfl⟩ hK hP hD hS hA rfl hl.1 rfl (Nat.le_of_ble_eq_true rfl) dL_isWell_147 ⟨Nat.le_of_ble_eq_true rfl, Nat.le_of_ble_eq_true rfl⟩ (fun H locs hP hD hS => ?_)
              refine lv_icmp_gt (tgt := 157) hx hb dL_isWell_150 (by decide) (fun c_150 => absurd c_150 (w4 i58 i71 (by omega) (by omega)).2) (fun _ => ?_)
              refine lv_iconst (v := (1 : Int32)) hx hb dL_isWell_153 (by decide) ?_
              refine lv_goto (tgt := 158) hx hb dL_isWell_154 (by decide) ?_
              refine lv_istore (lv' := [(4, .int (1 : Int32)), (6, .int (x6 + (1 : Int32))), (8, .int (kF_stamped V (nI i58) (nI i71))), (7, .int (nI i71)), (5, .int (nI i58)), (1, .int x1), (3, .int (0 : Int32)), (2, .int (0 : Int32)), (0, .ref a)]) hx hb dL_isWell_158 hl (by decide) rfl (fun ls hl => ?_)
              refine lv_iinc (v := (nI (i71 + 1))) (lv' := [(7, .int (nI (i71 + 1))), (4, .int (1 : Int32)), (6, .int (x6 + (1 : Int32))), (8, .int (kF_stamped V (nI i58) (nI i71))), (5, .int (nI i58)), (1, .int x1), (3, .int (0 : Int32)), (2, .int (0 : Int32)), (0, .ref a)]) hx hb dL_isWell_160 hl (k := 3) rfl (nI_1 i71) (by decide) rfl (fun ls hl => ?_)
              refine lv_goto (tgt := 71) hx hb dL_isWell_163 (by decide) ?_
              exact ih71 (i71 + 1) (by omega) (x6 + (1 : Int32)) _ _ _ (zpe_ge h6 c_92) hP hD hS (lv_sub hl [0, 2, 4, 5, 1, 6, 7, 8] rfl) kx71
        refine L71 6 0 (by omega) (0 : Int32) _ _ _ rfl hP hD hS (lv_sub hl [0, 1, 2, 3, 4, 5, 6, 7] rfl) (fun x6 H locs ls h6 hP hD hS hl => ?_)
        have hl := lv_sub hl [1, 2, 3, 4, 5, 6, 7, 0] rfl
        have hl : lv_has ls 9 [(6, .int x6), (5, .int (nI i58)), (1, .int x1), (4, .int (1 : Int32)), (3, .int (0 : Int32)), (2, .int (0 : Int32)), (0, .ref a), (7, .int (nI 6))] := hl
        subst h6
        refine lv_iload_n hx hb dL_isWell_166 rfl (lv_at hl 2 rfl) ?_
        refine lv_iload hx hb dL_isWell_167 (lv_at hl 0 rfl) ?_
        refine lv_iadd hx hb dL_isWell_169 ?_
        refine lv_istore_n (lv' := [(1, .int (x1 + (zsum (zpe V i58) 6))), (6, .int (zsum (zpe V i58) 6)), (5, .int (nI i58)), (4, .int (1 : Int32)), (3, .int (0 : Int32)), (2, .int (0 : Int32)), (0, .ref a), (7, .int (nI 6))]) hx hb dL_isWell_170 rfl hl (by decide) rfl (fun ls hl => ?_)
        refine lv_iload hx hb dL_isWell_171 (lv_at hl 3 rfl) ?_
        refine lv_if_eq (tgt := 241) hx hb dL_isWell_173 (by decide) (fun c_173 => absurd c_173 (by decide)) (fun _ => ?_)
        refine lv_iload hx hb dL_isWell_176 (lv_at hl 1 rfl) ?_
        refine lv_aload_n hx hb dL_isWell_178 rfl (lv_at hl 6 rfl) ?_
        refine lv_iload hx hb dL_isWell_179 (lv_at hl 2 rfl) ?_
        refine lv_iconst (v := (1 : Int32)) hx hb dL_isWell_181 (by decide) ?_
        refine zc1 (n := 2) (As := [.int (nI i58), .int (1 : Int32)]) (rest := [.int (zsum (zpe V i58) 6)]) hx hb hml hown hts hN (kM_row l g a q V (nI i58) (1 : Int32)) gL_isWell_X5_row rfl (by decide +kernel) ⟨rfl, rfl⟩ ⟨Nat.le_of_ble_eq_true rfl, Nat.le_of_ble_eq_true rfl⟩ hK hP hD hS hA rfl hl.1 rfl (Nat.le_of_ble_eq_true rfl) dL_isWell_182 ⟨Nat.le_of_ble_eq_true rfl, Nat.le_of_ble_eq_true rfl⟩ (fun H locs hP hD hS => ?_)
        refine lv_icmp_ne (tgt := 241) hx hb dL_isWell_185 (by decide) (fun c_185 => absurd (w5 i58 (by omega)).1 c_185) (fun _ => ?_)
        refine lv_aload_n hx hb dL_isWell_188 rfl (lv_at hl 6 rfl) ?_
        refine lv_iload hx hb dL_isWell_189 (lv_at hl 2 rfl) ?_
        refine lv_iconst (v := (2 : Int32)) hx hb dL_isWell_191 (by decide) ?_
        refine zc1 (n := 2) (As := [.int (nI i58), .int (2 : Int32)]) (rest := []) hx hb hml hown hts hN (kM_row l g a q V (nI i58) (2 : Int32)) gL_isWell_X5_row rfl (by decide +kernel) ⟨rfl, rfl⟩ ⟨Nat.le_of_ble_eq_true rfl, Nat.le_of_ble_eq_true rfl⟩ hK hP hD hS hA rfl hl.1 rfl (Nat.le_of_ble_eq_true rfl) dL_isWell_192 ⟨Nat.le_of_ble_eq_true rfl, Nat.le_of_ble_eq_true rfl⟩ (fun H locs hP hD hS => ?_)
        refine lv_iload hx hb dL_isWell_195 (lv_at hl 1 rfl) ?_
        refine lv_aload_n hx hb dL_isWell_197 rfl (lv_at hl 6 rfl) ?_
        refine lv_iconst (v := (3 : Int32)) hx hb dL_isWell_198 (by decide) ?_
        refine zc1 (n := 1) (As := [.int (3 : Int32)]) (rest := [.int (zsum (zpe V i58) 6), .int (kF_row V (nI i58) (2 : Int32))]) hx hb hml hown hts hN (kM_count l g a q V (3 : Int32)) gL_isWell_X5_count rfl (by decide +kernel) ⟨rfl, rfl⟩ ⟨Nat.le_of_ble_eq_true rfl, Nat.le_of_ble_eq_true rfl⟩ hK hP hD hS hA rfl hl.1 rfl (Nat.le_of_ble_eq_true rfl) dL_isWell_199 ⟨Nat.le_of_ble_eq_true rfl, Nat.le_of_ble_eq_true rfl⟩ (fun H locs hP hD hS => ?_)
        refine lv_icmp_le (tgt := 209) hx hb dL_isWell_202 (by decide) (fun c_202 => ?_) (fun c_202 => ?_)
        · refine lv_iconst (v := (0 : Int32)) hx hb dL_isWell_209 (by decide) ?_
          refine lv_icmp_ne (tgt := 241) hx hb dL_isWell_210 (by decide) (fun c_210 => absurd ((w5 i58 (by omega)).2.1.trans (if_pos c_202)) c_210) (fun _ => ?_)
          refine lv_aload_n hx hb dL_isWell_213 rfl (lv_at hl 6 rfl) ?_
          refine lv_iload hx hb dL_isWell_214 (lv_at hl 2 rfl) ?_
          refine lv_iconst (v := (3 : Int32)) hx hb dL_isWell_216 (by decide) ?_
          refine zc1 (n := 2) (As := [.int (nI i58), .int (3 : Int32)]) (rest := []) hx hb hml hown hts hN (kM_row l g a q V (nI i58) (3 : Int32)) gL_isWell_X5_row rfl (by decide +kernel) ⟨rfl, rfl⟩ ⟨Nat.le_of_ble_eq_true rfl, Nat.le_of_ble_eq_true rfl⟩ hK hP hD hS hA rfl hl.1 rfl (Nat.le_of_ble_eq_true rfl) dL_isWell_217 ⟨Nat.le_of_ble_eq_true rfl, Nat.le_of_ble_eq_true rfl⟩ (fun H locs hP hD hS => ?_)
          refine lv_iload hx hb dL_isWell_220 (lv_at hl 2 rfl) ?_
          refine lv_aload_n hx hb dL_isWell_222 rfl (lv_at hl 6 rfl) ?_
          refine lv_iconst (v := (4 : Int32)) hx hb dL_isWell_223 (by decide) ?_
          refine zc1 (n := 1) (As := [.int (4 : Int32)]) (rest := [.int (nI i58), .int (kF_row V (nI i58) (3 : Int32))]) hx hb hml hown hts hN (kM_count l g a q V (4 : Int32)) gL_isWell_X5_count rfl (by decide +kernel) ⟨rfl, rfl⟩ ⟨Nat.le_of_ble_eq_true rfl, Nat.le_of_ble_eq_true rfl⟩ hK hP hD hS hA rfl hl.1 rfl (Nat.le_of_ble_eq_true rfl) dL_isWell_224 ⟨Nat.le_of_ble_eq_true rfl, Nat.le_of_ble_eq_true rfl⟩ (fun H locs hP hD hS => ?_)
          refine lv_isub hx hb dL_isWell_227 ?_
          refine lv_bipush (v := (16 : Int32)) hx hb dL_isWell_228 (by decide) ?_
          refine lv_iadd hx hb dL_isWell_230 ?_
          refine lv_bipush (v := (16 : Int32)) hx hb dL_isWell_231 (by decide) ?_
          refine lv_irem hx hb dL_isWell_233 (by decide) ?_
          refine lv_icmp_ne (tgt := 241) hx hb dL_isWell_234 (by decide) (fun c_234 => absurd (w5 i58 (by omega)).2.2 c_234) (fun _ => ?_)
          refine lv_iconst (v := (1 : Int32)) hx hb dL_isWell_237 (by decide) ?_
          refine lv_goto (tgt := 242) hx hb dL_isWell_238 (by decide) ?_
          refine lv_istore (lv' := [(4, .int (1 : Int32)), (1, .int (x1 + (zsum (zpe V i58) 6))), (6, .int (zsum (zpe V i58) 6)), (5, .int (nI i58)), (3, .int (0 : Int32)), (2, .int (0 : Int32)), (0, .ref a), (7, .int (nI 6))]) hx hb dL_isWell_242 hl (by decide) rfl (fun ls hl => ?_)
          refine lv_iinc (v := (nI (i58 + 1))) (lv' := [(5, .int (nI (i58 + 1))), (4, .int (1 : Int32)), (1, .int (x1 + (zsum (zpe V i58) 6))), (6, .int (zsum (zpe V i58) 6)), (3, .int (0 : Int32)), (2, .int (0 : Int32)), (0, .ref a), (7, .int (nI 6))]) hx hb dL_isWell_244 hl (k := 3) rfl (nI_1 i58) (by decide) rfl (fun ls hl => ?_)
          refine lv_goto (tgt := 58) hx hb dL_isWell_247 (by decide) ?_
          exact ih58 (i58 + 1) (by omega) (x1 + (zsum (zpe V i58) 6)) _ _ _ (by rw [h1]; rfl) hP hD hS (lv_sub hl [0, 2, 1, 4, 5, 6] rfl) kx58
        · refine lv_iconst (v := (1 : Int32)) hx hb dL_isWell_205 (by decide) ?_
          refine lv_goto (tgt := 210) hx hb dL_isWell_206 (by decide) ?_
          refine lv_icmp_ne (tgt := 241) hx hb dL_isWell_210 (by decide) (fun c_210 => absurd ((w5 i58 (by omega)).2.1.trans (if_neg c_202)) c_210) (fun _ => ?_)
          refine lv_aload_n hx hb dL_isWell_213 rfl (lv_at hl 6 rfl) ?_
          refine lv_iload hx hb dL_isWell_214 (lv_at hl 2 rfl) ?_
          refine lv_iconst (v := (3 : Int32)) hx hb dL_isWell_216 (by decide) ?_
          refine zc1 (n := 2) (As := [.int (nI i58), .int (3 : Int32)]) (rest := []) hx hb hml hown hts hN (kM_row l g a q V (nI i58) (3 : Int32)) gL_isWell_X5_row rfl (by decide +kernel) ⟨rfl, rfl⟩ ⟨Nat.le_of_ble_eq_true rfl, Nat.le_of_ble_eq_true rfl⟩ hK hP hD hS hA rfl hl.1 rfl (Nat.le_of_ble_eq_true rfl) dL_isWell_217 ⟨Nat.le_of_ble_eq_true rfl, Nat.le_of_ble_eq_true rfl⟩ (fun H locs hP hD hS => ?_)
          refine lv_iload hx hb dL_isWell_220 (lv_at hl 2 rfl) ?_
          refine lv_aload_n hx hb dL_isWell_222 rfl (lv_at hl 6 rfl) ?_
          refine lv_iconst (v := (4 : Int32)) hx hb dL_isWell_223 (by decide) ?_
          refine zc1 (n := 1) (As := [.int (4 : Int32)]) (rest := [.int (nI i58), .int (kF_row V (nI i58) (3 : Int32))]) hx hb hml hown hts hN (kM_count l g a q V (4 : Int32)) gL_isWell_X5_count rfl (by decide +kernel) ⟨rfl, rfl⟩ ⟨Nat.le_of_ble_eq_true rfl, Nat.le_of_ble_eq_true rfl⟩ hK hP hD hS hA rfl hl.1 rfl (Nat.le_of_ble_eq_true rfl) dL_isWell_224 ⟨Nat.le_of_ble_eq_true rfl, Nat.le_of_ble_eq_true rfl⟩ (fun H locs hP hD hS => ?_)
          refine lv_isub hx hb dL_isWell_227 ?_
          refine lv_bipush (v := (16 : Int32)) hx hb dL_isWell_228 (by decide) ?_
          refine lv_iadd hx hb dL_isWell_230 ?_
          refine lv_bipush (v := (16 : Int32)) hx hb dL_isWell_231 (by decide) ?_
          refine lv_irem hx hb dL_isWell_233 (by decide) ?_
          refine lv_icmp_ne (tgt := 241) hx hb dL_isWell_234 (by decide) (fun c_234 => absurd (w5 i58 (by omega)).2.2 c_234) (fun _ => ?_)
          refine lv_iconst (v := (1 : Int32)) hx hb dL_isWell_237 (by decide) ?_
          refine lv_goto (tgt := 242) hx hb dL_isWell_238 (by decide) ?_
          refine lv_istore (lv' := [(4, .int (1 : Int32)), (1, .int (x1 + (zsum (zpe V i58) 6))), (6, .int (zsum (zpe V i58) 6)), (5, .int (nI i58)), (3, .int (0 : Int32)), (2, .int (0 : Int32)), (0, .ref a), (7, .int (nI 6))]) hx hb dL_isWell_242 hl (by decide) rfl (fun ls hl => ?_)
          refine lv_iinc (v := (nI (i58 + 1))) (lv' := [(5, .int (nI (i58 + 1))), (4, .int (1 : Int32)), (1, .int (x1 + (zsum (zpe V i58) 6))), (6, .int (zsum (zpe V i58) 6)), (3, .int (0 : Int32)), (2, .int (0 : Int32)), (0, .ref a), (7, .int (nI 6))]) hx hb dL_isWell_244 hl (k := 3) rfl (nI_1 i58) (by decide) rfl (fun ls hl => ?_)
          refine lv_goto (tgt := 58) hx hb dL_isWell_247 (by decide) ?_
          exact ih58 (i58 + 1) (by omega) (x1 + (zsum (zpe V i58) 6)) _ _ _ (by rw [h1]; rfl) hP hD hS (lv_sub hl [0, 2, 1, 4, 5, 6] rfl) kx58
    refine L58 16 0 (by omega) (0 : Int32) _ _ _ rfl hP hD hS (lv_sub hl [0, 4, 1, 2, 3, 5] rfl) (fun x1 H locs ls h1 hP hD hS hl => ?_)
    have hl := lv_sub hl [1, 2, 3, 4, 5, 0] rfl
    have hl : lv_has ls 9 [(1, .int x1), (4, .int (1 : Int32)), (3, .int (0 : Int32)), (2, .int (0 : Int32)), (0, .ref a), (5, .int (nI 16))] := hl
    subst h1
    refine lv_iconst (v := (0 : Int32)) hx hb dL_isWell_250 (by decide) ?_
    refine lv_istore (lv' := [(5, .int (0 : Int32)), (1, .int (zsum (fun r => zsum (zpe V r) 6) 16)), (4, .int (1 : Int32)), (3, .int (0 : Int32)), (2, .int (0 : Int32)), (0, .ref a)]) hx hb dL_isWell_251 hl (by decide) rfl (fun ls hl => ?_)
    have L253 : ∀ (n253 i253 : Nat), i253 + n253 = 6 → ∀ (x2 : Int32) (x3 : Int32) (H : Heap) (locs : List Loc) (ls : Array Slot), x2 = zsum (fun k => kF_stamp V (nI k) 1) i253 → x3 = zsum (fun k => kF_stamp V (nI k) 3) i253 → va_P g.1 vwCl (zW g a q V) H → va_D A (zW g a q V) → va_S A s.heap H locs → lv_has ls 9 [(5, .int (nI i253)), (2, .int x2), (3, .int x3), (1, .int (zsum (fun r => zsum (zpe V r) 6) 16)), (4, .int (1 : Int32)), (0, .ref a)] → (∀ (x2 : Int32) (x3 : Int32) (H : Heap) (locs : List Loc) (ls : Array Slot), x2 = zsum (fun k => kF_stamp V (nI k) 1) 6 → x3 = zsum (fun k => kF_stamp V (nI k) 3) 6 → va_P g.1 vwCl (zW g a q V) H → va_D A (zW g a q V) → va_S A s.heap H locs → lv_has ls 9 [(5, .int (nI 6)), (2, .int x2), (3, .int x3), (1, .int (zsum (fun r => zsum (zpe V r) 6) 16)), (4, .int (1 : Int32)), (0, .ref a)] → W p l e rm_L_isWell s m ([.ref a] : List Value).toArray below meth c H locs 0 0 Q (F0 m 344 ls [])) → W p l e rm_L_isWell s m ([.ref a] : List Value).toArray below meth c H locs 0 0 Q (F0 m 253 ls []) := by
      intro n253
      induction n253 with
      | zero =>
        intro i253 hi253 x2 x3 H locs ls h2 h3 hP hD hS hl kx253
        refine lv_iload hx hb dL_isWell_253 (lv_at hl 0 rfl) ?_
        refine lv_bipush (v := (6 : Int32)) hx hb dL_isWell_255 (by decide) ?_
        refine lv_icmp_ge (tgt := 344) hx hb dL_isWell_257 (by decide) (fun _ => ?_) (fun c_257 => absurd ((nI_leI (a := 6) (b := i253) (by omega) (by omega)).mpr (by omega)) c_257)
        have e253 : i253 = 6 := by omega
        subst e253
        exact kx253 x2 x3 _ _ _ h2 h3 hP hD hS (lv_sub hl [0, 1, 2, 3, 4, 5] rfl)
      | succ n253 ih253 =>
        intro i253 hi253 x2 x3 H locs ls h2 h3 hP hD hS hl kx253
        refine lv_iload hx hb dL_isWell_253 (lv_at hl 0 rfl) ?_
        refine lv_bipush (v := (6 : Int32)) hx hb dL_isWell_255 (by decide) ?_
        refine lv_icmp_ge (tgt := 344) hx hb dL_isWell_257 (by decide) (fun c_257 => absurd c_257 (fun h => absurd ((nI_leI (a := 6) (b := i253) (by omega) (by omega)).mp h) (by omega))) (fun _ => ?_)
        refine lv_iload_n hx hb dL_isWell_260 rfl (lv_at hl 1 rfl) ?_
        refine lv_aload_n hx hb dL_isWell_261 rfl (lv_at hl 5 rfl) ?_
        refine lv_iload hx hb dL_isWell_262 (lv_at hl 0 rfl) ?_
        refine lv_iconst (v := (1 : Int32)) hx hb dL_isWell_264 (by decide) ?_
        refine zc1 (n := 2) (As := [.int (nI i253), .int (1 : Int32)]) (rest := [.int x2]) hx hb hml hown hts hN (kM_stamp l g a q V (nI i253) (1 : Int32)) gL_isWell_X5_stamp rfl (by decide +kernel) ⟨rfl, rfl⟩ ⟨Nat.le_of_ble_eq_true rfl, Nat.le_of_ble_eq_true rfl⟩ hK hP hD hS hA rfl hl.1 rfl (Nat.le_of_ble_eq_true rfl) dL_isWell_265 ⟨Nat.le_of_ble_eq_true rfl, Nat.le_of_ble_eq_true rfl⟩ (fun H locs hP hD hS => ?_)
        refine lv_iadd hx hb dL_isWell_268 ?_
        refine lv_istore_n (lv' := [(2, .int (x2 + (kF_stamp V (nI i253) (1 : Int32)))), (5, .int (nI i253)), (3, .int x3), (1, .int (zsum (fun r => zsum (zpe V r) 6) 16)), (4, .int (1 : Int32)), (0, .ref a)]) hx hb dL_isWell_269 rfl hl (by decide) rfl (fun ls hl => ?_)
        refine lv_iload_n hx hb dL_isWell_270 rfl (lv_at hl 2 rfl) ?_
        refine lv_aload_n hx hb dL_isWell_271 rfl (lv_at hl 5 rfl) ?_
        refine lv_iload hx hb dL_isWell_272 (lv_at hl 1 rfl) ?_
        refine lv_iconst (v := (3 : Int32)) hx hb dL_isWell_274 (by decide) ?_
        refine zc1 (n := 2) (As := [.int (nI i253), .int (3 : Int32)]) (rest := [.int x3]) hx hb hml hown hts hN (kM_stamp l g a q V (nI i253) (3 : Int32)) gL_isWell_X5_stamp rfl (by decide +kernel) ⟨rfl, rfl⟩ ⟨Nat.le_of_ble_eq_true rfl, Nat.le_of_ble_eq_true rfl⟩ hK hP hD hS hA rfl hl.1 rfl (Nat.le_of_ble_eq_true rfl) dL_isWell_275 ⟨Nat.le_of_ble_eq_true rfl, Nat.le_of_ble_eq_true rfl⟩ (fun H locs hP hD hS => ?_)
        refine lv_iadd hx hb dL_isWell_278 ?_
        refine lv_istore_n (lv' := [(3, .int (x3 + (kF_stamp V (nI i253) (3 : Int32)))), (2, .int (x2 + (kF_stamp V (nI i253) (1 : Int32)))), (5, .int (nI i253)), (1, .int (zsum (fun r => zsum (zpe V r) 6) 16)), (4, .int (1 : Int32)), (0, .ref a)]) hx hb dL_isWell_279 rfl hl (by decide) rfl (fun ls hl => ?_)
        refine lv_iload hx hb dL_isWell_280 (lv_at hl 4 rfl) ?_
        refine lv_if_eq (tgt := 335) hx hb dL_isWell_282 (by decide) (fun c_282 => absurd c_282 (by decide)) (fun _ => ?_)
        refine lv_aload_n hx hb dL_isWell_285 rfl (lv_at hl 5 rfl) ?_
        refine lv_iload hx hb dL_isWell_286 (lv_at hl 2 rfl) ?_
        refine lv_iconst (v := (0 : Int32)) hx hb dL_isWell_288 (by decide) ?_
        refine zc1 (n := 2) (As := [.int (nI i253), .int (0 : Int32)]) (rest := []) hx hb hml hown hts hN (kM_stamp l g a q V (nI i253) (0 : Int32)) gL_isWell_X5_stamp rfl (by decide +kernel) ⟨rfl, rfl⟩ ⟨Nat.le_of_ble_eq_true rfl, Nat.le_of_ble_eq_true rfl⟩ hK hP hD hS hA rfl hl.1 rfl (Nat.le_of_ble_eq_true rfl) dL_isWell_289 ⟨Nat.le_of_ble_eq_true rfl, Nat.le_of_ble_eq_true rfl⟩ (fun H locs hP hD hS => ?_)
        refine lv_if_lt (tgt := 335) hx hb dL_isWell_292 (by decide) (fun c_292 => absurd c_292 (s4 i253 (by omega)).1) (fun _ => ?_)
        refine lv_aload_n hx hb dL_isWell_295 rfl (lv_at hl 5 rfl) ?_
        refine lv_iload hx hb dL_isWell_296 (lv_at hl 2 rfl) ?_
        refine lv_iconst (v := (0 : Int32)) hx hb dL_isWell_298 (by decide) ?_
        refine zc1 (n := 2) (As := [.int (nI i253), .int (0 : Int32)]) (rest := []) hx hb hml hown hts hN (kM_stamp l g a q V (nI i253) (0 : Int32)) gL_isWell_X5_stamp rfl (by decide +kernel) ⟨rfl, rfl⟩ ⟨Nat.le_of_ble_eq_true rfl, Nat.le_of_ble_eq_true rfl⟩ hK hP hD hS hA rfl hl.1 rfl (Nat.le_of_ble_eq_true rfl) dL_isWell_299 ⟨Nat.le_of_ble_eq_true rfl, Nat.le_of_ble_eq_true rfl⟩ (fun H locs hP hD hS => ?_)
        refine lv_bipush (v := (99 : Int32)) hx hb dL_isWell_302 (by decide) ?_
        refine lv_icmp_gt (tgt := 335) hx hb dL_isWell_304 (by decide) (fun c_304 => absurd c_304 (s4 i253 (by omega)).2.1) (fun _ => ?_)
        refine lv_aload_n hx hb dL_isWell_307 rfl (lv_at hl 5 rfl) ?_
        refine lv_bipush (v := (7 : Int32)) hx hb dL_isWell_308 (by decide) ?_
        refine zc1 (n := 1) (As := [.int (7 : Int32)]) (rest := []) hx hb hml hown hts hN (kM_count l g a q V (7 : Int32)) gL_isWell_X5_count rfl (by decide +kernel) ⟨rfl, rfl⟩ ⟨Nat.le_of_ble_eq_true rfl, Nat.le_of_ble_eq_true rfl⟩ hK hP hD hS hA rfl hl.1 rfl (Nat.le_of_ble_eq_true rfl) dL_isWell_310 ⟨Nat.le_of_ble_eq_true rfl, Nat.le_of_ble_eq_true rfl⟩ (fun H locs hP hD hS => ?_)
        refine lv_iload hx hb dL_isWell_313 (lv_at hl 2 rfl) ?_
        refine lv_ishr hx hb dL_isWell_315 ?_
        refine lv_iconst (v := (1 : Int32)) hx hb dL_isWell_316 (by decide) ?_
        refine lv_iand hx hb dL_isWell_317 ?_
        have K331 : ∀ (H : Heap) (locs : List Loc) (ls : Array Slot), va_P g.1 vwCl (zW g a q V) H → va_D A (zW g a q V) → va_S A s.heap H locs → lv_has ls 9 [(3, .int (x3 + (kF_stamp V (nI i253) (3 : Int32)))), (2, .int (x2 + (kF_stamp V (nI i253) (1 : Int32)))), (5, .int (nI i253)), (1, .int (zsum (fun r => zsum (zpe V r) 6) 16)), (4, .int (1 : Int32)), (0, .ref a)] → W p l e rm_L_isWell s m ([.ref a] : List Value).toArray below meth c H locs 0 0 Q (F0 m 331 ls []) := by
          intro H locs ls hP hD hS hl
          refine lv_iconst (v := (1 : Int32)) hx hb dL_isWell_331 (by decide) ?_
          refine lv_goto (tgt := 336) hx hb dL_isWell_332 (by decide) ?_
          refine lv_istore (lv' := [(4, .int (1 : Int32)), (3, .int (x3 + (kF_stamp V (nI i253) (3 : Int32)))), (2, .int (x2 + (kF_stamp V (nI i253) (1 : Int32)))), (5, .int (nI i253)), (1, .int (zsum (fun r => zsum (zpe V r) 6) 16)), (0, .ref a)]) hx hb dL_isWell_336 hl (by decide) rfl (fun ls hl => ?_)
          refine lv_iinc (v := (nI (i253 + 1))) (lv' := [(5, .int (nI (i253 + 1))), (4, .int (1 : Int32)), (3, .int (x3 + (kF_stamp V (nI i253) (3 : Int32)))), (2, .int (x2 + (kF_stamp V (nI i253) (1 : Int32)))), (1, .int (zsum (fun r => zsum (zpe V r) 6) 16)), (0, .ref a)]) hx hb dL_isWell_338 hl (k := 3) rfl (nI_1 i253) (by decide) rfl (fun ls hl => ?_)
          refine lv_goto (tgt := 253) hx hb dL_isWell_341 (by decide) ?_
          exact ih253 (i253 + 1) (by omega) (x2 + (kF_stamp V (nI i253) (1 : Int32))) (x3 + (kF_stamp V (nI i253) (3 : Int32))) _ _ _ (by rw [h2]; rfl) (by rw [h3]; rfl) hP hD hS (lv_sub hl [0, 3, 2, 4, 1, 5] rfl) kx253
        refine lv_if_eq (tgt := 331) hx hb dL_isWell_318 (by decide) (fun c_318 => ?_) (fun c_318 => ?_)
        · exact K331  _ _ _  hP hD hS (lv_sub hl [0, 1, 2, 3, 4, 5] rfl)
        · refine lv_aload_n hx hb dL_isWell_321 rfl (lv_at hl 5 rfl) ?_
          refine lv_iload hx hb dL_isWell_322 (lv_at hl 2 rfl) ?_
          refine lv_iconst (v := (1 : Int32)) hx hb dL_isWell_324 (by decide) ?_
          refine zc1 (n := 2) (As := [.int (nI i253), .int (1 : Int32)]) (rest := []) hx hb hml hown hts hN (kM_stamp l g a q V (nI i253) (1 : Int32)) gL_isWell_X5_stamp rfl (by decide +kernel) ⟨rfl, rfl⟩ ⟨Nat.le_of_ble_eq_true rfl, Nat.le_of_ble_eq_true rfl⟩ hK hP hD hS hA rfl hl.1 rfl (Nat.le_of_ble_eq_true rfl) dL_isWell_325 ⟨Nat.le_of_ble_eq_true rfl, Nat.le_of_ble_eq_true rfl⟩ (fun H locs hP hD hS => ?_)
          refine lv_if_le (tgt := 335) hx hb dL_isWell_328 (by decide) (fun c_328 => absurd c_328 ((s4 i253 (by omega)).2.2.resolve_left c_318)) (fun _ => ?_)
          exact K331  _ _ _  hP hD hS (lv_sub hl [0, 1, 2, 3, 4, 5] rfl)
    refine L253 6 0 (by omega) (0 : Int32) (0 : Int32) _ _ _ rfl rfl hP hD hS (lv_sub hl [0, 4, 3, 1, 2, 5] rfl) (fun x2 x3 H locs ls h2 h3 hP hD hS hl => ?_)
    have hl := lv_sub hl [1, 2, 3, 4, 5, 0] rfl
    have hl : lv_has ls 9 [(2, .int x2), (3, .int x3), (1, .int (zsum (fun r => zsum (zpe V r) 6) 16)), (4, .int (1 : Int32)), (0, .ref a), (5, .int (nI 6))] := hl
    subst h2
    subst h3
    refine lv_aload_n hx hb dL_isWell_344 rfl (lv_at hl 4 rfl) ?_
    refine zc1 (n := 0) (As := []) (rest := []) hx hb hml hown hts hN (kM_untilJam l g a q V okO) gL_isWell_X5_untilJam rfl (by decide +kernel) ⟨rfl, rfl⟩ ⟨Nat.le_of_ble_eq_true rfl, Nat.le_of_ble_eq_true rfl⟩ hK hP hD hS hA rfl hl.1 rfl (Nat.le_of_ble_eq_true rfl) dL_isWell_345 ⟨Nat.le_of_ble_eq_true rfl, Nat.le_of_ble_eq_true rfl⟩ (fun H locs hP hD hS => ?_)
    have e5 : ∀ p, kF_count (kG_untilJam V) p = kF_count V p := fun _ => rfl
    have e6 : ∀ p w, kF_row (kG_untilJam V) p w = kF_row V p w := fun _ _ => rfl
    refine lv_istore (lv' := [(5, .int (kF_untilJam V)), (2, .int (zsum (fun k => kF_stamp V (nI k) 1) 6)), (3, .int (zsum (fun k => kF_stamp V (nI k) 3) 6)), (1, .int (zsum (fun r => zsum (zpe V r) 6) 16)), (4, .int (1 : Int32)), (0, .ref a)]) hx hb dL_isWell_348 hl (by decide) rfl (fun ls hl => ?_)
    refine lv_iload hx hb dL_isWell_350 (lv_at hl 4 rfl) ?_
    refine lv_if_eq (tgt := 471) hx hb dL_isWell_352 (by decide) (fun c_352 => absurd c_352 (by decide)) (fun _ => ?_)
    refine lv_iload_n hx hb dL_isWell_355 rfl (lv_at hl 3 rfl) ?_
    refine lv_aload_n hx hb dL_isWell_356 rfl (lv_at hl 5 rfl) ?_
    refine lv_bipush (v := (15 : Int32)) hx hb dL_isWell_357 (by decide) ?_
    refine zc1 (n := 1) (As := [.int (15 : Int32)]) (rest := [.int (zsum (fun r => zsum (zpe V r) 6) 16)]) hx hb hml hown hts hN (kM_count l g a q (kG_untilJam V) (15 : Int32)) gL_isWell_X5_count rfl (by decide +kernel) ⟨rfl, rfl⟩ ⟨Nat.le_of_ble_eq_true rfl, Nat.le_of_ble_eq_true rfl⟩ hK hP hD hS hA rfl hl.1 rfl (Nat.le_of_ble_eq_true rfl) dL_isWell_359 ⟨Nat.le_of_ble_eq_true rfl, Nat.le_of_ble_eq_true rfl⟩ (fun H locs hP hD hS => ?_)
    refine lv_icmp_ne (tgt := 471) hx hb dL_isWell_362 (by decide) (fun c_362 => absurd (s1.trans (e5 _).symm) c_362) (fun _ => ?_)
    refine lv_iload_n hx hb dL_isWell_365 rfl (lv_at hl 2 rfl) ?_
    refine lv_iload_n hx hb dL_isWell_366 rfl (lv_at hl 3 rfl) ?_
    refine lv_icmp_ne (tgt := 471) hx hb dL_isWell_367 (by decide) (fun c_367 => absurd (s2.trans s1.symm) c_367) (fun _ => ?_)
    refine lv_iload_n hx hb dL_isWell_370 rfl (lv_at hl 1 rfl) ?_
    refine lv_aload_n hx hb dL_isWell_371 rfl (lv_at hl 5 rfl) ?_
    refine lv_bipush (v := (17 : Int32)) hx hb dL_isWell_372 (by decide) ?_
    refine zc1 (n := 1) (As := [.int (17 : Int32)]) (rest := [.int (zsum (fun k => kF_stamp V (nI k) 1) 6)]) hx hb hml hown hts hN (kM_count l g a q (kG_untilJam V) (17 : Int32)) gL_isWell_X5_count rfl (by decide +kernel) ⟨rfl, rfl⟩ ⟨Nat.le_of_ble_eq_true rfl, Nat.le_of_ble_eq_true rfl⟩ hK hP hD hS hA rfl hl.1 rfl (Nat.le_of_ble_eq_true rfl) dL_isWell_374 ⟨Nat.le_of_ble_eq_true rfl, Nat.le_of_ble_eq_true rfl⟩ (fun H locs hP hD hS => ?_)
    refine lv_icmp_ne (tgt := 471) hx hb dL_isWell_377 (by decide) (fun c_377 => absurd (s3.trans (e5 _).symm) c_377) (fun _ => ?_)
    have K421 : ∀ (H : Heap) (locs : List Loc) (ls : Array Slot), va_P g.1 vwCl (zW g a q (kG_untilJam V)) H → va_D A (zW g a q (kG_untilJam V)) → va_S A s.heap H locs → lv_has ls 9 [(0, .ref a)] → W p l e rm_L_isWell s m ([.ref a] : List Value).toArray below meth c H locs 0 0 Q (F0 m 421 ls []) := by
      intro H locs ls hP hD hS hl
      refine lv_aload_n hx hb dL_isWell_421 rfl (lv_at hl 0 rfl) ?_
      refine lv_bipush (v := (11 : Int32)) hx hb dL_isWell_422 (by decide) ?_
      refine zc1 (n := 1) (As := [.int (11 : Int32)]) (rest := []) hx hb hml hown hts hN (kM_count l g a q (kG_untilJam V) (11 : Int32)) gL_isWell_X5_count rfl (by decide +kernel) ⟨rfl, rfl⟩ ⟨Nat.le_of_ble_eq_true rfl, Nat.le_of_ble_eq_true rfl⟩ hK hP hD hS hA rfl hl.1 rfl (Nat.le_of_ble_eq_true rfl) dL_isWell_424 ⟨Nat.le_of_ble_eq_true rfl, Nat.le_of_ble_eq_true rfl⟩ (fun H locs hP hD hS => ?_)
      refine lv_aload_n hx hb dL_isWell_427 rfl (lv_at hl 0 rfl) ?_
      refine lv_bipush (v := (12 : Int32)) hx hb dL_isWell_428 (by decide) ?_
      refine zc1 (n := 1) (As := [.int (12 : Int32)]) (rest := [.int (kF_count (kG_untilJam V) (11 : Int32))]) hx hb hml hown hts hN (kM_count l g a q (kG_untilJam V) (12 : Int32)) gL_isWell_X5_count rfl (by decide +kernel) ⟨rfl, rfl⟩ ⟨Nat.le_of_ble_eq_true rfl, Nat.le_of_ble_eq_true rfl⟩ hK hP hD hS hA rfl hl.1 rfl (Nat.le_of_ble_eq_true rfl) dL_isWell_430 ⟨Nat.le_of_ble_eq_true rfl, Nat.le_of_ble_eq_true rfl⟩ (fun H locs hP hD hS => ?_)
      refine lv_iadd hx hb dL_isWell_433 ?_
      refine lv_aload_n hx hb dL_isWell_434 rfl (lv_at hl 0 rfl) ?_
      refine lv_bipush (v := (13 : Int32)) hx hb dL_isWell_435 (by decide) ?_
      refine zc1 (n := 1) (As := [.int (13 : Int32)]) (rest := [.int ((kF_count (kG_untilJam V) (11 : Int32)) + (kF_count (kG_untilJam V) (12 : Int32)))]) hx hb hml hown hts hN (kM_count l g a q (kG_untilJam V) (13 : Int32)) gL_isWell_X5_count rfl (by decide +kernel) ⟨rfl, rfl⟩ ⟨Nat.le_of_ble_eq_true rfl, Nat.le_of_ble_eq_true rfl⟩ hK hP hD hS hA rfl hl.1 rfl (Nat.le_of_ble_eq_true rfl) dL_isWell_437 ⟨Nat.le_of_ble_eq_true rfl, Nat.le_of_ble_eq_true rfl⟩ (fun H locs hP hD hS => ?_)
      refine lv_iadd hx hb dL_isWell_440 ?_
      refine lv_aload_n hx hb dL_isWell_441 rfl (lv_at hl 0 rfl) ?_
      refine lv_bipush (v := (10 : Int32)) hx hb dL_isWell_442 (by decide) ?_
      refine zc1 (n := 1) (As := [.int (10 : Int32)]) (rest := [.int (((kF_count (kG_untilJam V) (11 : Int32)) + (kF_count (kG_untilJam V) (12 : Int32))) + (kF_count (kG_untilJam V) (13 : Int32)))]) hx hb hml hown hts hN (kM_count l g a q (kG_untilJam V) (10 : Int32)) gL_isWell_X5_count rfl (by decide +kernel) ⟨rfl, rfl⟩ ⟨Nat.le_of_ble_eq_true rfl, Nat.le_of_ble_eq_true rfl⟩ hK hP hD hS hA rfl hl.1 rfl (Nat.le_of_ble_eq_true rfl) dL_isWell_444 ⟨Nat.le_of_ble_eq_true rfl, Nat.le_of_ble_eq_true rfl⟩ (fun H locs hP hD hS => ?_)
      refine lv_icmp_gt (tgt := 471) hx hb dL_isWell_447 (by decide) (fun c_447 => absurd c_447 (by rw [e5, e5, e5, e5]; exact j2)) (fun _ => ?_)
      refine lv_aload_n hx hb dL_isWell_450 rfl (lv_at hl 0 rfl) ?_
      refine lv_iconst (v := (5 : Int32)) hx hb dL_isWell_451 (by decide) ?_
      refine zc1 (n := 1) (As := [.int (5 : Int32)]) (rest := []) hx hb hml hown hts hN (kM_count l g a q (kG_untilJam V) (5 : Int32)) gL_isWell_X5_count rfl (by decide +kernel) ⟨rfl, rfl⟩ ⟨Nat.le_of_ble_eq_true rfl, Nat.le_of_ble_eq_true rfl⟩ hK hP hD hS hA rfl hl.1 rfl (Nat.le_of_ble_eq_true rfl) dL_isWell_452 ⟨Nat.le_of_ble_eq_true rfl, Nat.le_of_ble_eq_true rfl⟩ (fun H locs hP hD hS => ?_)
      have K467 : ∀ (H : Heap) (locs : List Loc) (ls : Array Slot), va_P g.1 vwCl (zW g a q (kG_untilJam V)) H → va_D A (zW g a q (kG_untilJam V)) → va_S A s.heap H locs → lv_has ls 9 [(0, .ref a)] → W p l e rm_L_isWell s m ([.ref a] : List Value).toArray below meth c H locs 0 0 Q (F0 m 467 ls []) := by
        intro H locs ls hP hD hS hl
        refine lv_iconst (v := (1 : Int32)) hx hb dL_isWell_467 (by decide) ?_
        refine lv_goto (tgt := 472) hx hb dL_isWell_468 (by decide) ?_
        exact hret (1 : Int32) (kG_untilJam V) _ _ _ _ dL_isWell_472 ⟨rfl, _, rfl⟩ rfl hP hD hS
      refine lv_if_eq (tgt := 467) hx hb dL_isWell_455 (by decide) (fun c_455 => ?_) (fun c_455 => ?_)
      · exact K467  _ _ _  hP hD hS (lv_sub hl [0] rfl)
      · refine lv_aload_n hx hb dL_isWell_458 rfl (lv_at hl 0 rfl) ?_
        refine lv_bipush (v := (14 : Int32)) hx hb dL_isWell_459 (by decide) ?_
        refine zc1 (n := 1) (As := [.int (14 : Int32)]) (rest := []) hx hb hml hown hts hN (kM_count l g a q (kG_untilJam V) (14 : Int32)) gL_isWell_X5_count rfl (by decide +kernel) ⟨rfl, rfl⟩ ⟨Nat.le_of_ble_eq_true rfl, Nat.le_of_ble_eq_true rfl⟩ hK hP hD hS hA rfl hl.1 rfl (Nat.le_of_ble_eq_true rfl) dL_isWell_461 ⟨Nat.le_of_ble_eq_true rfl, Nat.le_of_ble_eq_true rfl⟩ (fun H locs hP hD hS => ?_)
        refine lv_if_le (tgt := 471) hx hb dL_isWell_464 (by decide) (fun c_464 => absurd c_464 (by rw [e5]; exact j3.resolve_left (by rw [e5] at c_455; exact c_455))) (fun _ => ?_)
        exact K467  _ _ _  hP hD hS (lv_sub hl [0] rfl)
    refine lv_iload hx hb dL_isWell_380 (lv_at hl 0 rfl) ?_
    refine lv_if_ne (tgt := 389) hx hb dL_isWell_382 (by decide) (fun c_382 => ?_) (fun c_382 => ?_)
    · refine lv_iconst (v := (0 : Int32)) hx hb dL_isWell_389 (by decide) ?_
      refine lv_aload_n hx hb dL_isWell_390 rfl (lv_at hl 5 rfl) ?_
      refine lv_iconst (v := (5 : Int32)) hx hb dL_isWell_391 (by decide) ?_
      refine zc1 (n := 1) (As := [.int (5 : Int32)]) (rest := [.int (0 : Int32)]) hx hb hml hown hts hN (kM_count l g a q (kG_untilJam V) (5 : Int32)) gL_isWell_X5_count rfl (by decide +kernel) ⟨rfl, rfl⟩ ⟨Nat.le_of_ble_eq_true rfl, Nat.le_of_ble_eq_true rfl⟩ hK hP hD hS hA rfl hl.1 rfl (Nat.le_of_ble_eq_true rfl) dL_isWell_392 ⟨Nat.le_of_ble_eq_true rfl, Nat.le_of_ble_eq_true rfl⟩ (fun H locs hP hD hS => ?_)
      refine lv_iconst (v := (1 : Int32)) hx hb dL_isWell_395 (by decide) ?_
      refine lv_icmp_eq (tgt := 413) hx hb dL_isWell_396 (by decide) (fun c_396 => ?_) (fun c_396 => ?_)
      · refine lv_iconst (v := (1 : Int32)) hx hb dL_isWell_413 (by decide) ?_
        refine lv_goto (tgt := 418) hx hb dL_isWell_414 (by decide) ?_
        exact absurd (j1.mpr (Or.inl ((e5 _).symm.trans c_396))) c_382
      · refine lv_aload_n hx hb dL_isWell_399 rfl (lv_at hl 5 rfl) ?_
        refine lv_aload_n hx hb dL_isWell_400 rfl (lv_at hl 5 rfl) ?_
        refine lv_iconst (v := (4 : Int32)) hx hb dL_isWell_401 (by decide) ?_
        refine zc1 (n := 1) (As := [.int (4 : Int32)]) (rest := [.ref a, .int (0 : Int32)]) hx hb hml hown hts hN (kM_count l g a q (kG_untilJam V) (4 : Int32)) gL_isWell_X5_count rfl (by decide +kernel) ⟨rfl, rfl⟩ ⟨Nat.le_of_ble_eq_true rfl, Nat.le_of_ble_eq_true rfl⟩ hK hP hD hS hA rfl hl.1 rfl (Nat.le_of_ble_eq_true rfl) dL_isWell_402 ⟨Nat.le_of_ble_eq_true rfl, Nat.le_of_ble_eq_true rfl⟩ (fun H locs hP hD hS => ?_)
        refine lv_iconst (v := (2 : Int32)) hx hb dL_isWell_405 (by decide) ?_
        refine zc1 (n := 2) (As := [.int (kF_count (kG_untilJam V) (4 : Int32)), .int (2 : Int32)]) (rest := [.int (0 : Int32)]) hx hb hml hown hts hN (kM_row l g a q (kG_untilJam V) (kF_count (kG_untilJam V) (4 : Int32)) (2 : Int32)) gL_isWell_X5_row rfl (by decide +kernel) ⟨rfl, rfl⟩ ⟨Nat.le_of_ble_eq_true rfl, Nat.le_of_ble_eq_true rfl⟩ hK hP hD hS hA rfl hl.1 rfl (Nat.le_of_ble_eq_true rfl) dL_isWell_406 ⟨Nat.le_of_ble_eq_true rfl, Nat.le_of_ble_eq_true rfl⟩ (fun H locs hP hD hS => ?_)
        refine lv_iconst (v := (1 : Int32)) hx hb dL_isWell_409 (by decide) ?_
        refine lv_icmp_ne (tgt := 417) hx hb dL_isWell_410 (by decide) (fun c_410 => ?_) (fun c_410 => ?_)
        · refine lv_iconst (v := (0 : Int32)) hx hb dL_isWell_417 (by decide) ?_
          refine lv_icmp_ne (tgt := 471) hx hb dL_isWell_418 (by decide) (fun c_418 => absurd (rfl) c_418) (fun _ => ?_)
          exact K421  _ _ _  hP hD hS (lv_sub hl [5] rfl)
        · refine lv_iconst (v := (1 : Int32)) hx hb dL_isWell_413 (by decide) ?_
          refine lv_goto (tgt := 418) hx hb dL_isWell_414 (by decide) ?_
          exact absurd (j1.mpr (Or.inr (by rw [e6, e5] at c_410; exact c_410))) c_382
    · refine lv_iconst (v := (1 : Int32)) hx hb dL_isWell_385 (by decide) ?_
      refine lv_goto (tgt := 390) hx hb dL_isWell_386 (by decide) ?_
      refine lv_aload_n hx hb dL_isWell_390 rfl (lv_at hl 5 rfl) ?_
      refine lv_iconst (v := (5 : Int32)) hx hb dL_isWell_391 (by decide) ?_
      refine zc1 (n := 1) (As := [.int (5 : Int32)]) (rest := [.int (1 : Int32)]) hx hb hml hown hts hN (kM_count l g a q (kG_untilJam V) (5 : Int32)) gL_isWell_X5_count rfl (by decide +kernel) ⟨rfl, rfl⟩ ⟨Nat.le_of_ble_eq_true rfl, Nat.le_of_ble_eq_true rfl⟩ hK hP hD hS hA rfl hl.1 rfl (Nat.le_of_ble_eq_true rfl) dL_isWell_392 ⟨Nat.le_of_ble_eq_true rfl, Nat.le_of_ble_eq_true rfl⟩ (fun H locs hP hD hS => ?_)
      refine lv_iconst (v := (1 : Int32)) hx hb dL_isWell_395 (by decide) ?_
      refine lv_icmp_eq (tgt := 413) hx hb dL_isWell_396 (by decide) (fun c_396 => ?_) (fun c_396 => ?_)
      · refine lv_iconst (v := (1 : Int32)) hx hb dL_isWell_413 (by decide) ?_
        refine lv_goto (tgt := 418) hx hb dL_isWell_414 (by decide) ?_
        refine lv_icmp_ne (tgt := 471) hx hb dL_isWell_418 (by decide) (fun c_418 => absurd (rfl) c_418) (fun _ => ?_)
        exact K421  _ _ _  hP hD hS (lv_sub hl [5] rfl)
      · refine lv_aload_n hx hb dL_isWell_399 rfl (lv_at hl 5 rfl) ?_
        refine lv_aload_n hx hb dL_isWell_400 rfl (lv_at hl 5 rfl) ?_
        refine lv_iconst (v := (4 : Int32)) hx hb dL_isWell_401 (by decide) ?_
        refine zc1 (n := 1) (As := [.int (4 : Int32)]) (rest := [.ref a, .int (1 : Int32)]) hx hb hml hown hts hN (kM_count l g a q (kG_untilJam V) (4 : Int32)) gL_isWell_X5_count rfl (by decide +kernel) ⟨rfl, rfl⟩ ⟨Nat.le_of_ble_eq_true rfl, Nat.le_of_ble_eq_true rfl⟩ hK hP hD hS hA rfl hl.1 rfl (Nat.le_of_ble_eq_true rfl) dL_isWell_402 ⟨Nat.le_of_ble_eq_true rfl, Nat.le_of_ble_eq_true rfl⟩ (fun H locs hP hD hS => ?_)
        refine lv_iconst (v := (2 : Int32)) hx hb dL_isWell_405 (by decide) ?_
        refine zc1 (n := 2) (As := [.int (kF_count (kG_untilJam V) (4 : Int32)), .int (2 : Int32)]) (rest := [.int (1 : Int32)]) hx hb hml hown hts hN (kM_row l g a q (kG_untilJam V) (kF_count (kG_untilJam V) (4 : Int32)) (2 : Int32)) gL_isWell_X5_row rfl (by decide +kernel) ⟨rfl, rfl⟩ ⟨Nat.le_of_ble_eq_true rfl, Nat.le_of_ble_eq_true rfl⟩ hK hP hD hS hA rfl hl.1 rfl (Nat.le_of_ble_eq_true rfl) dL_isWell_406 ⟨Nat.le_of_ble_eq_true rfl, Nat.le_of_ble_eq_true rfl⟩ (fun H locs hP hD hS => ?_)
        refine lv_iconst (v := (1 : Int32)) hx hb dL_isWell_409 (by decide) ?_
        refine lv_icmp_ne (tgt := 417) hx hb dL_isWell_410 (by decide) (fun c_410 => ?_) (fun c_410 => ?_)
        · refine lv_iconst (v := (0 : Int32)) hx hb dL_isWell_417 (by decide) ?_
          exact absurd (j1.mp c_382) (fun h => h.elim (fun h => c_396 ((e5 _).trans h)) (fun h => c_410 (by rw [e6, e5]; exact h)))
        · refine lv_iconst (v := (1 : Int32)) hx hb dL_isWell_413 (by decide) ?_
          refine lv_goto (tgt := 418) hx hb dL_isWell_414 (by decide) ?_
          refine lv_icmp_ne (tgt := 471) hx hb dL_isWell_418 (by decide) (fun c_418 => absurd (rfl) c_418) (fun _ => ?_)
          exact K421  _ _ _  hP hD hS (lv_sub hl [5] rfl)
  refine lv_if_eq (tgt := 35) hx hb dL_isWell_23 (by decide) (fun c_23 => ?_) (fun c_23 => ?_)
  · exact K35  _ _ _  hP hD hS (lv_sub hl [0, 1, 2, 3] rfl)
  · refine lv_aload_n hx hb dL_isWell_26 rfl (lv_at hl 3 rfl) ?_
    refine lv_bipush (v := (7 : Int32)) hx hb dL_isWell_27 (by decide) ?_
    refine zc1 (n := 1) (As := [.int (7 : Int32)]) (rest := []) hx hb hml hown hts hN (kM_count l g a q V (7 : Int32)) gL_isWell_X5_count rfl (by decide +kernel) ⟨rfl, rfl⟩ ⟨Nat.le_of_ble_eq_true rfl, Nat.le_of_ble_eq_true rfl⟩ hK hP hD hS hA rfl hl.1 rfl (Nat.le_of_ble_eq_true rfl) dL_isWell_29 ⟨Nat.le_of_ble_eq_true rfl, Nat.le_of_ble_eq_true rfl⟩ (fun H locs hP hD hS => ?_)
    refine lv_if_eq (tgt := 52) hx hb dL_isWell_32 (by decide) (fun c_32 => absurd c_32 (w2.resolve_left c_23)) (fun _ => ?_)
    exact K35  _ _ _  hP hD hS (lv_sub hl [0, 1, 2, 3] rfl)
