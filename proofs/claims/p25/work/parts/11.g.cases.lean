abbrev rm_L_isStep : Room := { frames := 6, cells := 0, slots := 0, locals := 135 }
set_option maxRecDepth 100000 in
set_option maxHeartbeats 4000000 in
theorem zis_set {p : Program} {l : Launch} {e : Env} {s : State} {m : MethodId} {below : List Frame} {meth : Method} {c : Code} {Q : State → Prop} {g : zG} {A : Nat → Prop} {a b : Nat} {q r : zAd} {V U : zPV} {I I2 : zRel2} {J : zRel3} {p0 p1 z : Int32} (hx : p.tables.exec = Jvm.exec) (hb : c.code = cL_isStep) (hml : c.maxLocals = 12) (hown : s.vm.findClass RL = some m.cls) (hts : ∀ w ∈ wsL_isStep, w.before ([.ref a, .ref b, .int p0, .int p1] : List Value).toArray s = true) (hA : ∀ q : Nat, s.heap.size ≤ q → A q) (hN : zN s) (hK : va_K g.1 vwCl (zTy g) s) (hGS : zGS A s s.heap) (hR : zS2 I I2 J) (hI : I V U) (hret : ∀ (V U : zPV) (H : Heap) (locs : List Loc) (ls : Array Slot) (pc : Nat), decode cL_isStep pc = .ok (.ireturn, 1) → I2 V U → va_P g.1 vwCl (zW g a q V ++ zW g b r U) H → va_D A (zW g a q V ++ zW g b r U) → va_S A s.heap H locs → W p l e rm_L_isStep s m ([.ref a, .ref b, .int p0, .int p1] : List Value).toArray below meth c H locs 0 0 Q (F0 m pc ls [.int 1])) : ∀ (H : Heap) (locs : List Loc) (ls : Array Slot), va_P g.1 vwCl (zW g a q V ++ zW g b r U) H → va_D A (zW g a q V ++ zW g b r U) → va_S A s.heap H locs → lv_has ls 12 [(4, .int z), (0, .ref a), (1, .ref b), (2, .int p0), (3, .int p1)] → W p l e rm_L_isStep s m ([.ref a, .ref b, .int p0, .int p1] : List Value).toArray below meth c H locs 0 0 Q (F0 m 72 ls []) := by
  intro H locs ls hP hD hS hl
  have okO := (hR.ok _ _ hI).1
  have okP := (hR.ok _ _ hI).2
  refine lv_iload hx hb dL_isStep_72 (lv_at hl 0 rfl) ?_
  refine lv_iconst (v := (4 : Int32)) hx hb dL_isStep_74 (by decide) ?_
  refine zcSi (n := 2) (As := [.int z, .int (4 : Int32)]) (rest := []) hx hb hml hown hts hN (m_L_up l g z (4 : Int32) (by decide)) gL_isStep_L_up rfl (by decide +kernel) ⟨rfl, rfl⟩ ⟨Nat.le_of_ble_eq_true rfl, Nat.le_of_ble_eq_true rfl⟩ hK hP hD hS hA rfl hl.1 rfl (Nat.le_of_ble_eq_true rfl) dL_isStep_75 ⟨Nat.zero_le _, Nat.zero_le _⟩ (fun H locs hP hD hS => ?_)
  refine lv_istore (lv' := [(5, .int (f_L_up z (4 : Int32))), (4, .int z), (0, .ref a), (1, .ref b), (2, .int p0), (3, .int p1)]) hx hb dL_isStep_78 hl (by decide) rfl (fun ls hl => ?_)
  obtain ⟨w, hw, e_w⟩ : ∃ y, vp_in y 4 ∧ (f_L_up z (4 : Int32)) = y := ⟨_, (zupin z (4 : Int32) (n := 4) rfl (by omega) (by omega)), rfl⟩
  rw [e_w] at hl
  have K149 : ∀ (v6 : Int32) (H : Heap) (locs : List Loc) (ls : Array Slot), zSetOK w v6 → va_P g.1 vwCl (zW g a q V ++ zW g b r U) H → va_D A (zW g a q V ++ zW g b r U) → va_S A s.heap H locs → lv_has ls 12 [(6, .int v6), (5, .int w), (4, .int z), (0, .ref a), (1, .ref b), (2, .int p0), (3, .int p1)] → W p l e rm_L_isStep s m ([.ref a, .ref b, .int p0, .int p1] : List Value).toArray below meth c H locs 0 0 Q (F0 m 149 ls []) := by
    intro v6 H locs ls hv6 hP hD hS hl
    obtain ⟨f1, f2, f3, hJ⟩ := hR.set V U w v6 hI hv6
    refine lv_aload_n hx hb dL_isStep_149 rfl (lv_at hl 3 rfl) ?_
    refine lv_iload hx hb dL_isStep_150 (lv_at hl 1 rfl) ?_
    refine zcO (n := 1) (As := [.int w]) (rest := []) (Y := zW g b r U) hx hb hml hown hts hN (kM_count l g a q V w) gL_isStep_X5_count rfl (by decide +kernel) ⟨rfl, rfl⟩ ⟨Nat.le_of_ble_eq_true rfl, Nat.le_of_ble_eq_true rfl⟩ hK hP hD hS hA rfl hl.1 rfl (Nat.le_of_ble_eq_true rfl) dL_isStep_152 ⟨Nat.le_of_ble_eq_true rfl, Nat.le_of_ble_eq_true rfl⟩ (fun H locs hP hD hS => ?_)
    refine lv_istore (lv' := [(7, .int (kF_count V w)), (6, .int v6), (5, .int w), (4, .int z), (0, .ref a), (1, .ref b), (2, .int p0), (3, .int p1)]) hx hb dL_isStep_155 hl (by decide) rfl (fun ls hl => ?_)
    refine lv_aload_n hx hb dL_isStep_157 rfl (lv_at hl 4 rfl) ?_
    refine lv_iload hx hb dL_isStep_158 (lv_at hl 2 rfl) ?_
    refine lv_iload hx hb dL_isStep_160 (lv_at hl 1 rfl) ?_
    refine zcOs (n := 2) (As := [.int w, .int v6]) (rest := []) (Y := zW g b r U) hx hb hml hown hts hN hGS (kM_set l g a q V w v6 okO) gL_isStep_X5_set rfl (by decide +kernel) ⟨rfl, rfl⟩ ⟨Nat.le_of_ble_eq_true rfl, Nat.le_of_ble_eq_true rfl⟩ hK hP hD hS hA rfl hl.1 rfl (Nat.le_of_ble_eq_true rfl) dL_isStep_162 ⟨Nat.le_of_ble_eq_true rfl, Nat.le_of_ble_eq_true rfl⟩ (fun H locs hP hD hS => ?_)
    refine lv_iload hx hb dL_isStep_165 (lv_at hl 0 rfl) ?_
    refine lv_icmp_ne (tgt := 198) hx hb dL_isStep_167 (by decide) (fun c_167 => absurd f1 c_167) (fun _ => ?_)
    refine lv_aload_n hx hb dL_isStep_170 rfl (lv_at hl 5 rfl) ?_
    refine lv_iload hx hb dL_isStep_171 (lv_at hl 2 rfl) ?_
    refine lv_iload hx hb dL_isStep_173 (lv_at hl 1 rfl) ?_
    refine zcTs (n := 2) (As := [.int w, .int v6]) (rest := []) (Y := zW g a q (kG_set V w v6)) hx hb hml hown hts hN hGS (kM_set l g b r U w v6 okP) gL_isStep_X5_set rfl (by decide +kernel) ⟨rfl, rfl⟩ ⟨Nat.le_of_ble_eq_true rfl, Nat.le_of_ble_eq_true rfl⟩ hK hP hD hS hA rfl hl.1 rfl (Nat.le_of_ble_eq_true rfl) dL_isStep_175 ⟨Nat.le_of_ble_eq_true rfl, Nat.le_of_ble_eq_true rfl⟩ (fun H locs hP hD hS => ?_)
    refine lv_iload hx hb dL_isStep_178 (lv_at hl 0 rfl) ?_
    refine lv_icmp_ne (tgt := 198) hx hb dL_isStep_180 (by decide) (fun c_180 => absurd f2 c_180) (fun _ => ?_)
    refine lv_aload_n hx hb dL_isStep_183 rfl (lv_at hl 4 rfl) ?_
    refine lv_iload hx hb dL_isStep_184 (lv_at hl 2 rfl) ?_
    refine zcO (n := 1) (As := [.int w]) (rest := []) (Y := zW g b r (kG_set U w v6)) hx hb hml hown hts hN (kM_count l g a q (kG_set V w v6) w) gL_isStep_X5_count rfl (by decide +kernel) ⟨rfl, rfl⟩ ⟨Nat.le_of_ble_eq_true rfl, Nat.le_of_ble_eq_true rfl⟩ hK hP hD hS hA rfl hl.1 rfl (Nat.le_of_ble_eq_true rfl) dL_isStep_186 ⟨Nat.le_of_ble_eq_true rfl, Nat.le_of_ble_eq_true rfl⟩ (fun H locs hP hD hS => ?_)
    refine lv_iload hx hb dL_isStep_189 (lv_at hl 1 rfl) ?_
    refine lv_icmp_ne (tgt := 198) hx hb dL_isStep_191 (by decide) (fun c_191 => absurd f3 c_191) (fun _ => ?_)
    refine lv_iconst (v := (1 : Int32)) hx hb dL_isStep_194 (by decide) ?_
    refine lv_goto (tgt := 199) hx hb dL_isStep_195 (by decide) ?_
    exact hret _ _ _ _ _ _ dL_isStep_199 (hR.mono _ _ hJ) hP hD hS
  refine lv_iload hx hb dL_isStep_80 (lv_at hl 0 rfl) ?_
  refine lv_if_ne (tgt := 96) hx hb dL_isStep_82 (by decide) (fun c_82 => ?_) (fun c_82 => ?_)
  · refine lv_iload hx hb dL_isStep_96 (lv_at hl 0 rfl) ?_
    refine lv_iconst (v := (1 : Int32)) hx hb dL_isStep_98 (by decide) ?_
    refine lv_icmp_ne (tgt := 111) hx hb dL_isStep_99 (by decide) (fun c_99 => ?_) (fun c_99 => ?_)
    · refine lv_iload hx hb dL_isStep_111 (lv_at hl 0 rfl) ?_
      refine lv_iconst (v := (2 : Int32)) hx hb dL_isStep_113 (by decide) ?_
      refine lv_icmp_ne (tgt := 140) hx hb dL_isStep_114 (by decide) (fun c_114 => ?_) (fun c_114 => ?_)
      · refine lv_iconst (v := (1 : Int32)) hx hb dL_isStep_140 (by decide) ?_
        refine lv_iload_n hx hb dL_isStep_141 rfl (lv_at hl 5 rfl) ?_
        refine lv_iconst (v := (4 : Int32)) hx hb dL_isStep_142 (by decide) ?_
        refine zcSi (n := 2) (As := [.int p1, .int (4 : Int32)]) (rest := [.int (1 : Int32)]) hx hb hml hown hts hN (m_L_up l g p1 (4 : Int32) (by decide)) gL_isStep_L_up rfl (by decide +kernel) ⟨rfl, rfl⟩ ⟨Nat.le_of_ble_eq_true rfl, Nat.le_of_ble_eq_true rfl⟩ hK hP hD hS hA rfl hl.1 rfl (Nat.le_of_ble_eq_true rfl) dL_isStep_143 ⟨Nat.zero_le _, Nat.zero_le _⟩ (fun H locs hP hD hS => ?_)
        refine lv_iadd hx hb dL_isStep_146 ?_
        refine lv_istore (lv' := [(6, .int ((1 : Int32) + (f_L_up p1 (4 : Int32)))), (5, .int w), (4, .int z), (0, .ref a), (1, .ref b), (2, .int p0), (3, .int p1)]) hx hb dL_isStep_147 hl (by decide) rfl (fun ls hl => ?_)
        exact K149 ((1 : Int32) + (f_L_up p1 (4 : Int32))) _ _ _ ⟨hw, Or.inr (Or.inr (Or.inr ⟨zw3 hw c_82 c_99 c_114, zup2 p1 (4 : Int32) (n := 4) rfl (by omega) (by omega)⟩))⟩ hP hD hS (lv_sub hl [0, 1, 2, 3, 4, 5, 6] rfl)
      · refine lv_iload_n hx hb dL_isStep_117 rfl (lv_at hl 5 rfl) ?_
        refine lv_iload hx hb dL_isStep_118 (lv_at hl 1 rfl) ?_
        refine lv_iconst (v := (3 : Int32)) hx hb dL_isStep_120 (by decide) ?_
        refine zcSi (n := 2) (As := [.int z, .int (3 : Int32)]) (rest := [.int p1]) hx hb hml hown hts hN (m_L_up l g z (3 : Int32) (by decide)) gL_isStep_L_up rfl (by decide +kernel) ⟨rfl, rfl⟩ ⟨Nat.le_of_ble_eq_true rfl, Nat.le_of_ble_eq_true rfl⟩ hK hP hD hS hA rfl hl.1 rfl (Nat.le_of_ble_eq_true rfl) dL_isStep_121 ⟨Nat.zero_le _, Nat.zero_le _⟩ (fun H locs hP hD hS => ?_)
        refine lv_if_ne (tgt := 132) hx hb dL_isStep_124 (by decide) (fun c_124 => ?_) (fun c_124 => ?_)
        · refine lv_bipush (v := (6 : Int32)) hx hb dL_isStep_132 (by decide) ?_
          refine zcSi (n := 2) (As := [.int p1, .int (6 : Int32)]) (rest := []) hx hb hml hown hts hN (m_L_up l g p1 (6 : Int32) (by decide)) gL_isStep_L_up rfl (by decide +kernel) ⟨rfl, rfl⟩ ⟨Nat.le_of_ble_eq_true rfl, Nat.le_of_ble_eq_true rfl⟩ hK hP hD hS hA rfl hl.1 rfl (Nat.le_of_ble_eq_true rfl) dL_isStep_134 ⟨Nat.zero_le _, Nat.zero_le _⟩ (fun H locs hP hD hS => ?_)
          refine lv_goto (tgt := 147) hx hb dL_isStep_137 (by decide) ?_
          refine lv_istore (lv' := [(6, .int (f_L_up p1 (6 : Int32))), (5, .int w), (4, .int z), (0, .ref a), (1, .ref b), (2, .int p0), (3, .int p1)]) hx hb dL_isStep_147 hl (by decide) rfl (fun ls hl => ?_)
          exact K149 (f_L_up p1 (6 : Int32)) _ _ _ ⟨hw, Or.inr (Or.inr (Or.inl ⟨c_114, zin_mono (zupin p1 (6 : Int32) (n := 6) rfl (by omega) (by omega)) (by omega)⟩))⟩ hP hD hS (lv_sub hl [0, 1, 2, 3, 4, 5, 6] rfl)
        · refine lv_bipush (v := (100 : Int32)) hx hb dL_isStep_127 (by decide) ?_
          refine lv_goto (tgt := 134) hx hb dL_isStep_129 (by decide) ?_
          refine zcSi (n := 2) (As := [.int p1, .int (100 : Int32)]) (rest := []) hx hb hml hown hts hN (m_L_up l g p1 (100 : Int32) (by decide)) gL_isStep_L_up rfl (by decide +kernel) ⟨rfl, rfl⟩ ⟨Nat.le_of_ble_eq_true rfl, Nat.le_of_ble_eq_true rfl⟩ hK hP hD hS hA rfl hl.1 rfl (Nat.le_of_ble_eq_true rfl) dL_isStep_134 ⟨Nat.zero_le _, Nat.zero_le _⟩ (fun H locs hP hD hS => ?_)
          refine lv_goto (tgt := 147) hx hb dL_isStep_137 (by decide) ?_
          refine lv_istore (lv' := [(6, .int (f_L_up p1 (100 : Int32))), (5, .int w), (4, .int z), (0, .ref a), (1, .ref b), (2, .int p0), (3, .int p1)]) hx hb dL_isStep_147 hl (by decide) rfl (fun ls hl => ?_)
          exact K149 (f_L_up p1 (100 : Int32)) _ _ _ ⟨hw, Or.inr (Or.inr (Or.inl ⟨c_114, zin_mono (zupin p1 (100 : Int32) (n := 100) rfl (by omega) (by omega)) (by omega)⟩))⟩ hP hD hS (lv_sub hl [0, 1, 2, 3, 4, 5, 6] rfl)
    · refine lv_iload_n hx hb dL_isStep_102 rfl (lv_at hl 5 rfl) ?_
      refine lv_bipush (v := (10 : Int32)) hx hb dL_isStep_103 (by decide) ?_
      refine zcSi (n := 2) (As := [.int p1, .int (10 : Int32)]) (rest := []) hx hb hml hown hts hN (m_L_up l g p1 (10 : Int32) (by decide)) gL_isStep_L_up rfl (by decide +kernel) ⟨rfl, rfl⟩ ⟨Nat.le_of_ble_eq_true rfl, Nat.le_of_ble_eq_true rfl⟩ hK hP hD hS hA rfl hl.1 rfl (Nat.le_of_ble_eq_true rfl) dL_isStep_105 ⟨Nat.zero_le _, Nat.zero_le _⟩ (fun H locs hP hD hS => ?_)
      refine lv_goto (tgt := 147) hx hb dL_isStep_108 (by decide) ?_
      refine lv_istore (lv' := [(6, .int (f_L_up p1 (10 : Int32))), (5, .int w), (4, .int z), (0, .ref a), (1, .ref b), (2, .int p0), (3, .int p1)]) hx hb dL_isStep_147 hl (by decide) rfl (fun ls hl => ?_)
      exact K149 (f_L_up p1 (10 : Int32)) _ _ _ ⟨hw, Or.inr (Or.inl ⟨c_99, (zupin p1 (10 : Int32) (n := 10) rfl (by omega) (by omega))⟩)⟩ hP hD hS (lv_sub hl [0, 1, 2, 3, 4, 5, 6] rfl)
  · refine lv_iconst (v := (1 : Int32)) hx hb dL_isStep_85 (by decide) ?_
    refine lv_iload_n hx hb dL_isStep_86 rfl (lv_at hl 5 rfl) ?_
    refine lv_bipush (v := (8 : Int32)) hx hb dL_isStep_87 (by decide) ?_
    refine zcSi (n := 2) (As := [.int p1, .int (8 : Int32)]) (rest := [.int (1 : Int32)]) hx hb hml hown hts hN (m_L_up l g p1 (8 : Int32) (by decide)) gL_isStep_L_up rfl (by decide +kernel) ⟨rfl, rfl⟩ ⟨Nat.le_of_ble_eq_true rfl, Nat.le_of_ble_eq_true rfl⟩ hK hP hD hS hA rfl hl.1 rfl (Nat.le_of_ble_eq_true rfl) dL_isStep_89 ⟨Nat.zero_le _, Nat.zero_le _⟩ (fun H locs hP hD hS => ?_)
    refine lv_iadd hx hb dL_isStep_92 ?_
    refine lv_goto (tgt := 147) hx hb dL_isStep_93 (by decide) ?_
    refine lv_istore (lv' := [(6, .int ((1 : Int32) + (f_L_up p1 (8 : Int32)))), (5, .int w), (4, .int z), (0, .ref a), (1, .ref b), (2, .int p0), (3, .int p1)]) hx hb dL_isStep_147 hl (by decide) rfl (fun ls hl => ?_)
    exact K149 ((1 : Int32) + (f_L_up p1 (8 : Int32))) _ _ _ ⟨hw, Or.inl ⟨c_82, zup2 p1 (8 : Int32) (n := 8) rfl (by omega) (by omega)⟩⟩ hP hD hS (lv_sub hl [0, 1, 2, 3, 4, 5, 6] rfl)
set_option maxRecDepth 100000 in
set_option maxHeartbeats 4000000 in
theorem zis_order {p : Program} {l : Launch} {e : Env} {s : State} {m : MethodId} {below : List Frame} {meth : Method} {c : Code} {Q : State → Prop} {g : zG} {A : Nat → Prop} {a b : Nat} {q r : zAd} {V U : zPV} {I I2 : zRel2} {J : zRel3} {p0 p1 z : Int32} (hx : p.tables.exec = Jvm.exec) (hb : c.code = cL_isStep) (hml : c.maxLocals = 12) (hown : s.vm.findClass RL = some m.cls) (hts : ∀ w ∈ wsL_isStep, w.before ([.ref a, .ref b, .int p0, .int p1] : List Value).toArray s = true) (hA : ∀ q : Nat, s.heap.size ≤ q → A q) (hN : zN s) (hK : va_K g.1 vwCl (zTy g) s) (hGS : zGS A s s.heap) (hR : zS2 I I2 J) (hI : I V U) (hret : ∀ (V U : zPV) (H : Heap) (locs : List Loc) (ls : Array Slot) (pc : Nat), decode cL_isStep pc = .ok (.ireturn, 1) → I2 V U → va_P g.1 vwCl (zW g a q V ++ zW g b r U) H → va_D A (zW g a q V ++ zW g b r U) → va_S A s.heap H locs → W p l e rm_L_isStep s m ([.ref a, .ref b, .int p0, .int p1] : List Value).toArray below meth c H locs 0 0 Q (F0 m pc ls [.int 1])) : ∀ (H : Heap) (locs : List Loc) (ls : Array Slot), va_P g.1 vwCl (zW g a q V ++ zW g b r U) H → va_D A (zW g a q V ++ zW g b r U) → va_S A s.heap H locs → lv_has ls 12 [(4, .int z), (0, .ref a), (1, .ref b), (2, .int p0), (3, .int p1)] → W p l e rm_L_isStep s m ([.ref a, .ref b, .int p0, .int p1] : List Value).toArray below meth c H locs 0 0 Q (F0 m 200 ls []) := by
  intro H locs ls hP hD hS hl
  have okO := (hR.ok _ _ hI).1
  have okP := (hR.ok _ _ hI).2
  refine lv_iload_n hx hb dL_isStep_200 rfl (lv_at hl 4 rfl) ?_
  refine lv_bipush (v := (64 : Int32)) hx hb dL_isStep_201 (by decide) ?_
  refine zcSi (n := 2) (As := [.int p1, .int (64 : Int32)]) (rest := []) hx hb hml hown hts hN (m_L_up l g p1 (64 : Int32) (by decide)) gL_isStep_L_up rfl (by decide +kernel) ⟨rfl, rfl⟩ ⟨Nat.le_of_ble_eq_true rfl, Nat.le_of_ble_eq_true rfl⟩ hK hP hD hS hA rfl hl.1 rfl (Nat.le_of_ble_eq_true rfl) dL_isStep_203 ⟨Nat.zero_le _, Nat.zero_le _⟩ (fun H locs hP hD hS => ?_)
  refine lv_istore (lv' := [(5, .int (f_L_up p1 (64 : Int32))), (4, .int z), (0, .ref a), (1, .ref b), (2, .int p0), (3, .int p1)]) hx hb dL_isStep_206 hl (by decide) rfl (fun ls hl => ?_)
  obtain ⟨x5, hx5, e_x5⟩ : ∃ y, vp_in y 64 ∧ (f_L_up p1 (64 : Int32)) = y := ⟨_, (zupin p1 (64 : Int32) (n := 64) rfl (by omega) (by omega)), rfl⟩
  rw [e_x5] at hl
  obtain ⟨f1, f2, f3, hJ⟩ := hR.order V U x5 hI hx5
  refine lv_aload_n hx hb dL_isStep_208 rfl (lv_at hl 2 rfl) ?_
  refine lv_bipush (v := (6 : Int32)) hx hb dL_isStep_209 (by decide) ?_
  refine zcO (n := 1) (As := [.int (6 : Int32)]) (rest := []) (Y := zW g b r U) hx hb hml hown hts hN (kM_count l g a q V (6 : Int32)) gL_isStep_X5_count rfl (by decide +kernel) ⟨rfl, rfl⟩ ⟨Nat.le_of_ble_eq_true rfl, Nat.le_of_ble_eq_true rfl⟩ hK hP hD hS hA rfl hl.1 rfl (Nat.le_of_ble_eq_true rfl) dL_isStep_211 ⟨Nat.le_of_ble_eq_true rfl, Nat.le_of_ble_eq_true rfl⟩ (fun H locs hP hD hS => ?_)
  refine lv_istore (lv' := [(6, .int (kF_count V (6 : Int32))), (5, .int x5), (4, .int z), (0, .ref a), (1, .ref b), (2, .int p0), (3, .int p1)]) hx hb dL_isStep_214 hl (by decide) rfl (fun ls hl => ?_)
  refine lv_aload_n hx hb dL_isStep_216 rfl (lv_at hl 3 rfl) ?_
  refine lv_iload hx hb dL_isStep_217 (lv_at hl 1 rfl) ?_
  refine zcO (n := 1) (As := [.int x5]) (rest := []) (Y := zW g b r U) hx hb hml hown hts hN (kM_order l g a q V x5 okO) gL_isStep_X5_order rfl (by decide +kernel) ⟨rfl, rfl⟩ ⟨Nat.le_of_ble_eq_true rfl, Nat.le_of_ble_eq_true rfl⟩ hK hP hD hS hA rfl hl.1 rfl (Nat.le_of_ble_eq_true rfl) dL_isStep_219 ⟨Nat.le_of_ble_eq_true rfl, Nat.le_of_ble_eq_true rfl⟩ (fun H locs hP hD hS => ?_)
  refine lv_iload hx hb dL_isStep_222 (lv_at hl 0 rfl) ?_
  refine lv_icmp_ne (tgt := 259) hx hb dL_isStep_224 (by decide) (fun c_224 => absurd f1 c_224) (fun _ => ?_)
  refine lv_aload_n hx hb dL_isStep_227 rfl (lv_at hl 4 rfl) ?_
  refine lv_iload hx hb dL_isStep_228 (lv_at hl 1 rfl) ?_
  refine zcSi (n := 1) (As := [.int x5]) (rest := [.ref b]) hx hb hml hown hts hN (m_L_turned l g x5) gL_isStep_L_turned rfl (by decide +kernel) ⟨rfl, rfl⟩ ⟨Nat.le_of_ble_eq_true rfl, Nat.le_of_ble_eq_true rfl⟩ hK hP hD hS hA rfl hl.1 rfl (Nat.le_of_ble_eq_true rfl) dL_isStep_230 ⟨Nat.zero_le _, Nat.zero_le _⟩ (fun H locs hP hD hS => ?_)
  refine zcT (n := 1) (As := [.int (f_L_turned x5)]) (rest := []) (Y := zW g a q (kG_order V x5)) hx hb hml hown hts hN (kM_order l g b r U (f_L_turned x5) okP) gL_isStep_X5_order rfl (by decide +kernel) ⟨rfl, rfl⟩ ⟨Nat.le_of_ble_eq_true rfl, Nat.le_of_ble_eq_true rfl⟩ hK hP hD hS hA rfl hl.1 rfl (Nat.le_of_ble_eq_true rfl) dL_isStep_233 ⟨Nat.le_of_ble_eq_true rfl, Nat.le_of_ble_eq_true rfl⟩ (fun H locs hP hD hS => ?_)
  refine lv_iload hx hb dL_isStep_236 (lv_at hl 0 rfl) ?_
  refine zcSi (n := 1) (As := [.int (kF_count V (6 : Int32))]) (rest := [.int (kF_order U (f_L_turned x5))]) hx hb hml hown hts hN (m_L_turned l g (kF_count V (6 : Int32))) gL_isStep_L_turned rfl (by decide +kernel) ⟨rfl, rfl⟩ ⟨Nat.le_of_ble_eq_true rfl, Nat.le_of_ble_eq_true rfl⟩ hK hP hD hS hA rfl hl.1 rfl (Nat.le_of_ble_eq_true rfl) dL_isStep_238 ⟨Nat.zero_le _, Nat.zero_le _⟩ (fun H locs hP hD hS => ?_)
  refine lv_icmp_ne (tgt := 259) hx hb dL_isStep_241 (by decide) (fun c_241 => absurd f2 c_241) (fun _ => ?_)
  refine lv_aload_n hx hb dL_isStep_244 rfl (lv_at hl 3 rfl) ?_
  refine lv_bipush (v := (6 : Int32)) hx hb dL_isStep_245 (by decide) ?_
  refine zcO (n := 1) (As := [.int (6 : Int32)]) (rest := []) (Y := zW g b r (kG_order U (f_L_turned x5))) hx hb hml hown hts hN (kM_count l g a q (kG_order V x5) (6 : Int32)) gL_isStep_X5_count rfl (by decide +kernel) ⟨rfl, rfl⟩ ⟨Nat.le_of_ble_eq_true rfl, Nat.le_of_ble_eq_true rfl⟩ hK hP hD hS hA rfl hl.1 rfl (Nat.le_of_ble_eq_true rfl) dL_isStep_247 ⟨Nat.le_of_ble_eq_true rfl, Nat.le_of_ble_eq_true rfl⟩ (fun H locs hP hD hS => ?_)
  refine lv_iload hx hb dL_isStep_250 (lv_at hl 1 rfl) ?_
  refine lv_icmp_ne (tgt := 259) hx hb dL_isStep_252 (by decide) (fun c_252 => absurd f3 c_252) (fun _ => ?_)
  refine lv_iconst (v := (1 : Int32)) hx hb dL_isStep_255 (by decide) ?_
  refine lv_goto (tgt := 260) hx hb dL_isStep_256 (by decide) ?_
  exact hret _ _ _ _ _ _ dL_isStep_260 (hR.mono _ _ hJ) hP hD hS
set_option maxRecDepth 100000 in
set_option maxHeartbeats 4000000 in
theorem zis_ink {p : Program} {l : Launch} {e : Env} {s : State} {m : MethodId} {below : List Frame} {meth : Method} {c : Code} {Q : State → Prop} {g : zG} {A : Nat → Prop} {a b : Nat} {q r : zAd} {V U : zPV} {I I2 : zRel2} {J : zRel3} {p0 p1 z : Int32} (hx : p.tables.exec = Jvm.exec) (hb : c.code = cL_isStep) (hml : c.maxLocals = 12) (hown : s.vm.findClass RL = some m.cls) (hts : ∀ w ∈ wsL_isStep, w.before ([.ref a, .ref b, .int p0, .int p1] : List Value).toArray s = true) (hA : ∀ q : Nat, s.heap.size ≤ q → A q) (hN : zN s) (hK : va_K g.1 vwCl (zTy g) s) (hGS : zGS A s s.heap) (hR : zS2 I I2 J) (hI : I V U) (hret : ∀ (V U : zPV) (H : Heap) (locs : List Loc) (ls : Array Slot) (pc : Nat), decode cL_isStep pc = .ok (.ireturn, 1) → I2 V U → va_P g.1 vwCl (zW g a q V ++ zW g b r U) H → va_D A (zW g a q V ++ zW g b r U) → va_S A s.heap H locs → W p l e rm_L_isStep s m ([.ref a, .ref b, .int p0, .int p1] : List Value).toArray below meth c H locs 0 0 Q (F0 m pc ls [.int 1])) : ∀ (H : Heap) (locs : List Loc) (ls : Array Slot), va_P g.1 vwCl (zW g a q V ++ zW g b r U) H → va_D A (zW g a q V ++ zW g b r U) → va_S A s.heap H locs → lv_has ls 12 [(4, .int z), (0, .ref a), (1, .ref b), (2, .int p0), (3, .int p1)] → W p l e rm_L_isStep s m ([.ref a, .ref b, .int p0, .int p1] : List Value).toArray below meth c H locs 0 0 Q (F0 m 261 ls []) := by
  intro H locs ls hP hD hS hl
  have okO := (hR.ok _ _ hI).1
  have okP := (hR.ok _ _ hI).2
  refine lv_iload hx hb dL_isStep_261 (lv_at hl 0 rfl) ?_
  refine lv_bipush (v := (6 : Int32)) hx hb dL_isStep_263 (by decide) ?_
  refine zcSi (n := 2) (As := [.int z, .int (6 : Int32)]) (rest := []) hx hb hml hown hts hN (m_L_up l g z (6 : Int32) (by decide)) gL_isStep_L_up rfl (by decide +kernel) ⟨rfl, rfl⟩ ⟨Nat.le_of_ble_eq_true rfl, Nat.le_of_ble_eq_true rfl⟩ hK hP hD hS hA rfl hl.1 rfl (Nat.le_of_ble_eq_true rfl) dL_isStep_265 ⟨Nat.zero_le _, Nat.zero_le _⟩ (fun H locs hP hD hS => ?_)
  refine lv_istore (lv' := [(5, .int (f_L_up z (6 : Int32))), (4, .int z), (0, .ref a), (1, .ref b), (2, .int p0), (3, .int p1)]) hx hb dL_isStep_268 hl (by decide) rfl (fun ls hl => ?_)
  obtain ⟨x5, hx5, e_x5⟩ : ∃ y, vp_in y 6 ∧ (f_L_up z (6 : Int32)) = y := ⟨_, (zupin z (6 : Int32) (n := 6) rfl (by omega) (by omega)), rfl⟩
  rw [e_x5] at hl
  obtain ⟨f1, f2, f3, hJ⟩ := hR.ink V U x5 hI hx5
  refine lv_aload_n hx hb dL_isStep_270 rfl (lv_at hl 2 rfl) ?_
  refine lv_iload hx hb dL_isStep_271 (lv_at hl 0 rfl) ?_
  refine lv_iconst (v := (0 : Int32)) hx hb dL_isStep_273 (by decide) ?_
  refine zcO (n := 2) (As := [.int x5, .int (0 : Int32)]) (rest := []) (Y := zW g b r U) hx hb hml hown hts hN (kM_stamp l g a q V x5 (0 : Int32)) gL_isStep_X5_stamp rfl (by decide +kernel) ⟨rfl, rfl⟩ ⟨Nat.le_of_ble_eq_true rfl, Nat.le_of_ble_eq_true rfl⟩ hK hP hD hS hA rfl hl.1 rfl (Nat.le_of_ble_eq_true rfl) dL_isStep_274 ⟨Nat.le_of_ble_eq_true rfl, Nat.le_of_ble_eq_true rfl⟩ (fun H locs hP hD hS => ?_)
  refine lv_istore (lv' := [(6, .int (kF_stamp V x5 (0 : Int32))), (5, .int x5), (4, .int z), (0, .ref a), (1, .ref b), (2, .int p0), (3, .int p1)]) hx hb dL_isStep_277 hl (by decide) rfl (fun ls hl => ?_)
  refine lv_aload_n hx hb dL_isStep_279 rfl (lv_at hl 3 rfl) ?_
  refine lv_iload hx hb dL_isStep_280 (lv_at hl 1 rfl) ?_
  refine zcO (n := 1) (As := [.int x5]) (rest := []) (Y := zW g b r U) hx hb hml hown hts hN (kM_ink l g a q V x5 okO) gL_isStep_X5_ink rfl (by decide +kernel) ⟨rfl, rfl⟩ ⟨Nat.le_of_ble_eq_true rfl, Nat.le_of_ble_eq_true rfl⟩ hK hP hD hS hA rfl hl.1 rfl (Nat.le_of_ble_eq_true rfl) dL_isStep_282 ⟨Nat.le_of_ble_eq_true rfl, Nat.le_of_ble_eq_true rfl⟩ (fun H locs hP hD hS => ?_)
  refine lv_bipush (v := (99 : Int32)) hx hb dL_isStep_285 (by decide) ?_
  refine lv_iload hx hb dL_isStep_287 (lv_at hl 0 rfl) ?_
  refine lv_isub hx hb dL_isStep_289 ?_
  refine lv_icmp_ne (tgt := 325) hx hb dL_isStep_290 (by decide) (fun c_290 => absurd f1 c_290) (fun _ => ?_)
  refine lv_aload_n hx hb dL_isStep_293 rfl (lv_at hl 4 rfl) ?_
  refine lv_iconst (v := (5 : Int32)) hx hb dL_isStep_294 (by decide) ?_
  refine lv_iload hx hb dL_isStep_295 (lv_at hl 1 rfl) ?_
  refine lv_isub hx hb dL_isStep_297 ?_
  refine zcT (n := 1) (As := [.int ((5 : Int32) - x5)]) (rest := []) (Y := zW g a q (kG_ink V x5)) hx hb hml hown hts hN (kM_ink l g b r U ((5 : Int32) - x5) okP) gL_isStep_X5_ink rfl (by decide +kernel) ⟨rfl, rfl⟩ ⟨Nat.le_of_ble_eq_true rfl, Nat.le_of_ble_eq_true rfl⟩ hK hP hD hS hA rfl hl.1 rfl (Nat.le_of_ble_eq_true rfl) dL_isStep_298 ⟨Nat.le_of_ble_eq_true rfl, Nat.le_of_ble_eq_true rfl⟩ (fun H locs hP hD hS => ?_)
  refine lv_bipush (v := (99 : Int32)) hx hb dL_isStep_301 (by decide) ?_
  refine lv_iload hx hb dL_isStep_303 (lv_at hl 0 rfl) ?_
  refine lv_isub hx hb dL_isStep_305 ?_
  refine lv_icmp_ne (tgt := 325) hx hb dL_isStep_306 (by decide) (fun c_306 => absurd f2 c_306) (fun _ => ?_)
  refine lv_aload_n hx hb dL_isStep_309 rfl (lv_at hl 3 rfl) ?_
  refine lv_iload hx hb dL_isStep_310 (lv_at hl 1 rfl) ?_
  refine lv_iconst (v := (0 : Int32)) hx hb dL_isStep_312 (by decide) ?_
  refine zcO (n := 2) (As := [.int x5, .int (0 : Int32)]) (rest := []) (Y := zW g b r (kG_ink U ((5 : Int32) - x5))) hx hb hml hown hts hN (kM_stamp l g a q (kG_ink V x5) x5 (0 : Int32)) gL_isStep_X5_stamp rfl (by decide +kernel) ⟨rfl, rfl⟩ ⟨Nat.le_of_ble_eq_true rfl, Nat.le_of_ble_eq_true rfl⟩ hK hP hD hS hA rfl hl.1 rfl (Nat.le_of_ble_eq_true rfl) dL_isStep_313 ⟨Nat.le_of_ble_eq_true rfl, Nat.le_of_ble_eq_true rfl⟩ (fun H locs hP hD hS => ?_)
  refine lv_bipush (v := (99 : Int32)) hx hb dL_isStep_316 (by decide) ?_
  refine lv_icmp_ne (tgt := 325) hx hb dL_isStep_318 (by decide) (fun c_318 => absurd f3 c_318) (fun _ => ?_)
  refine lv_iconst (v := (1 : Int32)) hx hb dL_isStep_321 (by decide) ?_
  refine lv_goto (tgt := 326) hx hb dL_isStep_322 (by decide) ?_
  exact hret _ _ _ _ _ _ dL_isStep_326 (hR.mono _ _ hJ) hP hD hS
set_option maxRecDepth 100000 in
set_option maxHeartbeats 4000000 in
theorem zis_free {p : Program} {l : Launch} {e : Env} {s : State} {m : MethodId} {below : List Frame} {meth : Method} {c : Code} {Q : State → Prop} {g : zG} {A : Nat → Prop} {a b : Nat} {q r : zAd} {V U : zPV} {I I2 : zRel2} {J : zRel3} {p0 p1 z : Int32} (hx : p.tables.exec = Jvm.exec) (hb : c.code = cL_isStep) (hml : c.maxLocals = 12) (hown : s.vm.findClass RL = some m.cls) (hts : ∀ w ∈ wsL_isStep, w.before ([.ref a, .ref b, .int p0, .int p1] : List Value).toArray s = true) (hA : ∀ q : Nat, s.heap.size ≤ q → A q) (hN : zN s) (hK : va_K g.1 vwCl (zTy g) s) (hGS : zGS A s s.heap) (hR : zS2 I I2 J) (hI : I V U) (hret : ∀ (V U : zPV) (H : Heap) (locs : List Loc) (ls : Array Slot) (pc : Nat), decode cL_isStep pc = .ok (.ireturn, 1) → I2 V U → va_P g.1 vwCl (zW g a q V ++ zW g b r U) H → va_D A (zW g a q V ++ zW g b r U) → va_S A s.heap H locs → W p l e rm_L_isStep s m ([.ref a, .ref b, .int p0, .int p1] : List Value).toArray below meth c H locs 0 0 Q (F0 m pc ls [.int 1])) : ∀ (H : Heap) (locs : List Loc) (ls : Array Slot), va_P g.1 vwCl (zW g a q V ++ zW g b r U) H → va_D A (zW g a q V ++ zW g b r U) → va_S A s.heap H locs → lv_has ls 12 [(4, .int z), (0, .ref a), (1, .ref b), (2, .int p0), (3, .int p1)] → W p l e rm_L_isStep s m ([.ref a, .ref b, .int p0, .int p1] : List Value).toArray below meth c H locs 0 0 Q (F0 m 327 ls []) := by
  intro H locs ls hP hD hS hl
  have okO := (hR.ok _ _ hI).1
  have okP := (hR.ok _ _ hI).2
  obtain ⟨f1, f2, f3, hJ⟩ := hR.free V U hI
  rcases f2 with ⟨g1, g2, g3, g4⟩ | ⟨g1, g2⟩
  · refine lv_aload_n hx hb dL_isStep_327 rfl (lv_at hl 1 rfl) ?_
    refine lv_iconst (v := (4 : Int32)) hx hb dL_isStep_328 (by decide) ?_
    refine zcO (n := 1) (As := [.int (4 : Int32)]) (rest := []) (Y := zW g b r U) hx hb hml hown hts hN (kM_count l g a q V (4 : Int32)) gL_isStep_X5_count rfl (by decide +kernel) ⟨rfl, rfl⟩ ⟨Nat.le_of_ble_eq_true rfl, Nat.le_of_ble_eq_true rfl⟩ hK hP hD hS hA rfl hl.1 rfl (Nat.le_of_ble_eq_true rfl) dL_isStep_329 ⟨Nat.le_of_ble_eq_true rfl, Nat.le_of_ble_eq_true rfl⟩ (fun H locs hP hD hS => ?_)
    refine lv_istore (lv' := [(5, .int (kF_count V (4 : Int32))), (4, .int z), (0, .ref a), (1, .ref b), (2, .int p0), (3, .int p1)]) hx hb dL_isStep_332 hl (by decide) rfl (fun ls hl => ?_)
    refine lv_aload_n hx hb dL_isStep_334 rfl (lv_at hl 2 rfl) ?_
    refine lv_iconst (v := (5 : Int32)) hx hb dL_isStep_335 (by decide) ?_
    refine zcO (n := 1) (As := [.int (5 : Int32)]) (rest := []) (Y := zW g b r U) hx hb hml hown hts hN (kM_count l g a q V (5 : Int32)) gL_isStep_X5_count rfl (by decide +kernel) ⟨rfl, rfl⟩ ⟨Nat.le_of_ble_eq_true rfl, Nat.le_of_ble_eq_true rfl⟩ hK hP hD hS hA rfl hl.1 rfl (Nat.le_of_ble_eq_true rfl) dL_isStep_336 ⟨Nat.le_of_ble_eq_true rfl, Nat.le_of_ble_eq_true rfl⟩ (fun H locs hP hD hS => ?_)
    refine lv_istore (lv' := [(6, .int (kF_count V (5 : Int32))), (5, .int (kF_count V (4 : Int32))), (4, .int z), (0, .ref a), (1, .ref b), (2, .int p0), (3, .int p1)]) hx hb dL_isStep_339 hl (by decide) rfl (fun ls hl => ?_)
    refine lv_aload_n hx hb dL_isStep_341 rfl (lv_at hl 3 rfl) ?_
    refine lv_bipush (v := (10 : Int32)) hx hb dL_isStep_342 (by decide) ?_
    refine zcO (n := 1) (As := [.int (10 : Int32)]) (rest := []) (Y := zW g b r U) hx hb hml hown hts hN (kM_count l g a q V (10 : Int32)) gL_isStep_X5_count rfl (by decide +kernel) ⟨rfl, rfl⟩ ⟨Nat.le_of_ble_eq_true rfl, Nat.le_of_ble_eq_true rfl⟩ hK hP hD hS hA rfl hl.1 rfl (Nat.le_of_ble_eq_true rfl) dL_isStep_344 ⟨Nat.le_of_ble_eq_true rfl, Nat.le_of_ble_eq_true rfl⟩ (fun H locs hP hD hS => ?_)
    refine lv_istore (lv' := [(7, .int (kF_count V (10 : Int32))), (6, .int (kF_count V (5 : Int32))), (5, .int (kF_count V (4 : Int32))), (4, .int z), (0, .ref a), (1, .ref b), (2, .int p0), (3, .int p1)]) hx hb dL_isStep_347 hl (by decide) rfl (fun ls hl => ?_)
    refine lv_aload_n hx hb dL_isStep_349 rfl (lv_at hl 4 rfl) ?_
    refine zcO (n := 0) (As := []) (rest := []) (Y := zW g b r U) hx hb hml hown hts hN (kM_free l g a q V okO) gL_isStep_X5_free rfl (by decide +kernel) ⟨rfl, rfl⟩ ⟨Nat.le_of_ble_eq_true rfl, Nat.le_of_ble_eq_true rfl⟩ hK hP hD hS hA rfl hl.1 rfl (Nat.le_of_ble_eq_true rfl) dL_isStep_350 ⟨Nat.le_of_ble_eq_true rfl, Nat.le_of_ble_eq_true rfl⟩ (fun H locs hP hD hS => ?_)
    refine lv_istore (lv' := [(8, .int (kF_free V)), (7, .int (kF_count V (10 : Int32))), (6, .int (kF_count V (5 : Int32))), (5, .int (kF_count V (4 : Int32))), (4, .int z), (0, .ref a), (1, .ref b), (2, .int p0), (3, .int p1)]) hx hb dL_isStep_353 hl (by decide) rfl (fun ls hl => ?_)
    refine lv_iload hx hb dL_isStep_355 (lv_at hl 0 rfl) ?_
    refine lv_aload_n hx hb dL_isStep_357 rfl (lv_at hl 6 rfl) ?_
    refine zcT (n := 0) (As := []) (rest := [.int (kF_free V)]) (Y := zW g a q (kG_free V)) hx hb hml hown hts hN (kM_free l g b r U okP) gL_isStep_X5_free rfl (by decide +kernel) ⟨rfl, rfl⟩ ⟨Nat.le_of_ble_eq_true rfl, Nat.le_of_ble_eq_true rfl⟩ hK hP hD hS hA rfl hl.1 rfl (Nat.le_of_ble_eq_true rfl) dL_isStep_358 ⟨Nat.le_of_ble_eq_true rfl, Nat.le_of_ble_eq_true rfl⟩ (fun H locs hP hD hS => ?_)
    refine lv_icmp_ne (tgt := 425) hx hb dL_isStep_361 (by decide) (fun c_361 => absurd f1 c_361) (fun _ => ?_)
    refine lv_iload hx hb dL_isStep_364 (lv_at hl 0 rfl) ?_
    refine lv_iload hx hb dL_isStep_366 (lv_at hl 2 rfl) ?_
    refine lv_iconst (v := (1 : Int32)) hx hb dL_isStep_368 (by decide) ?_
    refine lv_icmp_ne (tgt := 377) hx hb dL_isStep_369 (by decide) (fun c_369 => absurd g1 c_369) (fun _ => ?_)
    refine lv_iload hx hb dL_isStep_372 (lv_at hl 3 rfl) ?_
    refine lv_goto (tgt := 379) hx hb dL_isStep_374 (by decide) ?_
    refine lv_icmp_ne (tgt := 425) hx hb dL_isStep_379 (by decide) (fun c_379 => absurd g2 c_379) (fun _ => ?_)
    refine lv_iload hx hb dL_isStep_382 (lv_at hl 2 rfl) ?_
    refine lv_if_eq (tgt := 410) hx hb dL_isStep_384 (by decide) (fun c_384 => absurd c_384 (by rw [g1]; decide)) (fun _ => ?_)
    refine lv_aload_n hx hb dL_isStep_387 rfl (lv_at hl 5 rfl) ?_
    refine lv_iconst (v := (4 : Int32)) hx hb dL_isStep_388 (by decide) ?_
    refine zcO (n := 1) (As := [.int (4 : Int32)]) (rest := []) (Y := zW g b r (kG_free U)) hx hb hml hown hts hN (kM_count l g a q (kG_free V) (4 : Int32)) gL_isStep_X5_count rfl (by decide +kernel) ⟨rfl, rfl⟩ ⟨Nat.le_of_ble_eq_true rfl, Nat.le_of_ble_eq_true rfl⟩ hK hP hD hS hA rfl hl.1 rfl (Nat.le_of_ble_eq_true rfl) dL_isStep_389 ⟨Nat.le_of_ble_eq_true rfl, Nat.le_of_ble_eq_true rfl⟩ (fun H locs hP hD hS => ?_)
    refine lv_iload hx hb dL_isStep_392 (lv_at hl 3 rfl) ?_
    refine lv_iconst (v := (1 : Int32)) hx hb dL_isStep_394 (by decide) ?_
    refine lv_iadd hx hb dL_isStep_395 ?_
    refine lv_bipush (v := (16 : Int32)) hx hb dL_isStep_396 (by decide) ?_
    refine lv_irem hx hb dL_isStep_398 (by decide) ?_
    refine lv_icmp_ne (tgt := 425) hx hb dL_isStep_399 (by decide) (fun c_399 => absurd g3 c_399) (fun _ => ?_)
    refine lv_aload_n hx hb dL_isStep_402 rfl (lv_at hl 5 rfl) ?_
    refine lv_iconst (v := (5 : Int32)) hx hb dL_isStep_403 (by decide) ?_
    refine zcO (n := 1) (As := [.int (5 : Int32)]) (rest := []) (Y := zW g b r (kG_free U)) hx hb hml hown hts hN (kM_count l g a q (kG_free V) (5 : Int32)) gL_isStep_X5_count rfl (by decide +kernel) ⟨rfl, rfl⟩ ⟨Nat.le_of_ble_eq_true rfl, Nat.le_of_ble_eq_true rfl⟩ hK hP hD hS hA rfl hl.1 rfl (Nat.le_of_ble_eq_true rfl) dL_isStep_404 ⟨Nat.le_of_ble_eq_true rfl, Nat.le_of_ble_eq_true rfl⟩ (fun H locs hP hD hS => ?_)
    refine lv_if_ne (tgt := 425) hx hb dL_isStep_407 (by decide) (fun c_407 => absurd g4 c_407) (fun _ => ?_)
    refine lv_aload_n hx hb dL_isStep_410 rfl (lv_at hl 5 rfl) ?_
    refine lv_bipush (v := (10 : Int32)) hx hb dL_isStep_411 (by decide) ?_
    refine zcO (n := 1) (As := [.int (10 : Int32)]) (rest := []) (Y := zW g b r (kG_free U)) hx hb hml hown hts hN (kM_count l g a q (kG_free V) (10 : Int32)) gL_isStep_X5_count rfl (by decide +kernel) ⟨rfl, rfl⟩ ⟨Nat.le_of_ble_eq_true rfl, Nat.le_of_ble_eq_true rfl⟩ hK hP hD hS hA rfl hl.1 rfl (Nat.le_of_ble_eq_true rfl) dL_isStep_413 ⟨Nat.le_of_ble_eq_true rfl, Nat.le_of_ble_eq_true rfl⟩ (fun H locs hP hD hS => ?_)
    refine lv_iload hx hb dL_isStep_416 (lv_at hl 1 rfl) ?_
    refine lv_icmp_ne (tgt := 425) hx hb dL_isStep_418 (by decide) (fun c_418 => absurd f3 c_418) (fun _ => ?_)
    refine lv_iconst (v := (1 : Int32)) hx hb dL_isStep_421 (by decide) ?_
    refine lv_goto (tgt := 426) hx hb dL_isStep_422 (by decide) ?_
    exact hret _ _ _ _ _ _ dL_isStep_426 (hR.mono _ _ hJ) hP hD hS
  · refine lv_aload_n hx hb dL_isStep_327 rfl (lv_at hl 1 rfl) ?_
    refine lv_iconst (v := (4 : Int32)) hx hb dL_isStep_328 (by decide) ?_
    refine zcO (n := 1) (As := [.int (4 : Int32)]) (rest := []) (Y := zW g b r U) hx hb hml hown hts hN (kM_count l g a q V (4 : Int32)) gL_isStep_X5_count rfl (by decide +kernel) ⟨rfl, rfl⟩ ⟨Nat.le_of_ble_eq_true rfl, Nat.le_of_ble_eq_true rfl⟩ hK hP hD hS hA rfl hl.1 rfl (Nat.le_of_ble_eq_true rfl) dL_isStep_329 ⟨Nat.le_of_ble_eq_true rfl, Nat.le_of_ble_eq_true rfl⟩ (fun H locs hP hD hS => ?_)
    refine lv_istore (lv' := [(5, .int (kF_count V (4 : Int32))), (4, .int z), (0, .ref a), (1, .ref b), (2, .int p0), (3, .int p1)]) hx hb dL_isStep_332 hl (by decide) rfl (fun ls hl => ?_)
    refine lv_aload_n hx hb dL_isStep_334 rfl (lv_at hl 2 rfl) ?_
    refine lv_iconst (v := (5 : Int32)) hx hb dL_isStep_335 (by decide) ?_
    refine zcO (n := 1) (As := [.int (5 : Int32)]) (rest := []) (Y := zW g b r U) hx hb hml hown hts hN (kM_count l g a q V (5 : Int32)) gL_isStep_X5_count rfl (by decide +kernel) ⟨rfl, rfl⟩ ⟨Nat.le_of_ble_eq_true rfl, Nat.le_of_ble_eq_true rfl⟩ hK hP hD hS hA rfl hl.1 rfl (Nat.le_of_ble_eq_true rfl) dL_isStep_336 ⟨Nat.le_of_ble_eq_true rfl, Nat.le_of_ble_eq_true rfl⟩ (fun H locs hP hD hS => ?_)
    refine lv_istore (lv' := [(6, .int (kF_count V (5 : Int32))), (5, .int (kF_count V (4 : Int32))), (4, .int z), (0, .ref a), (1, .ref b), (2, .int p0), (3, .int p1)]) hx hb dL_isStep_339 hl (by decide) rfl (fun ls hl => ?_)
    refine lv_aload_n hx hb dL_isStep_341 rfl (lv_at hl 3 rfl) ?_
    refine lv_bipush (v := (10 : Int32)) hx hb dL_isStep_342 (by decide) ?_
    refine zcO (n := 1) (As := [.int (10 : Int32)]) (rest := []) (Y := zW g b r U) hx hb hml hown hts hN (kM_count l g a q V (10 : Int32)) gL_isStep_X5_count rfl (by decide +kernel) ⟨rfl, rfl⟩ ⟨Nat.le_of_ble_eq_true rfl, Nat.le_of_ble_eq_true rfl⟩ hK hP hD hS hA rfl hl.1 rfl (Nat.le_of_ble_eq_true rfl) dL_isStep_344 ⟨Nat.le_of_ble_eq_true rfl, Nat.le_of_ble_eq_true rfl⟩ (fun H locs hP hD hS => ?_)
    refine lv_istore (lv' := [(7, .int (kF_count V (10 : Int32))), (6, .int (kF_count V (5 : Int32))), (5, .int (kF_count V (4 : Int32))), (4, .int z), (0, .ref a), (1, .ref b), (2, .int p0), (3, .int p1)]) hx hb dL_isStep_347 hl (by decide) rfl (fun ls hl => ?_)
    refine lv_aload_n hx hb dL_isStep_349 rfl (lv_at hl 4 rfl) ?_
    refine zcO (n := 0) (As := []) (rest := []) (Y := zW g b r U) hx hb hml hown hts hN (kM_free l g a q V okO) gL_isStep_X5_free rfl (by decide +kernel) ⟨rfl, rfl⟩ ⟨Nat.le_of_ble_eq_true rfl, Nat.le_of_ble_eq_true rfl⟩ hK hP hD hS hA rfl hl.1 rfl (Nat.le_of_ble_eq_true rfl) dL_isStep_350 ⟨Nat.le_of_ble_eq_true rfl, Nat.le_of_ble_eq_true rfl⟩ (fun H locs hP hD hS => ?_)
    refine lv_istore (lv' := [(8, .int (kF_free V)), (7, .int (kF_count V (10 : Int32))), (6, .int (kF_count V (5 : Int32))), (5, .int (kF_count V (4 : Int32))), (4, .int z), (0, .ref a), (1, .ref b), (2, .int p0), (3, .int p1)]) hx hb dL_isStep_353 hl (by decide) rfl (fun ls hl => ?_)
    refine lv_iload hx hb dL_isStep_355 (lv_at hl 0 rfl) ?_
    refine lv_aload_n hx hb dL_isStep_357 rfl (lv_at hl 6 rfl) ?_
    refine zcT (n := 0) (As := []) (rest := [.int (kF_free V)]) (Y := zW g a q (kG_free V)) hx hb hml hown hts hN (kM_free l g b r U okP) gL_isStep_X5_free rfl (by decide +kernel) ⟨rfl, rfl⟩ ⟨Nat.le_of_ble_eq_true rfl, Nat.le_of_ble_eq_true rfl⟩ hK hP hD hS hA rfl hl.1 rfl (Nat.le_of_ble_eq_true rfl) dL_isStep_358 ⟨Nat.le_of_ble_eq_true rfl, Nat.le_of_ble_eq_true rfl⟩ (fun H locs hP hD hS => ?_)
    refine lv_icmp_ne (tgt := 425) hx hb dL_isStep_361 (by decide) (fun c_361 => absurd f1 c_361) (fun _ => ?_)
    refine lv_iload hx hb dL_isStep_364 (lv_at hl 0 rfl) ?_
    refine lv_iload hx hb dL_isStep_366 (lv_at hl 2 rfl) ?_
    refine lv_iconst (v := (1 : Int32)) hx hb dL_isStep_368 (by decide) ?_
    refine lv_icmp_ne (tgt := 377) hx hb dL_isStep_369 (by decide) (fun _ => ?_) (fun c_369 => absurd c_369 (by rw [g1]; decide))
    refine lv_bipush (v := (-5 : Int32)) hx hb dL_isStep_377 (by decide) ?_
    refine lv_icmp_ne (tgt := 425) hx hb dL_isStep_379 (by decide) (fun c_379 => absurd g2 c_379) (fun _ => ?_)
    refine lv_iload hx hb dL_isStep_382 (lv_at hl 2 rfl) ?_
    refine lv_if_eq (tgt := 410) hx hb dL_isStep_384 (by decide) (fun _ => ?_) (fun c_384 => absurd g1 c_384)
    refine lv_aload_n hx hb dL_isStep_410 rfl (lv_at hl 5 rfl) ?_
    refine lv_bipush (v := (10 : Int32)) hx hb dL_isStep_411 (by decide) ?_
    refine zcO (n := 1) (As := [.int (10 : Int32)]) (rest := []) (Y := zW g b r (kG_free U)) hx hb hml hown hts hN (kM_count l g a q (kG_free V) (10 : Int32)) gL_isStep_X5_count rfl (by decide +kernel) ⟨rfl, rfl⟩ ⟨Nat.le_of_ble_eq_true rfl, Nat.le_of_ble_eq_true rfl⟩ hK hP hD hS hA rfl hl.1 rfl (Nat.le_of_ble_eq_true rfl) dL_isStep_413 ⟨Nat.le_of_ble_eq_true rfl, Nat.le_of_ble_eq_true rfl⟩ (fun H locs hP hD hS => ?_)
    refine lv_iload hx hb dL_isStep_416 (lv_at hl 1 rfl) ?_
    refine lv_icmp_ne (tgt := 425) hx hb dL_isStep_418 (by decide) (fun c_418 => absurd f3 c_418) (fun _ => ?_)
    refine lv_iconst (v := (1 : Int32)) hx hb dL_isStep_421 (by decide) ?_
    refine lv_goto (tgt := 426) hx hb dL_isStep_422 (by decide) ?_
    exact hret _ _ _ _ _ _ dL_isStep_426 (hR.mono _ _ hJ) hP hD hS
set_option maxRecDepth 100000 in
set_option maxHeartbeats 4000000 in
theorem zis_newForm {p : Program} {l : Launch} {e : Env} {s : State} {m : MethodId} {below : List Frame} {meth : Method} {c : Code} {Q : State → Prop} {g : zG} {A : Nat → Prop} {a b : Nat} {q r : zAd} {V U : zPV} {I I2 : zRel2} {J : zRel3} {p0 p1 z : Int32} (hx : p.tables.exec = Jvm.exec) (hb : c.code = cL_isStep) (hml : c.maxLocals = 12) (hown : s.vm.findClass RL = some m.cls) (hts : ∀ w ∈ wsL_isStep, w.before ([.ref a, .ref b, .int p0, .int p1] : List Value).toArray s = true) (hA : ∀ q : Nat, s.heap.size ≤ q → A q) (hN : zN s) (hK : va_K g.1 vwCl (zTy g) s) (hGS : zGS A s s.heap) (hR : zS2 I I2 J) (hI : I V U) (hret : ∀ (V U : zPV) (H : Heap) (locs : List Loc) (ls : Array Slot) (pc : Nat), decode cL_isStep pc = .ok (.ireturn, 1) → I2 V U → va_P g.1 vwCl (zW g a q V ++ zW g b r U) H → va_D A (zW g a q V ++ zW g b r U) → va_S A s.heap H locs → W p l e rm_L_isStep s m ([.ref a, .ref b, .int p0, .int p1] : List Value).toArray below meth c H locs 0 0 Q (F0 m pc ls [.int 1])) : ∀ (H : Heap) (locs : List Loc) (ls : Array Slot), va_P g.1 vwCl (zW g a q V ++ zW g b r U) H → va_D A (zW g a q V ++ zW g b r U) → va_S A s.heap H locs → lv_has ls 12 [(4, .int z), (0, .ref a), (1, .ref b), (2, .int p0), (3, .int p1)] → W p l e rm_L_isStep s m ([.ref a, .ref b, .int p0, .int p1] : List Value).toArray below meth c H locs 0 0 Q (F0 m 427 ls []) := by
  intro H locs ls hP hD hS hl
  have okO := (hR.ok _ _ hI).1
  have okP := (hR.ok _ _ hI).2
  obtain ⟨f1, f2, f3, f4, f5, hJ⟩ := hR.newForm V U hI
  refine lv_aload_n hx hb dL_isStep_427 rfl (lv_at hl 1 rfl) ?_
  refine lv_bipush (v := (7 : Int32)) hx hb dL_isStep_428 (by decide) ?_
  refine zcO (n := 1) (As := [.int (7 : Int32)]) (rest := []) (Y := zW g b r U) hx hb hml hown hts hN (kM_count l g a q V (7 : Int32)) gL_isStep_X5_count rfl (by decide +kernel) ⟨rfl, rfl⟩ ⟨Nat.le_of_ble_eq_true rfl, Nat.le_of_ble_eq_true rfl⟩ hK hP hD hS hA rfl hl.1 rfl (Nat.le_of_ble_eq_true rfl) dL_isStep_430 ⟨Nat.le_of_ble_eq_true rfl, Nat.le_of_ble_eq_true rfl⟩ (fun H locs hP hD hS => ?_)
  refine lv_istore (lv' := [(5, .int (kF_count V (7 : Int32))), (4, .int z), (0, .ref a), (1, .ref b), (2, .int p0), (3, .int p1)]) hx hb dL_isStep_433 hl (by decide) rfl (fun ls hl => ?_)
  refine lv_aload_n hx hb dL_isStep_435 rfl (lv_at hl 2 rfl) ?_
  refine zcO (n := 0) (As := []) (rest := []) (Y := zW g b r U) hx hb hml hown hts hN (kM_newForm l g a q V okO) gL_isStep_X5_newForm rfl (by decide +kernel) ⟨rfl, rfl⟩ ⟨Nat.le_of_ble_eq_true rfl, Nat.le_of_ble_eq_true rfl⟩ hK hP hD hS hA rfl hl.1 rfl (Nat.le_of_ble_eq_true rfl) dL_isStep_436 ⟨Nat.le_of_ble_eq_true rfl, Nat.le_of_ble_eq_true rfl⟩ (fun H locs hP hD hS => ?_)
  refine lv_iload hx hb dL_isStep_439 (lv_at hl 0 rfl) ?_
  refine lv_icmp_ne (tgt := 487) hx hb dL_isStep_441 (by decide) (fun c_441 => absurd f1 c_441) (fun _ => ?_)
  refine lv_aload_n hx hb dL_isStep_444 rfl (lv_at hl 3 rfl) ?_
  refine zcT (n := 0) (As := []) (rest := []) (Y := zW g a q (kG_newForm V)) hx hb hml hown hts hN (kM_newForm l g b r U okP) gL_isStep_X5_newForm rfl (by decide +kernel) ⟨rfl, rfl⟩ ⟨Nat.le_of_ble_eq_true rfl, Nat.le_of_ble_eq_true rfl⟩ hK hP hD hS hA rfl hl.1 rfl (Nat.le_of_ble_eq_true rfl) dL_isStep_445 ⟨Nat.le_of_ble_eq_true rfl, Nat.le_of_ble_eq_true rfl⟩ (fun H locs hP hD hS => ?_)
  refine lv_iload hx hb dL_isStep_448 (lv_at hl 0 rfl) ?_
  refine zcSi (n := 1) (As := [.int (kF_count V (7 : Int32))]) (rest := [.int (kF_newForm U)]) hx hb hml hown hts hN (m_L_turned l g (kF_count V (7 : Int32))) gL_isStep_L_turned rfl (by decide +kernel) ⟨rfl, rfl⟩ ⟨Nat.le_of_ble_eq_true rfl, Nat.le_of_ble_eq_true rfl⟩ hK hP hD hS hA rfl hl.1 rfl (Nat.le_of_ble_eq_true rfl) dL_isStep_450 ⟨Nat.zero_le _, Nat.zero_le _⟩ (fun H locs hP hD hS => ?_)
  refine lv_icmp_ne (tgt := 487) hx hb dL_isStep_453 (by decide) (fun c_453 => absurd f2 c_453) (fun _ => ?_)
  refine lv_aload_n hx hb dL_isStep_456 rfl (lv_at hl 2 rfl) ?_
  refine lv_bipush (v := (7 : Int32)) hx hb dL_isStep_457 (by decide) ?_
  refine zcO (n := 1) (As := [.int (7 : Int32)]) (rest := []) (Y := zW g b r (kG_newForm U)) hx hb hml hown hts hN (kM_count l g a q (kG_newForm V) (7 : Int32)) gL_isStep_X5_count rfl (by decide +kernel) ⟨rfl, rfl⟩ ⟨Nat.le_of_ble_eq_true rfl, Nat.le_of_ble_eq_true rfl⟩ hK hP hD hS hA rfl hl.1 rfl (Nat.le_of_ble_eq_true rfl) dL_isStep_459 ⟨Nat.le_of_ble_eq_true rfl, Nat.le_of_ble_eq_true rfl⟩ (fun H locs hP hD hS => ?_)
  refine lv_if_ne (tgt := 487) hx hb dL_isStep_462 (by decide) (fun c_462 => absurd f3 c_462) (fun _ => ?_)
  refine lv_aload_n hx hb dL_isStep_465 rfl (lv_at hl 2 rfl) ?_
  refine lv_bipush (v := (8 : Int32)) hx hb dL_isStep_466 (by decide) ?_
  refine zcO (n := 1) (As := [.int (8 : Int32)]) (rest := []) (Y := zW g b r (kG_newForm U)) hx hb hml hown hts hN (kM_count l g a q (kG_newForm V) (8 : Int32)) gL_isStep_X5_count rfl (by decide +kernel) ⟨rfl, rfl⟩ ⟨Nat.le_of_ble_eq_true rfl, Nat.le_of_ble_eq_true rfl⟩ hK hP hD hS hA rfl hl.1 rfl (Nat.le_of_ble_eq_true rfl) dL_isStep_468 ⟨Nat.le_of_ble_eq_true rfl, Nat.le_of_ble_eq_true rfl⟩ (fun H locs hP hD hS => ?_)
  refine lv_if_ne (tgt := 487) hx hb dL_isStep_471 (by decide) (fun c_471 => absurd f4 c_471) (fun _ => ?_)
  refine lv_aload_n hx hb dL_isStep_474 rfl (lv_at hl 2 rfl) ?_
  refine lv_bipush (v := (9 : Int32)) hx hb dL_isStep_475 (by decide) ?_
  refine zcO (n := 1) (As := [.int (9 : Int32)]) (rest := []) (Y := zW g b r (kG_newForm U)) hx hb hml hown hts hN (kM_count l g a q (kG_newForm V) (9 : Int32)) gL_isStep_X5_count rfl (by decide +kernel) ⟨rfl, rfl⟩ ⟨Nat.le_of_ble_eq_true rfl, Nat.le_of_ble_eq_true rfl⟩ hK hP hD hS hA rfl hl.1 rfl (Nat.le_of_ble_eq_true rfl) dL_isStep_477 ⟨Nat.le_of_ble_eq_true rfl, Nat.le_of_ble_eq_true rfl⟩ (fun H locs hP hD hS => ?_)
  refine lv_if_ne (tgt := 487) hx hb dL_isStep_480 (by decide) (fun c_480 => absurd f5 c_480) (fun _ => ?_)
  refine lv_iconst (v := (1 : Int32)) hx hb dL_isStep_483 (by decide) ?_
  refine lv_goto (tgt := 488) hx hb dL_isStep_484 (by decide) ?_
  exact hret _ _ _ _ _ _ dL_isStep_488 (hR.mono _ _ hJ) hP hD hS
set_option maxRecDepth 100000 in
set_option maxHeartbeats 4000000 in
theorem zis_save {p : Program} {l : Launch} {e : Env} {s : State} {m : MethodId} {below : List Frame} {meth : Method} {c : Code} {Q : State → Prop} {g : zG} {A : Nat → Prop} {a b : Nat} {q r : zAd} {V U : zPV} {I I2 : zRel2} {J : zRel3} {p0 p1 z : Int32} (hx : p.tables.exec = Jvm.exec) (hb : c.code = cL_isStep) (hml : c.maxLocals = 12) (hown : s.vm.findClass RL = some m.cls) (hts : ∀ w ∈ wsL_isStep, w.before ([.ref a, .ref b, .int p0, .int p1] : List Value).toArray s = true) (hA : ∀ q : Nat, s.heap.size ≤ q → A q) (hN : zN s) (hK : va_K g.1 vwCl (zTy g) s) (hGS : zGS A s s.heap) (hR : zS2 I I2 J) (hI : I V U) (hret : ∀ (V U : zPV) (H : Heap) (locs : List Loc) (ls : Array Slot) (pc : Nat), decode cL_isStep pc = .ok (.ireturn, 1) → I2 V U → va_P g.1 vwCl (zW g a q V ++ zW g b r U) H → va_D A (zW g a q V ++ zW g b r U) → va_S A s.heap H locs → W p l e rm_L_isStep s m ([.ref a, .ref b, .int p0, .int p1] : List Value).toArray below meth c H locs 0 0 Q (F0 m pc ls [.int 1])) : ∀ (H : Heap) (locs : List Loc) (ls : Array Slot), va_P g.1 vwCl (zW g a q V ++ zW g b r U) H → va_D A (zW g a q V ++ zW g b r U) → va_S A s.heap H locs → lv_has ls 12 [(4, .int z), (0, .ref a), (1, .ref b), (2, .int p0), (3, .int p1)] → W p l e rm_L_isStep s m ([.ref a, .ref b, .int p0, .int p1] : List Value).toArray below meth c H locs 0 0 Q (F0 m 489 ls []) := by
  intro H locs ls hP hD hS hl
  have okO := (hR.ok _ _ hI).1
  have okP := (hR.ok _ _ hI).2
  refine lv_iload_n hx hb dL_isStep_489 rfl (lv_at hl 4 rfl) ?_
  refine lv_iconst (v := (2 : Int32)) hx hb dL_isStep_490 (by decide) ?_
  refine zcSi (n := 2) (As := [.int p1, .int (2 : Int32)]) (rest := []) hx hb hml hown hts hN (m_L_up l g p1 (2 : Int32) (by decide)) gL_isStep_L_up rfl (by decide +kernel) ⟨rfl, rfl⟩ ⟨Nat.le_of_ble_eq_true rfl, Nat.le_of_ble_eq_true rfl⟩ hK hP hD hS hA rfl hl.1 rfl (Nat.le_of_ble_eq_true rfl) dL_isStep_491 ⟨Nat.zero_le _, Nat.zero_le _⟩ (fun H locs hP hD hS => ?_)
  refine lv_if_ne (tgt := 528) hx hb dL_isStep_494 (by decide) (fun c_494 => ?_) (fun c_494 => ?_)
  · obtain ⟨f1, hJ⟩ := hR.restore V U (f_L_up z (2 : Int32)) hI (zupin z (2 : Int32) (n := 2) rfl (by omega) (by omega))
    refine lv_aload_n hx hb dL_isStep_528 rfl (lv_at hl 1 rfl) ?_
    refine lv_iload hx hb dL_isStep_529 (lv_at hl 0 rfl) ?_
    refine lv_iconst (v := (2 : Int32)) hx hb dL_isStep_531 (by decide) ?_
    refine zcSi (n := 2) (As := [.int z, .int (2 : Int32)]) (rest := [.ref a]) hx hb hml hown hts hN (m_L_up l g z (2 : Int32) (by decide)) gL_isStep_L_up rfl (by decide +kernel) ⟨rfl, rfl⟩ ⟨Nat.le_of_ble_eq_true rfl, Nat.le_of_ble_eq_true rfl⟩ hK hP hD hS hA rfl hl.1 rfl (Nat.le_of_ble_eq_true rfl) dL_isStep_532 ⟨Nat.zero_le _, Nat.zero_le _⟩ (fun H locs hP hD hS => ?_)
    refine zcO (n := 1) (As := [.int (f_L_up z (2 : Int32))]) (rest := []) (Y := zW g b r U) hx hb hml hown hts hN (kM_restore l g a q V (f_L_up z (2 : Int32)) okO) gL_isStep_X5_restore rfl (by decide +kernel) ⟨rfl, rfl⟩ ⟨Nat.le_of_ble_eq_true rfl, Nat.le_of_ble_eq_true rfl⟩ hK hP hD hS hA rfl hl.1 rfl (Nat.le_of_ble_eq_true rfl) dL_isStep_535 ⟨Nat.le_of_ble_eq_true rfl, Nat.le_of_ble_eq_true rfl⟩ (fun H locs hP hD hS => ?_)
    refine lv_aload_n hx hb dL_isStep_538 rfl (lv_at hl 2 rfl) ?_
    refine lv_iload hx hb dL_isStep_539 (lv_at hl 0 rfl) ?_
    refine lv_iconst (v := (2 : Int32)) hx hb dL_isStep_541 (by decide) ?_
    refine zcSi (n := 2) (As := [.int z, .int (2 : Int32)]) (rest := [.ref b, .int (kF_restore V (f_L_up z (2 : Int32)))]) hx hb hml hown hts hN (m_L_up l g z (2 : Int32) (by decide)) gL_isStep_L_up rfl (by decide +kernel) ⟨rfl, rfl⟩ ⟨Nat.le_of_ble_eq_true rfl, Nat.le_of_ble_eq_true rfl⟩ hK hP hD hS hA rfl hl.1 rfl (Nat.le_of_ble_eq_true rfl) dL_isStep_542 ⟨Nat.zero_le _, Nat.zero_le _⟩ (fun H locs hP hD hS => ?_)
    refine zcT (n := 1) (As := [.int (f_L_up z (2 : Int32))]) (rest := [.int (kF_restore V (f_L_up z (2 : Int32)))]) (Y := zW g a q (kG_restore V (f_L_up z (2 : Int32)))) hx hb hml hown hts hN (kM_restore l g b r U (f_L_up z (2 : Int32)) okP) gL_isStep_X5_restore rfl (by decide +kernel) ⟨rfl, rfl⟩ ⟨Nat.le_of_ble_eq_true rfl, Nat.le_of_ble_eq_true rfl⟩ hK hP hD hS hA rfl hl.1 rfl (Nat.le_of_ble_eq_true rfl) dL_isStep_545 ⟨Nat.le_of_ble_eq_true rfl, Nat.le_of_ble_eq_true rfl⟩ (fun H locs hP hD hS => ?_)
    refine lv_icmp_ne (tgt := 555) hx hb dL_isStep_548 (by decide) (fun c_548 => absurd f1 c_548) (fun _ => ?_)
    refine lv_iconst (v := (1 : Int32)) hx hb dL_isStep_551 (by decide) ?_
    refine lv_goto (tgt := 556) hx hb dL_isStep_552 (by decide) ?_
    exact hret _ _ _ _ _ _ dL_isStep_556 (hR.mono _ _ hJ) hP hD hS
  · obtain ⟨f1, hJ⟩ := hR.save V U (f_L_up z (2 : Int32)) hI (zupin z (2 : Int32) (n := 2) rfl (by omega) (by omega))
    refine lv_aload_n hx hb dL_isStep_497 rfl (lv_at hl 1 rfl) ?_
    refine lv_iload hx hb dL_isStep_498 (lv_at hl 0 rfl) ?_
    refine lv_iconst (v := (2 : Int32)) hx hb dL_isStep_500 (by decide) ?_
    refine zcSi (n := 2) (As := [.int z, .int (2 : Int32)]) (rest := [.ref a]) hx hb hml hown hts hN (m_L_up l g z (2 : Int32) (by decide)) gL_isStep_L_up rfl (by decide +kernel) ⟨rfl, rfl⟩ ⟨Nat.le_of_ble_eq_true rfl, Nat.le_of_ble_eq_true rfl⟩ hK hP hD hS hA rfl hl.1 rfl (Nat.le_of_ble_eq_true rfl) dL_isStep_501 ⟨Nat.zero_le _, Nat.zero_le _⟩ (fun H locs hP hD hS => ?_)
    refine zcO (n := 1) (As := [.int (f_L_up z (2 : Int32))]) (rest := []) (Y := zW g b r U) hx hb hml hown hts hN (kM_save l g a q V (f_L_up z (2 : Int32)) okO) gL_isStep_X5_save rfl (by decide +kernel) ⟨rfl, rfl⟩ ⟨Nat.le_of_ble_eq_true rfl, Nat.le_of_ble_eq_true rfl⟩ hK hP hD hS hA rfl hl.1 rfl (Nat.le_of_ble_eq_true rfl) dL_isStep_504 ⟨Nat.le_of_ble_eq_true rfl, Nat.le_of_ble_eq_true rfl⟩ (fun H locs hP hD hS => ?_)
    refine lv_aload_n hx hb dL_isStep_507 rfl (lv_at hl 2 rfl) ?_
    refine lv_iload hx hb dL_isStep_508 (lv_at hl 0 rfl) ?_
    refine lv_iconst (v := (2 : Int32)) hx hb dL_isStep_510 (by decide) ?_
    refine zcSi (n := 2) (As := [.int z, .int (2 : Int32)]) (rest := [.ref b, .int (kF_save V (f_L_up z (2 : Int32)))]) hx hb hml hown hts hN (m_L_up l g z (2 : Int32) (by decide)) gL_isStep_L_up rfl (by decide +kernel) ⟨rfl, rfl⟩ ⟨Nat.le_of_ble_eq_true rfl, Nat.le_of_ble_eq_true rfl⟩ hK hP hD hS hA rfl hl.1 rfl (Nat.le_of_ble_eq_true rfl) dL_isStep_511 ⟨Nat.zero_le _, Nat.zero_le _⟩ (fun H locs hP hD hS => ?_)
    refine zcT (n := 1) (As := [.int (f_L_up z (2 : Int32))]) (rest := [.int (kF_save V (f_L_up z (2 : Int32)))]) (Y := zW g a q (kG_save V (f_L_up z (2 : Int32)))) hx hb hml hown hts hN (kM_save l g b r U (f_L_up z (2 : Int32)) okP) gL_isStep_X5_save rfl (by decide +kernel) ⟨rfl, rfl⟩ ⟨Nat.le_of_ble_eq_true rfl, Nat.le_of_ble_eq_true rfl⟩ hK hP hD hS hA rfl hl.1 rfl (Nat.le_of_ble_eq_true rfl) dL_isStep_514 ⟨Nat.le_of_ble_eq_true rfl, Nat.le_of_ble_eq_true rfl⟩ (fun H locs hP hD hS => ?_)
    refine lv_icmp_ne (tgt := 524) hx hb dL_isStep_517 (by decide) (fun c_517 => absurd f1 c_517) (fun _ => ?_)
    refine lv_iconst (v := (1 : Int32)) hx hb dL_isStep_520 (by decide) ?_
    refine lv_goto (tgt := 556) hx hb dL_isStep_521 (by decide) ?_
    exact hret _ _ _ _ _ _ dL_isStep_556 (hR.mono _ _ hJ) hP hD hS
set_option maxRecDepth 100000 in
set_option maxHeartbeats 4000000 in
theorem zis_read {p : Program} {l : Launch} {e : Env} {s : State} {m : MethodId} {below : List Frame} {meth : Method} {c : Code} {Q : State → Prop} {g : zG} {A : Nat → Prop} {a b : Nat} {q r : zAd} {V U : zPV} {I I2 : zRel2} {J : zRel3} {p0 p1 z : Int32} (hx : p.tables.exec = Jvm.exec) (hb : c.code = cL_isStep) (hml : c.maxLocals = 12) (hown : s.vm.findClass RL = some m.cls) (hts : ∀ w ∈ wsL_isStep, w.before ([.ref a, .ref b, .int p0, .int p1] : List Value).toArray s = true) (hA : ∀ q : Nat, s.heap.size ≤ q → A q) (hN : zN s) (hK : va_K g.1 vwCl (zTy g) s) (hGS : zGS A s s.heap) (hR : zS2 I I2 J) (hI : I V U) (hret : ∀ (V U : zPV) (H : Heap) (locs : List Loc) (ls : Array Slot) (pc : Nat), decode cL_isStep pc = .ok (.ireturn, 1) → I2 V U → va_P g.1 vwCl (zW g a q V ++ zW g b r U) H → va_D A (zW g a q V ++ zW g b r U) → va_S A s.heap H locs → W p l e rm_L_isStep s m ([.ref a, .ref b, .int p0, .int p1] : List Value).toArray below meth c H locs 0 0 Q (F0 m pc ls [.int 1])) : ∀ (H : Heap) (locs : List Loc) (ls : Array Slot), va_P g.1 vwCl (zW g a q V ++ zW g b r U) H → va_D A (zW g a q V ++ zW g b r U) → va_S A s.heap H locs → lv_has ls 12 [(4, .int z), (0, .ref a), (1, .ref b), (2, .int p0), (3, .int p1)] → W p l e rm_L_isStep s m ([.ref a, .ref b, .int p0, .int p1] : List Value).toArray below meth c H locs 0 0 Q (F0 m 557 ls []) := by
  intro H locs ls hP hD hS hl
  have okO := (hR.ok _ _ hI).1
  have okP := (hR.ok _ _ hI).2
  refine lv_aload_n hx hb dL_isStep_557 rfl (lv_at hl 1 rfl) ?_
  refine lv_aload_n hx hb dL_isStep_558 rfl (lv_at hl 2 rfl) ?_
  refine lv_iload_n hx hb dL_isStep_559 rfl (lv_at hl 4 rfl) ?_
  refine lv_iload hx hb dL_isStep_560 (lv_at hl 0 rfl) ?_
  refine zcSe (n := 4) (As := [.ref a, .ref b, .int p1, .int z]) (rest := []) (Xr := []) hx hb hml hown hts hN hGS (m_L_isRead l g hR a b q r V U hI p1 z) gL_isStep_L_isRead rfl (by decide +kernel) ⟨rfl, rfl⟩ ⟨Nat.le_of_ble_eq_true rfl, Nat.le_of_ble_eq_true rfl⟩ hK hP hD hS hA (zpn _) rfl hl.1 rfl (Nat.le_of_ble_eq_true rfl) dL_isStep_562 ⟨Nat.le_of_ble_eq_true rfl, Nat.le_of_ble_eq_true rfl⟩ (fun rv u H locs hr hP hD hS => ?_)
  obtain ⟨rfl, hJ⟩ := hr
  rw [List.append_nil] at hP hD
  exact hret _ _ _ _ _ _ dL_isStep_565 (hR.mono _ _ hJ) hP hD hS
set_option maxRecDepth 100000 in
set_option maxHeartbeats 4000000 in
theorem zis_step {p : Program} {l : Launch} {e : Env} {s : State} {m : MethodId} {below : List Frame} {meth : Method} {c : Code} {Q : State → Prop} {g : zG} {A : Nat → Prop} {a b : Nat} {q r : zAd} {V U : zPV} {I I2 : zRel2} {J : zRel3} {p0 p1 z : Int32} (hx : p.tables.exec = Jvm.exec) (hb : c.code = cL_isStep) (hml : c.maxLocals = 12) (hown : s.vm.findClass RL = some m.cls) (hts : ∀ w ∈ wsL_isStep, w.before ([.ref a, .ref b, .int p0, .int p1] : List Value).toArray s = true) (hA : ∀ q : Nat, s.heap.size ≤ q → A q) (hN : zN s) (hK : va_K g.1 vwCl (zTy g) s) (hGS : zGS A s s.heap) (hR : zS2 I I2 J) (hI : I V U) (hret : ∀ (V U : zPV) (H : Heap) (locs : List Loc) (ls : Array Slot) (pc : Nat), decode cL_isStep pc = .ok (.ireturn, 1) → I2 V U → va_P g.1 vwCl (zW g a q V ++ zW g b r U) H → va_D A (zW g a q V ++ zW g b r U) → va_S A s.heap H locs → W p l e rm_L_isStep s m ([.ref a, .ref b, .int p0, .int p1] : List Value).toArray below meth c H locs 0 0 Q (F0 m pc ls [.int 1])) : ∀ (H : Heap) (locs : List Loc) (ls : Array Slot), va_P g.1 vwCl (zW g a q V ++ zW g b r U) H → va_D A (zW g a q V ++ zW g b r U) → va_S A s.heap H locs → lv_has ls 12 [(4, .int z), (0, .ref a), (1, .ref b), (2, .int p0), (3, .int p1)] → W p l e rm_L_isStep s m ([.ref a, .ref b, .int p0, .int p1] : List Value).toArray below meth c H locs 0 0 Q (F0 m 566 ls []) := by
  intro H locs ls hP hD hS hl
  have okO := (hR.ok _ _ hI).1
  have okP := (hR.ok _ _ hI).2
  have K591 : ∀ (n : Nat) (H : Heap) (locs : List Loc) (ls : Array Slot), 1 ≤ n → n ≤ 200 → va_P g.1 vwCl (zW g a q V ++ zW g b r U) H → va_D A (zW g a q V ++ zW g b r U) → va_S A s.heap H locs → lv_has ls 12 [(5, .int (nI n)), (4, .int z), (0, .ref a), (1, .ref b), (2, .int p0), (3, .int p1)] → W p l e rm_L_isStep s m ([.ref a, .ref b, .int p0, .int p1] : List Value).toArray below meth c H locs 0 0 Q (F0 m 591 ls []) := by
    intro n H locs ls hn1 hn2 hP hD hS hl
    rcases hR.step0 V U n hI hn1 hn2 with ⟨g1, g2, g3, hJ⟩ | ⟨g1, hj⟩
    · refine lv_aload_n hx hb dL_isStep_591 rfl (lv_at hl 2 rfl) ?_
      refine lv_iconst (v := (5 : Int32)) hx hb dL_isStep_592 (by decide) ?_
      refine zcO (n := 1) (As := [.int (5 : Int32)]) (rest := []) (Y := zW g b r U) hx hb hml hown hts hN (kM_count l g a q V (5 : Int32)) gL_isStep_X5_count rfl (by decide +kernel) ⟨rfl, rfl⟩ ⟨Nat.le_of_ble_eq_true rfl, Nat.le_of_ble_eq_true rfl⟩ hK hP hD hS hA rfl hl.1 rfl (Nat.le_of_ble_eq_true rfl) dL_isStep_593 ⟨Nat.le_of_ble_eq_true rfl, Nat.le_of_ble_eq_true rfl⟩ (fun H locs hP hD hS => ?_)
      refine lv_iconst (v := (1 : Int32)) hx hb dL_isStep_596 (by decide) ?_
      refine lv_icmp_ne (tgt := 604) hx hb dL_isStep_597 (by decide) (fun c_597 => absurd g1 c_597) (fun _ => ?_)
      refine lv_iconst (v := (1 : Int32)) hx hb dL_isStep_600 (by decide) ?_
      refine lv_goto (tgt := 605) hx hb dL_isStep_601 (by decide) ?_
      refine lv_istore (lv' := [(6, .int (1 : Int32)), (5, .int (nI n)), (4, .int z), (0, .ref a), (1, .ref b), (2, .int p0), (3, .int p1)]) hx hb dL_isStep_605 hl (by decide) rfl (fun ls hl => ?_)
      refine lv_aload_n hx hb dL_isStep_607 rfl (lv_at hl 3 rfl) ?_
      refine lv_bipush (v := (10 : Int32)) hx hb dL_isStep_608 (by decide) ?_
      refine zcO (n := 1) (As := [.int (10 : Int32)]) (rest := []) (Y := zW g b r U) hx hb hml hown hts hN (kM_count l g a q V (10 : Int32)) gL_isStep_X5_count rfl (by decide +kernel) ⟨rfl, rfl⟩ ⟨Nat.le_of_ble_eq_true rfl, Nat.le_of_ble_eq_true rfl⟩ hK hP hD hS hA rfl hl.1 rfl (Nat.le_of_ble_eq_true rfl) dL_isStep_610 ⟨Nat.le_of_ble_eq_true rfl, Nat.le_of_ble_eq_true rfl⟩ (fun H locs hP hD hS => ?_)
      refine lv_istore (lv' := [(7, .int (kF_count V (10 : Int32))), (6, .int (1 : Int32)), (5, .int (nI n)), (4, .int z), (0, .ref a), (1, .ref b), (2, .int p0), (3, .int p1)]) hx hb dL_isStep_613 hl (by decide) rfl (fun ls hl => ?_)
      refine lv_aload_n hx hb dL_isStep_615 rfl (lv_at hl 4 rfl) ?_
      refine lv_iconst (v := (4 : Int32)) hx hb dL_isStep_616 (by decide) ?_
      refine zcO (n := 1) (As := [.int (4 : Int32)]) (rest := []) (Y := zW g b r U) hx hb hml hown hts hN (kM_count l g a q V (4 : Int32)) gL_isStep_X5_count rfl (by decide +kernel) ⟨rfl, rfl⟩ ⟨Nat.le_of_ble_eq_true rfl, Nat.le_of_ble_eq_true rfl⟩ hK hP hD hS hA rfl hl.1 rfl (Nat.le_of_ble_eq_true rfl) dL_isStep_617 ⟨Nat.le_of_ble_eq_true rfl, Nat.le_of_ble_eq_true rfl⟩ (fun H locs hP hD hS => ?_)
      refine lv_istore (lv' := [(8, .int (kF_count V (4 : Int32))), (7, .int (kF_count V (10 : Int32))), (6, .int (1 : Int32)), (5, .int (nI n)), (4, .int z), (0, .ref a), (1, .ref b), (2, .int p0), (3, .int p1)]) hx hb dL_isStep_620 hl (by decide) rfl (fun ls hl => ?_)
      refine lv_aload_n hx hb dL_isStep_622 rfl (lv_at hl 5 rfl) ?_
      refine lv_iload hx hb dL_isStep_623 (lv_at hl 3 rfl) ?_
      refine zcO (n := 1) (As := [.int (nI n)]) (rest := []) (Y := zW g b r U) hx hb hml hown hts hN (kM_step l g a q V (nI n) okO) gL_isStep_X5_step rfl (by decide +kernel) ⟨rfl, rfl⟩ ⟨Nat.le_of_ble_eq_true rfl, Nat.le_of_ble_eq_true rfl⟩ hK hP hD hS hA rfl hl.1 rfl (Nat.le_of_ble_eq_true rfl) dL_isStep_625 ⟨Nat.le_of_ble_eq_true rfl, Nat.le_of_ble_eq_true rfl⟩ (fun H locs hP hD hS => ?_)
      refine lv_istore (lv' := [(9, .int (kF_step V (nI n))), (8, .int (kF_count V (4 : Int32))), (7, .int (kF_count V (10 : Int32))), (6, .int (1 : Int32)), (5, .int (nI n)), (4, .int z), (0, .ref a), (1, .ref b), (2, .int p0), (3, .int p1)]) hx hb dL_isStep_628 hl (by decide) rfl (fun ls hl => ?_)
      refine lv_iload hx hb dL_isStep_630 (lv_at hl 3 rfl) ?_
      refine lv_if_eq (tgt := 659) hx hb dL_isStep_632 (by decide) (fun c_632 => absurd c_632 (by decide)) (fun _ => ?_)
      refine lv_iload hx hb dL_isStep_635 (lv_at hl 0 rfl) ?_
      refine lv_bipush (v := (-5 : Int32)) hx hb dL_isStep_637 (by decide) ?_
      refine lv_icmp_ne (tgt := 657) hx hb dL_isStep_639 (by decide) (fun c_639 => absurd g2 c_639) (fun _ => ?_)
      refine lv_aload_n hx hb dL_isStep_642 rfl (lv_at hl 7 rfl) ?_
      refine lv_iload hx hb dL_isStep_643 (lv_at hl 4 rfl) ?_
      refine zcT (n := 1) (As := [.int (nI n)]) (rest := []) (Y := zW g a q (kG_step V (nI n))) hx hb hml hown hts hN (kM_step l g b r U (nI n) okP) gL_isStep_X5_step rfl (by decide +kernel) ⟨rfl, rfl⟩ ⟨Nat.le_of_ble_eq_true rfl, Nat.le_of_ble_eq_true rfl⟩ hK hP hD hS hA rfl hl.1 rfl (Nat.le_of_ble_eq_true rfl) dL_isStep_645 ⟨Nat.le_of_ble_eq_true rfl, Nat.le_of_ble_eq_true rfl⟩ (fun H locs hP hD hS => ?_)
      refine lv_iload hx hb dL_isStep_648 (lv_at hl 0 rfl) ?_
      refine lv_icmp_ne (tgt := 657) hx hb dL_isStep_650 (by decide) (fun c_650 => absurd (g3.trans g2.symm) c_650) (fun _ => ?_)
      refine lv_iconst (v := (1 : Int32)) hx hb dL_isStep_653 (by decide) ?_
      refine lv_goto (tgt := 658) hx hb dL_isStep_654 (by decide) ?_
      exact hret _ _ _ _ _ _ dL_isStep_658 (hR.mono _ _ hJ) hP hD hS
    · refine lv_aload_n hx hb dL_isStep_591 rfl (lv_at hl 2 rfl) ?_
      refine lv_iconst (v := (5 : Int32)) hx hb dL_isStep_592 (by decide) ?_
      refine zcO (n := 1) (As := [.int (5 : Int32)]) (rest := []) (Y := zW g b r U) hx hb hml hown hts hN (kM_count l g a q V (5 : Int32)) gL_isStep_X5_count rfl (by decide +kernel) ⟨rfl, rfl⟩ ⟨Nat.le_of_ble_eq_true rfl, Nat.le_of_ble_eq_true rfl⟩ hK hP hD hS hA rfl hl.1 rfl (Nat.le_of_ble_eq_true rfl) dL_isStep_593 ⟨Nat.le_of_ble_eq_true rfl, Nat.le_of_ble_eq_true rfl⟩ (fun H locs hP hD hS => ?_)
      refine lv_iconst (v := (1 : Int32)) hx hb dL_isStep_596 (by decide) ?_
      refine lv_icmp_ne (tgt := 604) hx hb dL_isStep_597 (by decide) (fun _ => ?_) (fun c_597 => absurd c_597 g1)
      refine lv_iconst (v := (0 : Int32)) hx hb dL_isStep_604 (by decide) ?_
      refine lv_istore (lv' := [(6, .int (0 : Int32)), (5, .int (nI n)), (4, .int z), (0, .ref a), (1, .ref b), (2, .int p0), (3, .int p1)]) hx hb dL_isStep_605 hl (by decide) rfl (fun ls hl => ?_)
      refine lv_aload_n hx hb dL_isStep_607 rfl (lv_at hl 3 rfl) ?_
      refine lv_bipush (v := (10 : Int32)) hx hb dL_isStep_608 (by decide) ?_
      refine zcO (n := 1) (As := [.int (10 : Int32)]) (rest := []) (Y := zW g b r U) hx hb hml hown hts hN (kM_count l g a q V (10 : Int32)) gL_isStep_X5_count rfl (by decide +kernel) ⟨rfl, rfl⟩ ⟨Nat.le_of_ble_eq_true rfl, Nat.le_of_ble_eq_true rfl⟩ hK hP hD hS hA rfl hl.1 rfl (Nat.le_of_ble_eq_true rfl) dL_isStep_610 ⟨Nat.le_of_ble_eq_true rfl, Nat.le_of_ble_eq_true rfl⟩ (fun H locs hP hD hS => ?_)
      refine lv_istore (lv' := [(7, .int (kF_count V (10 : Int32))), (6, .int (0 : Int32)), (5, .int (nI n)), (4, .int z), (0, .ref a), (1, .ref b), (2, .int p0), (3, .int p1)]) hx hb dL_isStep_613 hl (by decide) rfl (fun ls hl => ?_)
      refine lv_aload_n hx hb dL_isStep_615 rfl (lv_at hl 4 rfl) ?_
      refine lv_iconst (v := (4 : Int32)) hx hb dL_isStep_616 (by decide) ?_
      refine zcO (n := 1) (As := [.int (4 : Int32)]) (rest := []) (Y := zW g b r U) hx hb hml hown hts hN (kM_count l g a q V (4 : Int32)) gL_isStep_X5_count rfl (by decide +kernel) ⟨rfl, rfl⟩ ⟨Nat.le_of_ble_eq_true rfl, Nat.le_of_ble_eq_true rfl⟩ hK hP hD hS hA rfl hl.1 rfl (Nat.le_of_ble_eq_true rfl) dL_isStep_617 ⟨Nat.le_of_ble_eq_true rfl, Nat.le_of_ble_eq_true rfl⟩ (fun H locs hP hD hS => ?_)
      refine lv_istore (lv' := [(8, .int (kF_count V (4 : Int32))), (7, .int (kF_count V (10 : Int32))), (6, .int (0 : Int32)), (5, .int (nI n)), (4, .int z), (0, .ref a), (1, .ref b), (2, .int p0), (3, .int p1)]) hx hb dL_isStep_620 hl (by decide) rfl (fun ls hl => ?_)
      refine lv_aload_n hx hb dL_isStep_622 rfl (lv_at hl 5 rfl) ?_
      refine lv_iload hx hb dL_isStep_623 (lv_at hl 3 rfl) ?_
      refine zcO (n := 1) (As := [.int (nI n)]) (rest := []) (Y := zW g b r U) hx hb hml hown hts hN (kM_step l g a q V (nI n) okO) gL_isStep_X5_step rfl (by decide +kernel) ⟨rfl, rfl⟩ ⟨Nat.le_of_ble_eq_true rfl, Nat.le_of_ble_eq_true rfl⟩ hK hP hD hS hA rfl hl.1 rfl (Nat.le_of_ble_eq_true rfl) dL_isStep_625 ⟨Nat.le_of_ble_eq_true rfl, Nat.le_of_ble_eq_true rfl⟩ (fun H locs hP hD hS => ?_)
      refine lv_istore (lv' := [(9, .int (kF_step V (nI n))), (8, .int (kF_count V (4 : Int32))), (7, .int (kF_count V (10 : Int32))), (6, .int (0 : Int32)), (5, .int (nI n)), (4, .int z), (0, .ref a), (1, .ref b), (2, .int p0), (3, .int p1)]) hx hb dL_isStep_628 hl (by decide) rfl (fun ls hl => ?_)
      refine lv_iload hx hb dL_isStep_630 (lv_at hl 3 rfl) ?_
      refine lv_if_eq (tgt := 659) hx hb dL_isStep_632 (by decide) (fun _ => ?_) (fun c_632 => absurd (rfl) c_632)
      refine lv_iconst (v := (0 : Int32)) hx hb dL_isStep_659 (by decide) ?_
      refine lv_istore (lv' := [(10, .int (0 : Int32)), (9, .int (kF_step V (nI n))), (8, .int (kF_count V (4 : Int32))), (7, .int (kF_count V (10 : Int32))), (6, .int (0 : Int32)), (5, .int (nI n)), (4, .int z), (0, .ref a), (1, .ref b), (2, .int p0), (3, .int p1)]) hx hb dL_isStep_660 hl (by decide) rfl (fun ls hl => ?_)
      have K701 : ∀ (d : Nat) (U2 : zPV) (H : Heap) (locs : List Loc) (ls : Array Slot), J V n d U2 → (d = n ∨ ¬ kF_count U2 5 = 0) → va_P g.1 vwCl (zW g a q (kG_step V (nI n)) ++ zW g b r U2) H → va_D A (zW g a q (kG_step V (nI n)) ++ zW g b r U2) → va_S A s.heap H locs → lv_has ls 12 [(9, .int (kF_step V (nI n))), (8, .int (kF_count V (4 : Int32))), (7, .int (kF_count V (10 : Int32))), (6, .int (0 : Int32)), (5, .int (nI n)), (4, .int z), (0, .ref a), (1, .ref b), (2, .int p0), (3, .int p1), (10, .int (nI d))] → W p l e rm_L_isStep s m ([.ref a, .ref b, .int p0, .int p1] : List Value).toArray below meth c H locs 0 0 Q (F0 m 701 ls []) := by
        intro d U2 H locs ls hj hd hP hD hS hl
        obtain ⟨e1, e2, e3, e4, hJ⟩ := hR.step2 V n d U2 hj hd
        refine lv_iload hx hb dL_isStep_701 (lv_at hl 0 rfl) ?_
        refine lv_iload hx hb dL_isStep_703 (lv_at hl 10 rfl) ?_
        refine lv_icmp_ne (tgt := 770) hx hb dL_isStep_705 (by decide) (fun c_705 => absurd e1 c_705) (fun _ => ?_)
        refine lv_aload_n hx hb dL_isStep_708 rfl (lv_at hl 6 rfl) ?_
        refine lv_bipush (v := (10 : Int32)) hx hb dL_isStep_709 (by decide) ?_
        refine zcO (n := 1) (As := [.int (10 : Int32)]) (rest := []) (Y := zW g b r U2) hx hb hml hown hts hN (kM_count l g a q (kG_step V (nI n)) (10 : Int32)) gL_isStep_X5_count rfl (by decide +kernel) ⟨rfl, rfl⟩ ⟨Nat.le_of_ble_eq_true rfl, Nat.le_of_ble_eq_true rfl⟩ hK hP hD hS hA rfl hl.1 rfl (Nat.le_of_ble_eq_true rfl) dL_isStep_711 ⟨Nat.le_of_ble_eq_true rfl, Nat.le_of_ble_eq_true rfl⟩ (fun H locs hP hD hS => ?_)
        refine lv_iload hx hb dL_isStep_714 (lv_at hl 2 rfl) ?_
        refine lv_iload hx hb dL_isStep_716 (lv_at hl 10 rfl) ?_
        refine lv_iadd hx hb dL_isStep_718 ?_
        refine lv_icmp_ne (tgt := 770) hx hb dL_isStep_719 (by decide) (fun c_719 => absurd e2 c_719) (fun _ => ?_)
        refine lv_aload_n hx hb dL_isStep_722 rfl (lv_at hl 6 rfl) ?_
        refine lv_iconst (v := (4 : Int32)) hx hb dL_isStep_723 (by decide) ?_
        refine zcO (n := 1) (As := [.int (4 : Int32)]) (rest := []) (Y := zW g b r U2) hx hb hml hown hts hN (kM_count l g a q (kG_step V (nI n)) (4 : Int32)) gL_isStep_X5_count rfl (by decide +kernel) ⟨rfl, rfl⟩ ⟨Nat.le_of_ble_eq_true rfl, Nat.le_of_ble_eq_true rfl⟩ hK hP hD hS hA rfl hl.1 rfl (Nat.le_of_ble_eq_true rfl) dL_isStep_724 ⟨Nat.le_of_ble_eq_true rfl, Nat.le_of_ble_eq_true rfl⟩ (fun H locs hP hD hS => ?_)
        refine lv_iload hx hb dL_isStep_727 (lv_at hl 1 rfl) ?_
        refine lv_iload hx hb dL_isStep_729 (lv_at hl 10 rfl) ?_
        refine lv_iadd hx hb dL_isStep_731 ?_
        refine lv_bipush (v := (16 : Int32)) hx hb dL_isStep_732 (by decide) ?_
        refine lv_irem hx hb dL_isStep_734 (by decide) ?_
        refine lv_icmp_ne (tgt := 770) hx hb dL_isStep_735 (by decide) (fun c_735 => absurd e3 c_735) (fun _ => ?_)
        refine lv_iload hx hb dL_isStep_738 (lv_at hl 0 rfl) ?_
        refine lv_iload hx hb dL_isStep_740 (lv_at hl 4 rfl) ?_
        refine lv_icmp_ne (tgt := 749) hx hb dL_isStep_742 (by decide) (fun c_742 => ?_) (fun c_742 => ?_)
        · refine lv_iconst (v := (0 : Int32)) hx hb dL_isStep_749 (by decide) ?_
          refine lv_aload_n hx hb dL_isStep_750 rfl (lv_at hl 6 rfl) ?_
          refine lv_iconst (v := (5 : Int32)) hx hb dL_isStep_751 (by decide) ?_
          refine zcO (n := 1) (As := [.int (5 : Int32)]) (rest := [.int (0 : Int32)]) (Y := zW g b r U2) hx hb hml hown hts hN (kM_count l g a q (kG_step V (nI n)) (5 : Int32)) gL_isStep_X5_count rfl (by decide +kernel) ⟨rfl, rfl⟩ ⟨Nat.le_of_ble_eq_true rfl, Nat.le_of_ble_eq_true rfl⟩ hK hP hD hS hA rfl hl.1 rfl (Nat.le_of_ble_eq_true rfl) dL_isStep_752 ⟨Nat.le_of_ble_eq_true rfl, Nat.le_of_ble_eq_true rfl⟩ (fun H locs hP hD hS => ?_)
          refine lv_if_ne (tgt := 762) hx hb dL_isStep_755 (by decide) (fun c_755 => ?_) (fun c_755 => ?_)
          · refine lv_iconst (v := (0 : Int32)) hx hb dL_isStep_762 (by decide) ?_
            refine lv_icmp_ne (tgt := 770) hx hb dL_isStep_763 (by decide) (fun c_763 => absurd (rfl) c_763) (fun _ => ?_)
            refine lv_iconst (v := (1 : Int32)) hx hb dL_isStep_766 (by decide) ?_
            refine lv_goto (tgt := 771) hx hb dL_isStep_767 (by decide) ?_
            exact hret _ _ _ _ _ _ dL_isStep_771 hJ hP hD hS
          · refine lv_iconst (v := (1 : Int32)) hx hb dL_isStep_758 (by decide) ?_
            refine lv_goto (tgt := 763) hx hb dL_isStep_759 (by decide) ?_
            exact absurd (e1.trans (e4.mpr c_755)) c_742
        · refine lv_iconst (v := (1 : Int32)) hx hb dL_isStep_745 (by decide) ?_
          refine lv_goto (tgt := 750) hx hb dL_isStep_746 (by decide) ?_
          refine lv_aload_n hx hb dL_isStep_750 rfl (lv_at hl 6 rfl) ?_
          refine lv_iconst (v := (5 : Int32)) hx hb dL_isStep_751 (by decide) ?_
          refine zcO (n := 1) (As := [.int (5 : Int32)]) (rest := [.int (1 : Int32)]) (Y := zW g b r U2) hx hb hml hown hts hN (kM_count l g a q (kG_step V (nI n)) (5 : Int32)) gL_isStep_X5_count rfl (by decide +kernel) ⟨rfl, rfl⟩ ⟨Nat.le_of_ble_eq_true rfl, Nat.le_of_ble_eq_true rfl⟩ hK hP hD hS hA rfl hl.1 rfl (Nat.le_of_ble_eq_true rfl) dL_isStep_752 ⟨Nat.le_of_ble_eq_true rfl, Nat.le_of_ble_eq_true rfl⟩ (fun H locs hP hD hS => ?_)
          refine lv_if_ne (tgt := 762) hx hb dL_isStep_755 (by decide) (fun c_755 => ?_) (fun c_755 => ?_)
          · refine lv_iconst (v := (0 : Int32)) hx hb dL_isStep_762 (by decide) ?_
            exact absurd (e4.mp (e1.symm.trans c_742)) c_755
          · refine lv_iconst (v := (1 : Int32)) hx hb dL_isStep_758 (by decide) ?_
            refine lv_goto (tgt := 763) hx hb dL_isStep_759 (by decide) ?_
            refine lv_icmp_ne (tgt := 770) hx hb dL_isStep_763 (by decide) (fun c_763 => absurd (rfl) c_763) (fun _ => ?_)
            refine lv_iconst (v := (1 : Int32)) hx hb dL_isStep_766 (by decide) ?_
            refine lv_goto (tgt := 771) hx hb dL_isStep_767 (by decide) ?_
            exact hret _ _ _ _ _ _ dL_isStep_771 hJ hP hD hS
      have L662 : ∀ (k d : Nat), d + k = n → ∀ (U2 : zPV) (H : Heap) (locs : List Loc) (ls : Array Slot), J V n d U2 → va_P g.1 vwCl (zW g a q (kG_step V (nI n)) ++ zW g b r U2) H → va_D A (zW g a q (kG_step V (nI n)) ++ zW g b r U2) → va_S A s.heap H locs → lv_has ls 12 [(9, .int (kF_step V (nI n))), (8, .int (kF_count V (4 : Int32))), (7, .int (kF_count V (10 : Int32))), (6, .int (0 : Int32)), (5, .int (nI n)), (4, .int z), (0, .ref a), (1, .ref b), (2, .int p0), (3, .int p1), (10, .int (nI d))] → W p l e rm_L_isStep s m ([.ref a, .ref b, .int p0, .int p1] : List Value).toArray below meth c H locs 0 0 Q (F0 m 662 ls []) := by
        intro k
        induction k with
        | zero =>
          intro d hd U2 H locs ls hj hP hD hS hl
          obtain ⟨hdn, okP, hs1⟩ := hR.step1 V n d U2 hj
          refine lv_iload hx hb dL_isStep_662 (lv_at hl 10 rfl) ?_
          refine lv_iload hx hb dL_isStep_664 (lv_at hl 4 rfl) ?_
          refine lv_icmp_ge (tgt := 701) hx hb dL_isStep_666 (by decide) (fun _ => ?_) (fun c_666 => absurd ((nI_leI (a := n) (b := d) (by omega) (by omega)).mpr (by omega)) c_666)
          exact K701 d U2 _ _ _ hj (Or.inl (by omega)) hP hD hS (lv_sub hl [0, 1, 2, 3, 4, 5, 6, 7, 8, 9, 10] rfl)
        | succ k ih =>
          intro d hd U2 H locs ls hj hP hD hS hl
          obtain ⟨hdn, okP, hs1⟩ := hR.step1 V n d U2 hj
          refine lv_iload hx hb dL_isStep_662 (lv_at hl 10 rfl) ?_
          refine lv_iload hx hb dL_isStep_664 (lv_at hl 4 rfl) ?_
          refine lv_icmp_ge (tgt := 701) hx hb dL_isStep_666 (by decide) (fun c_666 => absurd c_666 (fun h => absurd ((nI_leI (a := n) (b := d) (by omega) (by omega)).mp h) (by omega))) (fun _ => ?_)
          refine lv_aload_n hx hb dL_isStep_669 rfl (lv_at hl 7 rfl) ?_
          refine lv_iconst (v := (5 : Int32)) hx hb dL_isStep_670 (by decide) ?_
          refine zcT (n := 1) (As := [.int (5 : Int32)]) (rest := []) (Y := zW g a q (kG_step V (nI n))) hx hb hml hown hts hN (kM_count l g b r U2 (5 : Int32)) gL_isStep_X5_count rfl (by decide +kernel) ⟨rfl, rfl⟩ ⟨Nat.le_of_ble_eq_true rfl, Nat.le_of_ble_eq_true rfl⟩ hK hP hD hS hA rfl hl.1 rfl (Nat.le_of_ble_eq_true rfl) dL_isStep_671 ⟨Nat.le_of_ble_eq_true rfl, Nat.le_of_ble_eq_true rfl⟩ (fun H locs hP hD hS => ?_)
          refine lv_if_ne (tgt := 701) hx hb dL_isStep_674 (by decide) (fun c_674 => ?_) (fun c_674 => ?_)
          · exact K701 d U2 _ _ _ hj (Or.inr c_674) hP hD hS (lv_sub hl [0, 1, 2, 3, 4, 5, 6, 7, 8, 9, 10] rfl)
          · rcases hs1 (by omega) c_674 with ⟨s1, hj⟩ | ⟨s1, hj, hz⟩
            · refine lv_aload_n hx hb dL_isStep_677 rfl (lv_at hl 7 rfl) ?_
              refine lv_iconst (v := (1 : Int32)) hx hb dL_isStep_678 (by decide) ?_
              refine zcT (n := 1) (As := [.int (1 : Int32)]) (rest := []) (Y := zW g a q (kG_step V (nI n))) hx hb hml hown hts hN (kM_step l g b r U2 (1 : Int32) okP) gL_isStep_X5_step rfl (by decide +kernel) ⟨rfl, rfl⟩ ⟨Nat.le_of_ble_eq_true rfl, Nat.le_of_ble_eq_true rfl⟩ hK hP hD hS hA rfl hl.1 rfl (Nat.le_of_ble_eq_true rfl) dL_isStep_679 ⟨Nat.le_of_ble_eq_true rfl, Nat.le_of_ble_eq_true rfl⟩ (fun H locs hP hD hS => ?_)
              refine lv_istore (lv' := [(11, .int (kF_step U2 (1 : Int32))), (9, .int (kF_step V (nI n))), (8, .int (kF_count V (4 : Int32))), (7, .int (kF_count V (10 : Int32))), (6, .int (0 : Int32)), (5, .int (nI n)), (4, .int z), (0, .ref a), (1, .ref b), (2, .int p0), (3, .int p1), (10, .int (nI d))]) hx hb dL_isStep_682 hl (by decide) rfl (fun ls hl => ?_)
              refine lv_iload hx hb dL_isStep_684 (lv_at hl 11 rfl) ?_
              refine lv_iload hx hb dL_isStep_686 (lv_at hl 0 rfl) ?_
              refine lv_iadd hx hb dL_isStep_688 ?_
              refine lv_istore (lv' := [(10, .int ((nI d) + (kF_step U2 (1 : Int32)))), (11, .int (kF_step U2 (1 : Int32))), (9, .int (kF_step V (nI n))), (8, .int (kF_count V (4 : Int32))), (7, .int (kF_count V (10 : Int32))), (6, .int (0 : Int32)), (5, .int (nI n)), (4, .int z), (0, .ref a), (1, .ref b), (2, .int p0), (3, .int p1)]) hx hb dL_isStep_689 hl (by decide) rfl (fun ls hl => ?_)
              rw [s1] at hl
              rw [nI_1] at hl
              refine lv_iload hx hb dL_isStep_691 (lv_at hl 1 rfl) ?_
              refine lv_if_ge (tgt := 698) hx hb dL_isStep_693 (by decide) (fun _ => ?_) (fun c_693 => absurd (by decide) c_693)
              refine lv_goto (tgt := 662) hx hb dL_isStep_698 (by decide) ?_
              exact ih (d + 1) (by omega) (kG_step U2 (1 : Int32)) _ _ _ hj hP hD hS (lv_sub hl [2, 3, 4, 5, 6, 7, 8, 9, 10, 11, 0] rfl)
            · refine lv_aload_n hx hb dL_isStep_677 rfl (lv_at hl 7 rfl) ?_
              refine lv_iconst (v := (1 : Int32)) hx hb dL_isStep_678 (by decide) ?_
              refine zcT (n := 1) (As := [.int (1 : Int32)]) (rest := []) (Y := zW g a q (kG_step V (nI n))) hx hb hml hown hts hN (kM_step l g b r U2 (1 : Int32) okP) gL_isStep_X5_step rfl (by decide +kernel) ⟨rfl, rfl⟩ ⟨Nat.le_of_ble_eq_true rfl, Nat.le_of_ble_eq_true rfl⟩ hK hP hD hS hA rfl hl.1 rfl (Nat.le_of_ble_eq_true rfl) dL_isStep_679 ⟨Nat.le_of_ble_eq_true rfl, Nat.le_of_ble_eq_true rfl⟩ (fun H locs hP hD hS => ?_)
              refine lv_istore (lv' := [(11, .int (kF_step U2 (1 : Int32))), (9, .int (kF_step V (nI n))), (8, .int (kF_count V (4 : Int32))), (7, .int (kF_count V (10 : Int32))), (6, .int (0 : Int32)), (5, .int (nI n)), (4, .int z), (0, .ref a), (1, .ref b), (2, .int p0), (3, .int p1), (10, .int (nI d))]) hx hb dL_isStep_682 hl (by decide) rfl (fun ls hl => ?_)
              refine lv_iload hx hb dL_isStep_684 (lv_at hl 11 rfl) ?_
              refine lv_iload hx hb dL_isStep_686 (lv_at hl 0 rfl) ?_
              refine lv_iadd hx hb dL_isStep_688 ?_
              refine lv_istore (lv' := [(10, .int ((nI d) + (kF_step U2 (1 : Int32)))), (11, .int (kF_step U2 (1 : Int32))), (9, .int (kF_step V (nI n))), (8, .int (kF_count V (4 : Int32))), (7, .int (kF_count V (10 : Int32))), (6, .int (0 : Int32)), (5, .int (nI n)), (4, .int z), (0, .ref a), (1, .ref b), (2, .int p0), (3, .int p1)]) hx hb dL_isStep_689 hl (by decide) rfl (fun ls hl => ?_)
              rw [s1] at hl
              rw [Int32.add_zero] at hl
              refine lv_iload hx hb dL_isStep_691 (lv_at hl 1 rfl) ?_
              refine lv_if_ge (tgt := 698) hx hb dL_isStep_693 (by decide) (fun _ => ?_) (fun c_693 => absurd (by decide) c_693)
              refine lv_goto (tgt := 662) hx hb dL_isStep_698 (by decide) ?_
              have okP := (hR.step1 V n d _ hj).2.1
              refine lv_iload hx hb dL_isStep_662 (lv_at hl 0 rfl) ?_
              refine lv_iload hx hb dL_isStep_664 (lv_at hl 6 rfl) ?_
              refine lv_icmp_ge (tgt := 701) hx hb dL_isStep_666 (by decide) (fun c_666 => absurd c_666 (fun h => absurd ((nI_leI (a := n) (b := d) (by omega) (by omega)).mp h) (by omega))) (fun _ => ?_)
              refine lv_aload_n hx hb dL_isStep_669 rfl (lv_at hl 9 rfl) ?_
              refine lv_iconst (v := (5 : Int32)) hx hb dL_isStep_670 (by decide) ?_
              refine zcT (n := 1) (As := [.int (5 : Int32)]) (rest := []) (Y := zW g a q (kG_step V (nI n))) hx hb hml hown hts hN (kM_count l g b r (kG_step U2 (1 : Int32)) (5 : Int32)) gL_isStep_X5_count rfl (by decide +kernel) ⟨rfl, rfl⟩ ⟨Nat.le_of_ble_eq_true rfl, Nat.le_of_ble_eq_true rfl⟩ hK hP hD hS hA rfl hl.1 rfl (Nat.le_of_ble_eq_true rfl) dL_isStep_671 ⟨Nat.le_of_ble_eq_true rfl, Nat.le_of_ble_eq_true rfl⟩ (fun H locs hP hD hS => ?_)
              refine lv_if_ne (tgt := 701) hx hb dL_isStep_674 (by decide) (fun _ => ?_) (fun c_674 => absurd c_674 hz)
              exact K701 d (kG_step U2 (1 : Int32)) _ _ _ hj (Or.inr hz) hP hD hS (lv_sub hl [2, 3, 4, 5, 6, 7, 8, 9, 10, 11, 0] rfl)
      exact L662 n 0 (by omega) U _ _ _ hj hP hD hS (lv_sub hl [1, 2, 3, 4, 5, 6, 7, 8, 9, 10, 0] rfl)
  refine lv_iconst (v := (1 : Int32)) hx hb dL_isStep_566 (by decide) ?_
  refine lv_iload_n hx hb dL_isStep_567 rfl (lv_at hl 4 rfl) ?_
  refine lv_iload hx hb dL_isStep_568 (lv_at hl 0 rfl) ?_
  refine lv_iconst (v := (5 : Int32)) hx hb dL_isStep_570 (by decide) ?_
  refine zcSi (n := 2) (As := [.int z, .int (5 : Int32)]) (rest := [.int p1, .int (1 : Int32)]) hx hb hml hown hts hN (m_L_up l g z (5 : Int32) (by decide)) gL_isStep_L_up rfl (by decide +kernel) ⟨rfl, rfl⟩ ⟨Nat.le_of_ble_eq_true rfl, Nat.le_of_ble_eq_true rfl⟩ hK hP hD hS hA rfl hl.1 rfl (Nat.le_of_ble_eq_true rfl) dL_isStep_571 ⟨Nat.zero_le _, Nat.zero_le _⟩ (fun H locs hP hD hS => ?_)
  refine lv_if_ne (tgt := 583) hx hb dL_isStep_574 (by decide) (fun c_574 => ?_) (fun c_574 => ?_)
  · refine lv_bipush (v := (12 : Int32)) hx hb dL_isStep_583 (by decide) ?_
    refine zcSi (n := 2) (As := [.int p1, .int (12 : Int32)]) (rest := [.int (1 : Int32)]) hx hb hml hown hts hN (m_L_up l g p1 (12 : Int32) (by decide)) gL_isStep_L_up rfl (by decide +kernel) ⟨rfl, rfl⟩ ⟨Nat.le_of_ble_eq_true rfl, Nat.le_of_ble_eq_true rfl⟩ hK hP hD hS hA rfl hl.1 rfl (Nat.le_of_ble_eq_true rfl) dL_isStep_585 ⟨Nat.zero_le _, Nat.zero_le _⟩ (fun H locs hP hD hS => ?_)
    refine lv_iadd hx hb dL_isStep_588 ?_
    refine lv_istore (lv' := [(5, .int ((1 : Int32) + (f_L_up p1 (12 : Int32)))), (4, .int z), (0, .ref a), (1, .ref b), (2, .int p0), (3, .int p1)]) hx hb dL_isStep_589 hl (by decide) rfl (fun ls hl => ?_)
    obtain ⟨n, h1, h2, en⟩ := zup1 p1 (12 : Int32) (n := 12) rfl (by omega) (by omega)
    rw [en] at hl
    exact K591 n _ _ _ h1 (by omega) hP hD hS (lv_sub hl [0, 1, 2, 3, 4, 5] rfl)
  · refine lv_sipush (v := (200 : Int32)) hx hb dL_isStep_577 (by decide) ?_
    refine lv_goto (tgt := 585) hx hb dL_isStep_580 (by decide) ?_
    refine zcSi (n := 2) (As := [.int p1, .int (200 : Int32)]) (rest := [.int (1 : Int32)]) hx hb hml hown hts hN (m_L_up l g p1 (200 : Int32) (by decide)) gL_isStep_L_up rfl (by decide +kernel) ⟨rfl, rfl⟩ ⟨Nat.le_of_ble_eq_true rfl, Nat.le_of_ble_eq_true rfl⟩ hK hP hD hS hA rfl hl.1 rfl (Nat.le_of_ble_eq_true rfl) dL_isStep_585 ⟨Nat.zero_le _, Nat.zero_le _⟩ (fun H locs hP hD hS => ?_)
    refine lv_iadd hx hb dL_isStep_588 ?_
    refine lv_istore (lv' := [(5, .int ((1 : Int32) + (f_L_up p1 (200 : Int32)))), (4, .int z), (0, .ref a), (1, .ref b), (2, .int p0), (3, .int p1)]) hx hb dL_isStep_589 hl (by decide) rfl (fun ls hl => ?_)
    obtain ⟨n, h1, h2, en⟩ := zup1 p1 (200 : Int32) (n := 200) rfl (by omega) (by omega)
    rw [en] at hl
    exact K591 n _ _ _ h1 (by omega) hP hD hS (lv_sub hl [0, 1, 2, 3, 4, 5] rfl)
set_option maxRecDepth 100000 in
set_option maxHeartbeats 4000000 in
theorem zis_peg {p : Program} {l : Launch} {e : Env} {s : State} {m : MethodId} {below : List Frame} {meth : Method} {c : Code} {Q : State → Prop} {g : zG} {A : Nat → Prop} {a b : Nat} {q r : zAd} {V U : zPV} {I I2 : zRel2} {J : zRel3} {p0 p1 z : Int32} (hx : p.tables.exec = Jvm.exec) (hb : c.code = cL_isStep) (hml : c.maxLocals = 12) (hown : s.vm.findClass RL = some m.cls) (hts : ∀ w ∈ wsL_isStep, w.before ([.ref a, .ref b, .int p0, .int p1] : List Value).toArray s = true) (hA : ∀ q : Nat, s.heap.size ≤ q → A q) (hN : zN s) (hK : va_K g.1 vwCl (zTy g) s) (hGS : zGS A s s.heap) (hR : zS2 I I2 J) (hI : I V U) (hret : ∀ (V U : zPV) (H : Heap) (locs : List Loc) (ls : Array Slot) (pc : Nat), decode cL_isStep pc = .ok (.ireturn, 1) → I2 V U → va_P g.1 vwCl (zW g a q V ++ zW g b r U) H → va_D A (zW g a q V ++ zW g b r U) → va_S A s.heap H locs → W p l e rm_L_isStep s m ([.ref a, .ref b, .int p0, .int p1] : List Value).toArray below meth c H locs 0 0 Q (F0 m pc ls [.int 1])) : ∀ (H : Heap) (locs : List Loc) (ls : Array Slot), va_P g.1 vwCl (zW g a q V ++ zW g b r U) H → va_D A (zW g a q V ++ zW g b r U) → va_S A s.heap H locs → lv_has ls 12 [(4, .int z), (0, .ref a), (1, .ref b), (2, .int p0), (3, .int p1)] → W p l e rm_L_isStep s m ([.ref a, .ref b, .int p0, .int p1] : List Value).toArray below meth c H locs 0 0 Q (F0 m 772 ls []) := by
  intro H locs ls hP hD hS hl
  have okO := (hR.ok _ _ hI).1
  have okP := (hR.ok _ _ hI).2
  refine lv_iload hx hb dL_isStep_772 (lv_at hl 0 rfl) ?_
  refine lv_bipush (v := (16 : Int32)) hx hb dL_isStep_774 (by decide) ?_
  refine zcSi (n := 2) (As := [.int z, .int (16 : Int32)]) (rest := []) hx hb hml hown hts hN (m_L_up l g z (16 : Int32) (by decide)) gL_isStep_L_up rfl (by decide +kernel) ⟨rfl, rfl⟩ ⟨Nat.le_of_ble_eq_true rfl, Nat.le_of_ble_eq_true rfl⟩ hK hP hD hS hA rfl hl.1 rfl (Nat.le_of_ble_eq_true rfl) dL_isStep_776 ⟨Nat.zero_le _, Nat.zero_le _⟩ (fun H locs hP hD hS => ?_)
  refine lv_istore (lv' := [(5, .int (f_L_up z (16 : Int32))), (4, .int z), (0, .ref a), (1, .ref b), (2, .int p0), (3, .int p1)]) hx hb dL_isStep_779 hl (by decide) rfl (fun ls hl => ?_)
  refine lv_iload_n hx hb dL_isStep_781 rfl (lv_at hl 5 rfl) ?_
  refine lv_bipush (v := (6 : Int32)) hx hb dL_isStep_782 (by decide) ?_
  refine zcSi (n := 2) (As := [.int p1, .int (6 : Int32)]) (rest := []) hx hb hml hown hts hN (m_L_up l g p1 (6 : Int32) (by decide)) gL_isStep_L_up rfl (by decide +kernel) ⟨rfl, rfl⟩ ⟨Nat.le_of_ble_eq_true rfl, Nat.le_of_ble_eq_true rfl⟩ hK hP hD hS hA rfl hl.1 rfl (Nat.le_of_ble_eq_true rfl) dL_isStep_784 ⟨Nat.zero_le _, Nat.zero_le _⟩ (fun H locs hP hD hS => ?_)
  refine lv_istore (lv' := [(6, .int (f_L_up p1 (6 : Int32))), (5, .int (f_L_up z (16 : Int32))), (4, .int z), (0, .ref a), (1, .ref b), (2, .int p0), (3, .int p1)]) hx hb dL_isStep_787 hl (by decide) rfl (fun ls hl => ?_)
  obtain ⟨x5, hx5, e_x5⟩ : ∃ y, vp_in y 16 ∧ (f_L_up z (16 : Int32)) = y := ⟨_, (zupin z (16 : Int32) (n := 16) rfl (by omega) (by omega)), rfl⟩
  rw [e_x5] at hl
  obtain ⟨x6, hx6, e_x6⟩ : ∃ y, vp_in y 6 ∧ (f_L_up p1 (6 : Int32)) = y := ⟨_, (zupin p1 (6 : Int32) (n := 6) rfl (by omega) (by omega)), rfl⟩
  rw [e_x6] at hl
  obtain ⟨f1, hJ, f2⟩ := hR.peg V U x5 x6 hI hx5 hx6
  rcases f2 with ⟨g1, g2, g3⟩ | ⟨g1, g2, g3⟩
  · refine lv_aload_n hx hb dL_isStep_789 rfl (lv_at hl 3 rfl) ?_
    refine lv_iload hx hb dL_isStep_790 (lv_at hl 1 rfl) ?_
    refine lv_iload hx hb dL_isStep_792 (lv_at hl 0 rfl) ?_
    refine zcO (n := 2) (As := [.int x5, .int x6]) (rest := []) (Y := zW g b r U) hx hb hml hown hts hN (kM_stamped l g a q V x5 x6) gL_isStep_X5_stamped rfl (by decide +kernel) ⟨rfl, rfl⟩ ⟨Nat.le_of_ble_eq_true rfl, Nat.le_of_ble_eq_true rfl⟩ hK hP hD hS hA rfl hl.1 rfl (Nat.le_of_ble_eq_true rfl) dL_isStep_794 ⟨Nat.le_of_ble_eq_true rfl, Nat.le_of_ble_eq_true rfl⟩ (fun H locs hP hD hS => ?_)
    refine lv_if_lt (tgt := 804) hx hb dL_isStep_797 (by decide) (fun _ => ?_) (fun c_797 => absurd g1 c_797)
    refine lv_iconst (v := (0 : Int32)) hx hb dL_isStep_804 (by decide) ?_
    refine lv_istore (lv' := [(7, .int (0 : Int32)), (6, .int x6), (5, .int x5), (4, .int z), (0, .ref a), (1, .ref b), (2, .int p0), (3, .int p1)]) hx hb dL_isStep_805 hl (by decide) rfl (fun ls hl => ?_)
    refine lv_aload_n hx hb dL_isStep_807 rfl (lv_at hl 4 rfl) ?_
    refine lv_iload hx hb dL_isStep_808 (lv_at hl 2 rfl) ?_
    refine lv_iconst (v := (1 : Int32)) hx hb dL_isStep_810 (by decide) ?_
    refine zcO (n := 2) (As := [.int x5, .int (1 : Int32)]) (rest := []) (Y := zW g b r U) hx hb hml hown hts hN (kM_row l g a q V x5 (1 : Int32)) gL_isStep_X5_row rfl (by decide +kernel) ⟨rfl, rfl⟩ ⟨Nat.le_of_ble_eq_true rfl, Nat.le_of_ble_eq_true rfl⟩ hK hP hD hS hA rfl hl.1 rfl (Nat.le_of_ble_eq_true rfl) dL_isStep_811 ⟨Nat.le_of_ble_eq_true rfl, Nat.le_of_ble_eq_true rfl⟩ (fun H locs hP hD hS => ?_)
    refine lv_istore (lv' := [(8, .int (kF_row V x5 (1 : Int32))), (7, .int (0 : Int32)), (6, .int x6), (5, .int x5), (4, .int z), (0, .ref a), (1, .ref b), (2, .int p0), (3, .int p1)]) hx hb dL_isStep_814 hl (by decide) rfl (fun ls hl => ?_)
    refine lv_aload_n hx hb dL_isStep_816 rfl (lv_at hl 5 rfl) ?_
    refine lv_iload hx hb dL_isStep_817 (lv_at hl 3 rfl) ?_
    refine lv_iload hx hb dL_isStep_819 (lv_at hl 2 rfl) ?_
    refine zcO (n := 2) (As := [.int x5, .int x6]) (rest := []) (Y := zW g b r U) hx hb hml hown hts hN (kM_peg l g a q V x5 x6 okO) gL_isStep_X5_peg rfl (by decide +kernel) ⟨rfl, rfl⟩ ⟨Nat.le_of_ble_eq_true rfl, Nat.le_of_ble_eq_true rfl⟩ hK hP hD hS hA rfl hl.1 rfl (Nat.le_of_ble_eq_true rfl) dL_isStep_821 ⟨Nat.le_of_ble_eq_true rfl, Nat.le_of_ble_eq_true rfl⟩ (fun H locs hP hD hS => ?_)
    refine lv_istore (lv' := [(9, .int (kF_peg V x5 x6)), (8, .int (kF_row V x5 (1 : Int32))), (7, .int (0 : Int32)), (6, .int x6), (5, .int x5), (4, .int z), (0, .ref a), (1, .ref b), (2, .int p0), (3, .int p1)]) hx hb dL_isStep_824 hl (by decide) rfl (fun ls hl => ?_)
    refine lv_iload hx hb dL_isStep_826 (lv_at hl 0 rfl) ?_
    refine lv_aload_n hx hb dL_isStep_828 rfl (lv_at hl 7 rfl) ?_
    refine lv_iload hx hb dL_isStep_829 (lv_at hl 4 rfl) ?_
    refine lv_iconst (v := (5 : Int32)) hx hb dL_isStep_831 (by decide) ?_
    refine lv_iload hx hb dL_isStep_832 (lv_at hl 3 rfl) ?_
    refine lv_isub hx hb dL_isStep_834 ?_
    refine zcT (n := 2) (As := [.int x5, .int ((5 : Int32) - x6)]) (rest := [.int (kF_peg V x5 x6)]) (Y := zW g a q (kG_peg V x5 x6)) hx hb hml hown hts hN (kM_peg l g b r U x5 ((5 : Int32) - x6) okP) gL_isStep_X5_peg rfl (by decide +kernel) ⟨rfl, rfl⟩ ⟨Nat.le_of_ble_eq_true rfl, Nat.le_of_ble_eq_true rfl⟩ hK hP hD hS hA rfl hl.1 rfl (Nat.le_of_ble_eq_true rfl) dL_isStep_835 ⟨Nat.le_of_ble_eq_true rfl, Nat.le_of_ble_eq_true rfl⟩ (fun H locs hP hD hS => ?_)
    refine lv_icmp_ne (tgt := 885) hx hb dL_isStep_838 (by decide) (fun c_838 => absurd f1 c_838) (fun _ => ?_)
    refine lv_iload hx hb dL_isStep_841 (lv_at hl 0 rfl) ?_
    refine lv_iload hx hb dL_isStep_843 (lv_at hl 1 rfl) ?_
    refine lv_iload hx hb dL_isStep_845 (lv_at hl 2 rfl) ?_
    refine lv_if_eq (tgt := 854) hx hb dL_isStep_847 (by decide) (fun _ => ?_) (fun c_847 => absurd (rfl) c_847)
    refine lv_iconst (v := (1 : Int32)) hx hb dL_isStep_854 (by decide) ?_
    refine lv_iadd hx hb dL_isStep_855 ?_
    refine lv_icmp_ne (tgt := 885) hx hb dL_isStep_856 (by decide) (fun c_856 => absurd g2 c_856) (fun _ => ?_)
    refine lv_aload_n hx hb dL_isStep_859 rfl (lv_at hl 6 rfl) ?_
    refine lv_iload hx hb dL_isStep_860 (lv_at hl 4 rfl) ?_
    refine lv_iload hx hb dL_isStep_862 (lv_at hl 3 rfl) ?_
    refine zcO (n := 2) (As := [.int x5, .int x6]) (rest := []) (Y := zW g b r (kG_peg U x5 ((5 : Int32) - x6))) hx hb hml hown hts hN (kM_stamped l g a q (kG_peg V x5 x6) x5 x6) gL_isStep_X5_stamped rfl (by decide +kernel) ⟨rfl, rfl⟩ ⟨Nat.le_of_ble_eq_true rfl, Nat.le_of_ble_eq_true rfl⟩ hK hP hD hS hA rfl hl.1 rfl (Nat.le_of_ble_eq_true rfl) dL_isStep_864 ⟨Nat.le_of_ble_eq_true rfl, Nat.le_of_ble_eq_true rfl⟩ (fun H locs hP hD hS => ?_)
    refine lv_iload hx hb dL_isStep_867 (lv_at hl 2 rfl) ?_
    refine lv_if_eq (tgt := 877) hx hb dL_isStep_869 (by decide) (fun _ => ?_) (fun c_869 => absurd (rfl) c_869)
    refine lv_iconst (v := (0 : Int32)) hx hb dL_isStep_877 (by decide) ?_
    refine lv_icmp_ne (tgt := 885) hx hb dL_isStep_878 (by decide) (fun c_878 => absurd g3 c_878) (fun _ => ?_)
    refine lv_iconst (v := (1 : Int32)) hx hb dL_isStep_881 (by decide) ?_
    refine lv_goto (tgt := 886) hx hb dL_isStep_882 (by decide) ?_
    exact hret _ _ _ _ _ _ dL_isStep_886 (hR.mono _ _ hJ) hP hD hS
  · refine lv_aload_n hx hb dL_isStep_789 rfl (lv_at hl 3 rfl) ?_
    refine lv_iload hx hb dL_isStep_790 (lv_at hl 1 rfl) ?_
    refine lv_iload hx hb dL_isStep_792 (lv_at hl 0 rfl) ?_
    refine zcO (n := 2) (As := [.int x5, .int x6]) (rest := []) (Y := zW g b r U) hx hb hml hown hts hN (kM_stamped l g a q V x5 x6) gL_isStep_X5_stamped rfl (by decide +kernel) ⟨rfl, rfl⟩ ⟨Nat.le_of_ble_eq_true rfl, Nat.le_of_ble_eq_true rfl⟩ hK hP hD hS hA rfl hl.1 rfl (Nat.le_of_ble_eq_true rfl) dL_isStep_794 ⟨Nat.le_of_ble_eq_true rfl, Nat.le_of_ble_eq_true rfl⟩ (fun H locs hP hD hS => ?_)
    refine lv_if_lt (tgt := 804) hx hb dL_isStep_797 (by decide) (fun c_797 => absurd c_797 g1) (fun _ => ?_)
    refine lv_iconst (v := (1 : Int32)) hx hb dL_isStep_800 (by decide) ?_
    refine lv_goto (tgt := 805) hx hb dL_isStep_801 (by decide) ?_
    refine lv_istore (lv' := [(7, .int (1 : Int32)), (6, .int x6), (5, .int x5), (4, .int z), (0, .ref a), (1, .ref b), (2, .int p0), (3, .int p1)]) hx hb dL_isStep_805 hl (by decide) rfl (fun ls hl => ?_)
    refine lv_aload_n hx hb dL_isStep_807 rfl (lv_at hl 4 rfl) ?_
    refine lv_iload hx hb dL_isStep_808 (lv_at hl 2 rfl) ?_
    refine lv_iconst (v := (1 : Int32)) hx hb dL_isStep_810 (by decide) ?_
    refine zcO (n := 2) (As := [.int x5, .int (1 : Int32)]) (rest := []) (Y := zW g b r U) hx hb hml hown hts hN (kM_row l g a q V x5 (1 : Int32)) gL_isStep_X5_row rfl (by decide +kernel) ⟨rfl, rfl⟩ ⟨Nat.le_of_ble_eq_true rfl, Nat.le_of_ble_eq_true rfl⟩ hK hP hD hS hA rfl hl.1 rfl (Nat.le_of_ble_eq_true rfl) dL_isStep_811 ⟨Nat.le_of_ble_eq_true rfl, Nat.le_of_ble_eq_true rfl⟩ (fun H locs hP hD hS => ?_)
    refine lv_istore (lv' := [(8, .int (kF_row V x5 (1 : Int32))), (7, .int (1 : Int32)), (6, .int x6), (5, .int x5), (4, .int z), (0, .ref a), (1, .ref b), (2, .int p0), (3, .int p1)]) hx hb dL_isStep_814 hl (by decide) rfl (fun ls hl => ?_)
    refine lv_aload_n hx hb dL_isStep_816 rfl (lv_at hl 5 rfl) ?_
    refine lv_iload hx hb dL_isStep_817 (lv_at hl 3 rfl) ?_
    refine lv_iload hx hb dL_isStep_819 (lv_at hl 2 rfl) ?_
    refine zcO (n := 2) (As := [.int x5, .int x6]) (rest := []) (Y := zW g b r U) hx hb hml hown hts hN (kM_peg l g a q V x5 x6 okO) gL_isStep_X5_peg rfl (by decide +kernel) ⟨rfl, rfl⟩ ⟨Nat.le_of_ble_eq_true rfl, Nat.le_of_ble_eq_true rfl⟩ hK hP hD hS hA rfl hl.1 rfl (Nat.le_of_ble_eq_true rfl) dL_isStep_821 ⟨Nat.le_of_ble_eq_true rfl, Nat.le_of_ble_eq_true rfl⟩ (fun H locs hP hD hS => ?_)
    refine lv_istore (lv' := [(9, .int (kF_peg V x5 x6)), (8, .int (kF_row V x5 (1 : Int32))), (7, .int (1 : Int32)), (6, .int x6), (5, .int x5), (4, .int z), (0, .ref a), (1, .ref b), (2, .int p0), (3, .int p1)]) hx hb dL_isStep_824 hl (by decide) rfl (fun ls hl => ?_)
    refine lv_iload hx hb dL_isStep_826 (lv_at hl 0 rfl) ?_
    refine lv_aload_n hx hb dL_isStep_828 rfl (lv_at hl 7 rfl) ?_
    refine lv_iload hx hb dL_isStep_829 (lv_at hl 4 rfl) ?_
    refine lv_iconst (v := (5 : Int32)) hx hb dL_isStep_831 (by decide) ?_
    refine lv_iload hx hb dL_isStep_832 (lv_at hl 3 rfl) ?_
    refine lv_isub hx hb dL_isStep_834 ?_
    refine zcT (n := 2) (As := [.int x5, .int ((5 : Int32) - x6)]) (rest := [.int (kF_peg V x5 x6)]) (Y := zW g a q (kG_peg V x5 x6)) hx hb hml hown hts hN (kM_peg l g b r U x5 ((5 : Int32) - x6) okP) gL_isStep_X5_peg rfl (by decide +kernel) ⟨rfl, rfl⟩ ⟨Nat.le_of_ble_eq_true rfl, Nat.le_of_ble_eq_true rfl⟩ hK hP hD hS hA rfl hl.1 rfl (Nat.le_of_ble_eq_true rfl) dL_isStep_835 ⟨Nat.le_of_ble_eq_true rfl, Nat.le_of_ble_eq_true rfl⟩ (fun H locs hP hD hS => ?_)
    refine lv_icmp_ne (tgt := 885) hx hb dL_isStep_838 (by decide) (fun c_838 => absurd f1 c_838) (fun _ => ?_)
    refine lv_iload hx hb dL_isStep_841 (lv_at hl 0 rfl) ?_
    refine lv_iload hx hb dL_isStep_843 (lv_at hl 1 rfl) ?_
    refine lv_iload hx hb dL_isStep_845 (lv_at hl 2 rfl) ?_
    refine lv_if_eq (tgt := 854) hx hb dL_isStep_847 (by decide) (fun c_847 => absurd c_847 (by decide)) (fun _ => ?_)
    refine lv_iconst (v := (-1 : Int32)) hx hb dL_isStep_850 (by decide) ?_
    refine lv_goto (tgt := 855) hx hb dL_isStep_851 (by decide) ?_
    refine lv_iadd hx hb dL_isStep_855 ?_
    refine lv_icmp_ne (tgt := 885) hx hb dL_isStep_856 (by decide) (fun c_856 => absurd g2 c_856) (fun _ => ?_)
    refine lv_aload_n hx hb dL_isStep_859 rfl (lv_at hl 6 rfl) ?_
    refine lv_iload hx hb dL_isStep_860 (lv_at hl 4 rfl) ?_
    refine lv_iload hx hb dL_isStep_862 (lv_at hl 3 rfl) ?_
    refine zcO (n := 2) (As := [.int x5, .int x6]) (rest := []) (Y := zW g b r (kG_peg U x5 ((5 : Int32) - x6))) hx hb hml hown hts hN (kM_stamped l g a q (kG_peg V x5 x6) x5 x6) gL_isStep_X5_stamped rfl (by decide +kernel) ⟨rfl, rfl⟩ ⟨Nat.le_of_ble_eq_true rfl, Nat.le_of_ble_eq_true rfl⟩ hK hP hD hS hA rfl hl.1 rfl (Nat.le_of_ble_eq_true rfl) dL_isStep_864 ⟨Nat.le_of_ble_eq_true rfl, Nat.le_of_ble_eq_true rfl⟩ (fun H locs hP hD hS => ?_)
    refine lv_iload hx hb dL_isStep_867 (lv_at hl 2 rfl) ?_
    refine lv_if_eq (tgt := 877) hx hb dL_isStep_869 (by decide) (fun c_869 => absurd c_869 (by decide)) (fun _ => ?_)
    refine lv_bipush (v := (-6 : Int32)) hx hb dL_isStep_872 (by decide) ?_
    refine lv_goto (tgt := 878) hx hb dL_isStep_874 (by decide) ?_
    refine lv_icmp_ne (tgt := 885) hx hb dL_isStep_878 (by decide) (fun c_878 => absurd g3 c_878) (fun _ => ?_)
    refine lv_iconst (v := (1 : Int32)) hx hb dL_isStep_881 (by decide) ?_
    refine lv_goto (tgt := 886) hx hb dL_isStep_882 (by decide) ?_
    exact hret _ _ _ _ _ _ dL_isStep_886 (hR.mono _ _ hJ) hP hD hS
