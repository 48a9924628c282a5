/-! The law from its entry: the classes' numbers, the two static rows, the two objects, the loop. -/
set_option maxRecDepth 20000 in
theorem zNl_in : ∀ w ∈ zNl, w ∈ lw_tbl := zin_r _ [23, 29, 55, 132, 138, 152, 347, 352] (by decide +kernel)
set_option maxRecDepth 20000 in
theorem zst_in : ∀ w ∈ ([.laysStatic RX5 "LEAST" "[I", .laysStatic RX5 "MOST" "[I", .arrayOver (.object RX0), .initialized RX5] : List Cond), w ∈ lw_tbl := zin_r _ [226, 228, 137, 4] (by decide +kernel)
theorem zNl_tab : ∀ w ∈ zNl, w.onTables = true := by
  intro w hw
  simp only [zNl, List.mem_cons, List.not_mem_nil, or_false] at hw
  rcases hw with rfl | rfl | rfl | rfl | rfl | rfl | rfl | rfl <;> rfl
set_option maxRecDepth 20000 in
theorem zGS_of {A : Nat → Prop} {b : Nat} {s : State} (hts : ∀ w ∈ lw_tbl, w.before #[Value.ref b] s = true) (hgv : (Jvm.Cond.and given_1 narrow_1).before #[Value.ref b] s = true) (hA : ∀ q : Nat, q < s.heap.size → ¬ A q) : zGS A s s.heap := by
  have hs := flat_of_before _ hgv
  have hini := hts (.initialized RX5) (zst_in _ (by simp))
  obtain ⟨t1, e1, h1⟩ := va_Tof (args := #[Value.ref b]) (s := s) (tm := .static RX5 "LEAST" "[I") (ty := .int) (N := 4) (f := fun j => .int (zLe j)) (A := A) (by decide) (hs _ (by decide +kernel)) (va_eqt (z := 4) (hs _ (by decide +kernel)))
    (fun j hj => by rcases (show j = 0 ∨ j = 1 ∨ j = 2 ∨ j = 3 by omega) with rfl | rfl | rfl | rfl
                    · exact va_eqt (z := 1) (t := .elem (.static RX5 "LEAST" "[I") (.int 0)) (hs _ (by decide +kernel))
                    · exact va_eqt (z := 0) (t := .elem (.static RX5 "LEAST" "[I") (.int 1)) (hs _ (by decide +kernel))
                    · exact va_eqt (z := 0) (t := .elem (.static RX5 "LEAST" "[I") (.int 2)) (hs _ (by decide +kernel))
                    · exact va_eqt (z := 1) (t := .elem (.static RX5 "LEAST" "[I") (.int 3)) (hs _ (by decide +kernel))) hA
  obtain ⟨t2, e2, h2⟩ := va_Tof (args := #[Value.ref b]) (s := s) (tm := .static RX5 "MOST" "[I") (ty := .int) (N := 4) (f := fun j => .int (zMs j)) (A := A) (by decide) (hs _ (by decide +kernel)) (va_eqt (z := 4) (hs _ (by decide +kernel)))
    (fun j hj => by rcases (show j = 0 ∨ j = 1 ∨ j = 2 ∨ j = 3 by omega) with rfl | rfl | rfl | rfl
                    · exact va_eqt (z := 8) (t := .elem (.static RX5 "MOST" "[I") (.int 0)) (hs _ (by decide +kernel))
                    · exact va_eqt (z := 9) (t := .elem (.static RX5 "MOST" "[I") (.int 1)) (hs _ (by decide +kernel))
                    · exact va_eqt (z := 99) (t := .elem (.static RX5 "MOST" "[I") (.int 2)) (hs _ (by decide +kernel))
                    · exact va_eqt (z := 4) (t := .elem (.static RX5 "MOST" "[I") (.int 3)) (hs _ (by decide +kernel))) hA
  exact ⟨t1, t2, va_Zof (hts _ (zst_in _ (by simp))) hini e1 hA, h1, va_Zof (hts _ (zst_in _ (by simp))) hini e2 hA, h2⟩
set_option maxRecDepth 100000 in
set_option maxHeartbeats 4000000 in
theorem zg_of {b : Nat} {s : State} (hts : ∀ w ∈ lw_tbl, w.before #[Value.ref b] s = true) : ∃ g : zG, va_K g.1 vwCl (zTy g) s := by
  have ht2 : ∀ w ∈ wsL_law, w.before #[Value.ref b] s = true := fun w h => hts w (wsL_law_in w h)
  obtain ⟨c0, j0, k0⟩ := u_known (C := RX0) (T := TX0) (N := 13) (n := 13) ht2 inlX0 (ht2 (.instantiable RX0 13) (by decide +kernel))
  obtain ⟨c1, j1, k1⟩ := u_known (C := RX1) (T := TX1) (N := 4) (n := 4) ht2 inlX1 (ht2 (.instantiable RX1 4) (by decide +kernel))
  obtain ⟨c2, j2, k2⟩ := u_known (C := RX2) (T := TX2) (N := 3) (n := 3) ht2 inlX2 (ht2 (.instantiable RX2 3) (by decide +kernel))
  obtain ⟨c3, j3, k3⟩ := u_known (C := RX3) (T := TX3) (N := 2) (n := 2) ht2 inlX3 (ht2 (.instantiable RX3 2) (by decide +kernel))
  obtain ⟨c4, j4, k4⟩ := u_known (C := RX4) (T := TX4) (N := 4) (n := 4) ht2 inlX4 (ht2 (.instantiable RX4 4) (by decide +kernel))
  obtain ⟨c5, j5, k5⟩ := u_known (C := RX5) (T := TX5) (N := 6) (n := 6) ht2 inlX5 (ht2 (.instantiable RX5 6) (by decide +kernel))
  obtain ⟨cI, kI, pI, i1, i2, i3⟩ := Cond.arrayClass_spec (ht2 (.arrayClass .int) (by decide +kernel))
  obtain ⟨cZ, kZ, pZ, z1, z2, z3⟩ := Cond.arrayClass_spec (ht2 (.arrayClass .boolean) (by decide +kernel))
  obtain ⟨cC, kC, pC, h1, h2, h3⟩ := Cond.arrayClass_spec (ht2 (.arrayClass .char) (by decide +kernel))
  obtain ⟨pO, cO, kO, o1, -, o3, o4, o5⟩ := Cond.arrayOver_spec (hts (.arrayOver (.object RX0)) (zst_in _ (by simp)))
  refine ⟨((fun k => ([c0, c1, c2, c3, c4, c5] : List ClassId).getD k c0, fun k => ([j0, j1, j2, j3, j4, j5] : List (Nat → Nat)).getD k j0), cI, cZ, cC, cO), fun k q hq => ?_, fun k q hq => ?_⟩
  · match k, hq with
    | 0, hq => cases hq; exact k0
    | 1, hq => cases hq; exact k1
    | 2, hq => cases hq; exact k2
    | 3, hq => cases hq; exact k3
    | 4, hq => cases hq; exact k4
    | 5, hq => cases hq; exact k5
    | k + 6, hq => simp [vwCl] at hq
  · match k, hq with
    | 0, hq => cases hq; exact ⟨fun n z => ⟨fun k h => (by cases h), kI, i2, pI, i3⟩, i1⟩
    | 1, hq => cases hq; exact ⟨fun n z => ⟨fun k h => (by cases h), kZ, z2, pZ, z3⟩, z1⟩
    | 2, hq => cases hq; exact ⟨fun n z => ⟨fun k h => (by cases h), kC, h2, pC, h3⟩, h1⟩
    | 3, hq => cases hq; exact ⟨fun n z => ⟨fun k h => (by cases h), kO, o3, pO, o4⟩, kO, pO, o3, o4, o1, o5⟩
    | k + 4, hq => simp [zTy] at hq
/-! THE CLAIM OUT OF ONE WALK OF THE LAW'S BODY. Your part is whole_start (and what it stands on); all else here is the same for every law, but numbers. -/
def R_law : String := "PegClerksLaw"
def lw_P (b : Addr) (xs : List Int32) (args : Array Value) (s : State) : Prop := args = #[.ref b] ∧ s.IntsAt b xs ∧ xs.length ≤ 260 ∧ (Jvm.Cond.and given_1 narrow_1).before args s = true
def lw_Q (_ : Array Value) (s : State) (o : Outcome) (t : State) : Prop := o = .returned (some (.int 1)) ∧ Framed s o t [] 214 3382
def lw_Z (below : List Frame) (a : Array Value) (s : State) : State → Prop := fun t => ∃ o, t.status = .running ∧ Ended t below o ∧ lw_Q a s o t
/-- the law's own end, with 1 on the stack, nothing written that was there before, its room as the claim has it -/
theorem lw_ret {p : Program} {l : Launch} {e : Env} {s : State} {m : MethodId} {below : List Frame} {meth : Method} {c : Code} {b : Nat} (hx : p.tables.exec = Jvm.exec) (hb : c.code = code) (hr : meth.sig.returnType = ret) (hlocks : meth.locks = false) {pc : Nat} {H : Heap} {ls : Array Slot} (hdg : decode code pc = .ok (.ireturn, 1)) : W p l e room_1 s m #[Value.ref b] below meth c H [] 214 3382 (lw_Z below #[Value.ref b] s) (F0 m pc ls [.int 1]) := by
  intro T hT X
  obtain ⟨fs, hret, hrun, hended, hW, hframe⟩ := X.leave (v := some (.int 1)) (hlocks := hlocks) (fun h => by rw [hr] at h; cases h)
  have hmeth' : T.vm.method? m = some meth := X.method'
  refine ⟨T.setFrames fs, ?_, .returned (some (.int 1)), hrun, hended, rfl, ⟨_, rfl⟩, hW, hframe⟩
  jvm_step X.here [X.here.top, hx, hb, hdg, hmeth', hr, ret, narrow_b1]
  (try refine ⟨rfl, ?_⟩); (try refine ⟨rfl, ?_⟩)
  first | (intro acts; rw [hret _ acts rfl rfl rfl]) | rw [hret _ _ rfl rfl rfl]
  exact Steps.refl _
/-- what holds at the law's entry: the machine, the code, the tables' words (any of lw_tbl by 'hts w (by decide +kernel)'), the script of L ints xs at the cell b, what the Statement gives of the start (any of its parts by flat_of_before) -/
def lw_At (p : Program) (s : State) (m : MethodId) (meth : Method) (c : Code) (b L : Nat) (xs : Nat → Int32) : Prop :=
  p.tables.exec = Jvm.exec ∧ c.code = code ∧ meth.sig.returnType = ret ∧ c.maxLocals = 5 ∧ s.vm.findClass R_law = some m.cls ∧ (∀ w ∈ lw_tbl, w.before #[Value.ref b] s = true) ∧ va_X b L xs s s.heap ∧ b < s.heap.size ∧ meth.locks = false ∧ (Jvm.Cond.and given_1 narrow_1).before #[Value.ref b] s = true
set_option maxRecDepth 100000 in
set_option maxHeartbeats 4000000 in
theorem zwhole {p : Program} {e : Env} {s : State} {m : MethodId} {below : List Frame} {meth : Method} {c : Code} (l : Launch) {sb L : Nat} {xs : Nat → Int32} {I : Nat → zRel2} {J : Nat → zRel3} (h0 : I 0 zPV0 zPV0) (hR : ∀ k : Nat, k < 61 → zS2 (I k) (I (k + 1)) (J k)) (hL : L ≤ 260) (C0 : lw_At p s m meth c sb L xs) : W p l e room_1 s m #[Value.ref sb] below meth c s.heap [] 0 0 (lw_Z below #[Value.ref sb] s) (entryFrame m ([Value.ref sb] : List Value).toArray 5) := by
  obtain ⟨hx, hb, hr, hml, hown, htl, hX, hbl, hlocks, hgv⟩ := C0
  have hts : ∀ w ∈ wsL_law, w.before #[Value.ref sb] s = true := fun w h => htl w (wsL_law_in w h)
  obtain ⟨A, hA, hAx⟩ : ∃ A : Nat → Prop, (∀ q : Nat, s.heap.size ≤ q → A q) ∧ ∀ q : Nat, A q → s.heap.size ≤ q := ⟨fun q => s.heap.size ≤ q, fun _ h => h, fun _ h => h⟩
  have hAn : ∀ q : Nat, q < s.heap.size → ¬ A q := fun q h h2 => absurd (hAx q h2) (by omega)
  have hbA : ¬ A sb := hAn sb hbl
  have hown : s.vm.findClass RL = some m.cls := hown
  obtain ⟨g, hK⟩ := zg_of htl
  have hN : zN s := fun w hw => va_Nw.of (zNl_tab w hw) (htl w (zNl_in w hw))
  have hO : va_AO RX0 s := va_AO.of (htl (.arrayOver (.object RX0)) (zst_in _ (by simp)))
  have hGS : zGS A s s.heap := zGS_of htl hgv hAn
  have hS : va_S A s.heap s.heap [] := va_S.rf
  have hP : va_P g.1 vwCl (zcat []) s.heap := fun k q h => by simp [zcat] at h
  have hD : va_D A (zcat []) := ⟨fun i j p q h => by simp [zcat] at h, fun k q h => by simp [zcat] at h⟩
  have hl := lv_entry ([.ref sb]) (n := 5) (Nat.le_of_ble_eq_true rfl)
  rw [lg_entry_eq]
  generalize (lg_sl ([.ref sb]) ++ List.replicate (5 - (lg_sl ([.ref sb])).length) Slot.unset).toArray = ls at hl ⊢
  have hl : lv_has ls 5 [(0, .ref sb)] := hl
  refine z_new (L := []) (ci := 5) (fs := [.null, .null, .null, .null, .null, .null]) (C := RX5) (T := TX5) (N := 6) hx hb hts inlX5 tyX5 tyX5_ok hown (hts (.classLink RL 10 RX5) (by decide +kernel)) (hts (.instantiable RX5 6) (by decide +kernel)) (hts (.initialized RX5) (by decide +kernel)) hK hP hD hS hA rfl zfs_X5 (Nat.le_of_ble_eq_true rfl) (Nat.le_of_ble_eq_true rfl) dL_law_0 (fun a H hP hD hS => ?_)
  refine lv_dup hx hb dL_law_3 rfl ?_
  refine zcIp (n := 0) (As := []) (rest := [.ref a]) (L := [[(a, .inr (5, [.null, .null, .null, .null, .null, .null]))]]) (Lr := []) hx hb hml hown hts hN hO (m_X5_init l g a) gL_law_X5_init rfl (hts _ (by decide +kernel)) (hts _ (by decide +kernel)) (hts _ (by decide +kernel)) rfl (by decide +kernel) ⟨rfl, rfl⟩ ⟨Nat.le_of_ble_eq_true rfl, Nat.le_of_ble_eq_true rfl⟩ hK hP hD hS hA rfl rfl hl.1 rfl (Nat.le_of_ble_eq_true rfl) dL_law_4 ⟨Nat.le_of_ble_eq_true rfl, Nat.le_of_ble_eq_true rfl⟩ (fun q H locs _ hP hD hS => ?_)
  refine lv_astore_n (lv' := [(1, .ref a), (0, .ref sb)]) hx hb dL_law_7 rfl hl (by decide) rfl (fun ls hl => ?_)
  have hP : va_P g.1 vwCl (zcat [zW g a q zPV0]) H := hP
  have hD : va_D A (zcat [zW g a q zPV0]) := hD
  refine z_new (L := [zW g a q zPV0]) (ci := 5) (fs := [.null, .null, .null, .null, .null, .null]) (C := RX5) (T := TX5) (N := 6) hx hb hts inlX5 tyX5 tyX5_ok hown (hts (.classLink RL 10 RX5) (by decide +kernel)) (hts (.instantiable RX5 6) (by decide +kernel)) (hts (.initialized RX5) (by decide +kernel)) hK hP hD hS hA rfl zfs_X5 (Nat.le_of_ble_eq_true rfl) (Nat.le_of_ble_eq_true rfl) dL_law_8 (fun b H hP hD hS => ?_)
  refine lv_dup hx hb dL_law_11 rfl ?_
  refine zcIp (n := 0) (As := []) (rest := [.ref b]) (L := [zW g a q zPV0, [(b, .inr (5, [.null, .null, .null, .null, .null, .null]))]]) (Lr := [zW g a q zPV0]) hx hb hml hown hts hN hO (m_X5_init l g b) gL_law_X5_init rfl (hts _ (by decide +kernel)) (hts _ (by decide +kernel)) (hts _ (by decide +kernel)) rfl (by decide +kernel) ⟨rfl, rfl⟩ ⟨Nat.le_of_ble_eq_true rfl, Nat.le_of_ble_eq_true rfl⟩ hK hP hD hS hA rfl rfl hl.1 rfl (Nat.le_of_ble_eq_true rfl) dL_law_12 ⟨Nat.le_of_ble_eq_true rfl, Nat.le_of_ble_eq_true rfl⟩ (fun r H locs _ hP hD hS => ?_)
  refine lv_astore_n (lv' := [(2, .ref b), (1, .ref a), (0, .ref sb)]) hx hb dL_law_15 rfl hl (by decide) rfl (fun ls hl => ?_)
  have hP : va_P g.1 vwCl (zW g a q zPV0 ++ zW g b r zPV0) H := hP
  have hD : va_D A (zW g a q zPV0 ++ zW g b r zPV0) := hD
  have hI : I 0 zPV0 zPV0 := h0
  refine lv_iconst (v := (1 : Int32)) hx hb dL_law_16 (by decide) ?_
  refine lv_istore_n (lv' := [(3, .int (1 : Int32)), (2, .ref b), (1, .ref a), (0, .ref sb)]) hx hb dL_law_17 rfl hl (by decide) rfl (fun ls hl => ?_)
  refine lv_iconst (v := (0 : Int32)) hx hb dL_law_18 (by decide) ?_
  refine lv_istore (lv' := [(4, .int (0 : Int32)), (3, .int (1 : Int32)), (2, .ref b), (1, .ref a), (0, .ref sb)]) hx hb dL_law_19 hl (by decide) rfl (fun ls hl => ?_)
  have L21 : ∀ (n21 i21 : Nat), i21 + n21 = 60 → ∀ (V U : zPV) (H : Heap) (locs : List Loc) (ls : Array Slot), I i21 V U → va_P g.1 vwCl (zW g a q V ++ zW g b r U) H → va_D A (zW g a q V ++ zW g b r U) → va_S A s.heap H locs → lv_has ls 5 [(4, .int (nI i21)), (3, .int (1 : Int32)), (2, .ref b), (1, .ref a), (0, .ref sb)] → (∀ (V U : zPV) (H : Heap) (locs : List Loc) (ls : Array Slot), I 60 V U → va_P g.1 vwCl (zW g a q V ++ zW g b r U) H → va_D A (zW g a q V ++ zW g b r U) → va_S A s.heap H locs → lv_has ls 5 [(4, .int (nI 60)), (3, .int (1 : Int32)), (2, .ref b), (1, .ref a), (0, .ref sb)] → W p l e room_1 s m #[Value.ref sb] below meth c H locs 214 3382 (lw_Z below #[Value.ref sb] s) (F0 m 82 ls [])) → W p l e room_1 s m #[Value.ref sb] below meth c H locs 214 3382 (lw_Z below #[Value.ref sb] s) (F0 m 21 ls []) := by
    intro n21
    induction n21 with
    | zero =>
      intro i21 hi21 V U H locs ls hI hP hD hS hl kx21
      refine lv_iload hx hb dL_law_21 (lv_at hl 0 rfl) ?_
      refine lv_bipush (v := (60 : Int32)) hx hb dL_law_23 (by decide) ?_
      refine lv_icmp_ge (tgt := 82) hx hb dL_law_25 (by decide) (fun _ => ?_) (fun c_25 => absurd ((nI_leI (a := 60) (b := i21) (by omega) (by omega)).mpr (by omega)) c_25)
      have e21 : i21 = 60 := by omega
      subst e21
      exact kx21 V U _ _ _ hI hP hD hS (lv_sub hl [0, 1, 2, 3, 4] rfl)
    | succ n21 ih21 =>
      intro i21 hi21 V U H locs ls hI hP hD hS hl kx21
      refine lv_iload hx hb dL_law_21 (lv_at hl 0 rfl) ?_
      refine lv_bipush (v := (60 : Int32)) hx hb dL_law_23 (by decide) ?_
      refine lv_icmp_ge (tgt := 82) hx hb dL_law_25 (by decide) (fun c_25 => absurd c_25 (fun h => absurd ((nI_leI (a := 60) (b := i21) (by omega) (by omega)).mp h) (by omega))) (fun _ => ?_)
      refine lv_iload_n hx hb dL_law_28 rfl (lv_at hl 1 rfl) ?_
      refine lv_if_eq (tgt := 82) hx hb dL_law_29 (by decide) (fun c_29 => absurd c_29 (by decide)) (fun _ => ?_)
      refine lv_aload_n hx hb dL_law_32 rfl (lv_at hl 3 rfl) ?_
      refine lv_aload_n hx hb dL_law_33 rfl (lv_at hl 2 rfl) ?_
      refine lv_aload_n hx hb dL_law_34 rfl (lv_at hl 4 rfl) ?_
      refine lv_iload hx hb dL_law_35 (lv_at hl 0 rfl) ?_
      refine zcX (n := 2) (As := [.ref sb, .int (nI i21)]) (rest := [.ref b, .ref a]) hx hb hml hown hts (m_L_cell l hL i21 (by omega)) gL_law_L_cell rfl (by decide +kernel) ⟨rfl, rfl⟩ ⟨Nat.le_of_ble_eq_true rfl, Nat.le_of_ble_eq_true rfl⟩ hX hbl hbA hP hD hS hA rfl hl.1 rfl (Nat.le_of_ble_eq_true rfl) dL_law_37 ⟨Nat.le_of_ble_eq_true rfl, Nat.le_of_ble_eq_true rfl⟩ (fun sx H locs hP hD hS => ?_)
      refine lv_aload_n hx hb dL_law_40 rfl (lv_at hl 4 rfl) ?_
      refine lv_iload hx hb dL_law_41 (lv_at hl 0 rfl) ?_
      refine lv_iconst (v := (1 : Int32)) hx hb dL_law_43 (by decide) ?_
      refine lv_iadd hx hb dL_law_44 ?_
      rw [nI_1]
      refine zcX (n := 2) (As := [.ref sb, .int (nI (i21 + 1))]) (rest := [.int sx, .ref b, .ref a]) hx hb hml hown hts (m_L_cell l hL (i21 + 1) (by omega)) gL_law_L_cell rfl (by decide +kernel) ⟨rfl, rfl⟩ ⟨Nat.le_of_ble_eq_true rfl, Nat.le_of_ble_eq_true rfl⟩ hX hbl hbA hP hD hS hA rfl hl.1 rfl (Nat.le_of_ble_eq_true rfl) dL_law_45 ⟨Nat.le_of_ble_eq_true rfl, Nat.le_of_ble_eq_true rfl⟩ (fun sy H locs hP hD hS => ?_)
      refine lv_iconst (v := (2 : Int32)) hx hb dL_law_48 (by decide) ?_
      refine lv_ishr hx hb dL_law_49 ?_
      refine zcSe (n := 4) (As := [.ref a, .ref b, .int sx, .int (sy >>> ((2 : Int32) &&& 31))]) (rest := []) (Xr := []) hx hb hml hown hts hN hGS (m_L_isStep l g (hR i21 (by omega)) a b q r V U hI sx (sy >>> ((2 : Int32) &&& 31))) gL_law_L_isStep rfl (by decide +kernel) ⟨rfl, rfl⟩ ⟨Nat.le_of_ble_eq_true rfl, Nat.le_of_ble_eq_true rfl⟩ hK hP hD hS hA (zpn _) rfl hl.1 rfl (Nat.le_of_ble_eq_true rfl) dL_law_50 ⟨Nat.le_of_ble_eq_true rfl, Nat.le_of_ble_eq_true rfl⟩ (fun rv u H locs hr9 hP hD hS => ?_)
      obtain ⟨rfl, hI⟩ := hr9
      obtain ⟨V3, U3⟩ := u
      rw [List.append_nil] at hP hD
      refine lv_if_eq (tgt := 74) hx hb dL_law_53 (by decide) (fun c_53 => absurd c_53 (by decide)) (fun _ => ?_)
      have K70 : ∀ (V U : zPV) (H : Heap) (locs : List Loc) (ls : Array Slot), I (i21 + 1) V U → va_P g.1 vwCl (zW g a q V ++ zW g b r U) H → va_D A (zW g a q V ++ zW g b r U) → va_S A s.heap H locs → lv_has ls 5 [(4, .int (nI i21)), (3, .int (1 : Int32)), (2, .ref b), (1, .ref a), (0, .ref sb)] → W p l e room_1 s m #[Value.ref sb] below meth c H locs 214 3382 (lw_Z below #[Value.ref sb] s) (F0 m 70 ls []) := by
        intro V U H locs ls hI hP hD hS hl
        refine lv_iconst (v := (1 : Int32)) hx hb dL_law_70 (by decide) ?_
        refine lv_goto (tgt := 75) hx hb dL_law_71 (by decide) ?_
        refine lv_istore_n (lv' := [(3, .int (1 : Int32)), (4, .int (nI i21)), (2, .ref b), (1, .ref a), (0, .ref sb)]) hx hb dL_law_75 rfl hl (by decide) rfl (fun ls hl => ?_)
        refine lv_iinc (v := (nI (i21 + 1))) (lv' := [(4, .int (nI (i21 + 1))), (3, .int (1 : Int32)), (2, .ref b), (1, .ref a), (0, .ref sb)]) hx hb dL_law_76 hl (k := 1) rfl (nI_1 i21) (by decide) rfl (fun ls hl => ?_)
        refine lv_goto (tgt := 21) hx hb dL_law_79 (by decide) ?_
        exact ih21 (i21 + 1) (by omega) V U _ _ _ hI hP hD hS (lv_sub hl [0, 1, 2, 3, 4] rfl) kx21
      refine lv_iload hx hb dL_law_56 (lv_at hl 0 rfl) ?_
      refine lv_iconst (v := (3 : Int32)) hx hb dL_law_58 (by decide) ?_
      refine lv_irem hx hb dL_law_59 (by decide) ?_
      refine lv_if_gt (tgt := 70) hx hb dL_law_60 (by decide) (fun c_60 => ?_) (fun c_60 => ?_)
      · exact K70 V3 U3 _ _ _ hI hP hD hS (lv_sub hl [0, 1, 2, 3, 4] rfl)
      · refine lv_aload_n hx hb dL_law_63 rfl (lv_at hl 3 rfl) ?_
        refine zcSe (n := 1) (As := [.ref a]) (rest := []) (Xr := zW g b r U3) hx hb hml hown hts hN hGS (m_L_isWell l g (hR (i21 + 1) (by omega)) a q V3 U3 hI) gL_law_L_isWell rfl (by decide +kernel) ⟨rfl, rfl⟩ ⟨Nat.le_of_ble_eq_true rfl, Nat.le_of_ble_eq_true rfl⟩ hK hP hD hS hA (List.Perm.refl _) rfl hl.1 rfl (Nat.le_of_ble_eq_true rfl) dL_law_64 ⟨Nat.le_of_ble_eq_true rfl, Nat.le_of_ble_eq_true rfl⟩ (fun rv u H locs hr9 hP hD hS => ?_)
        obtain ⟨rfl, t9, rfl⟩ := hr9
        have hI := ((hR (i21 + 1) (by omega)).tr _ _ t9 hI).1
        refine lv_if_eq (tgt := 74) hx hb dL_law_67 (by decide) (fun c_67 => absurd c_67 (by decide)) (fun _ => ?_)
        exact K70 (zTr V3 t9) U3 _ _ _ hI hP hD hS (lv_sub hl [0, 1, 2, 3, 4] rfl)
  refine L21 60 0 (by omega) zPV0 zPV0 _ _ _ hI hP hD hS (lv_sub hl [0, 1, 2, 3, 4] rfl) (fun V U H locs ls hI hP hD hS hl => ?_)
  have hl := lv_sub hl [1, 2, 3, 4, 0] rfl
  have hl : lv_has ls 5 [(3, .int (1 : Int32)), (2, .ref b), (1, .ref a), (0, .ref sb), (4, .int (nI 60))] := hl
  refine lv_iload_n hx hb dL_law_82 rfl (lv_at hl 0 rfl) ?_
  refine lv_if_eq (tgt := 111) hx hb dL_law_83 (by decide) (fun c_83 => absurd c_83 (by decide)) (fun _ => ?_)
  refine lv_aload_n hx hb dL_law_86 rfl (lv_at hl 2 rfl) ?_
  refine zcSe (n := 1) (As := [.ref a]) (rest := []) (Xr := zW g b r U) hx hb hml hown hts hN hGS (m_L_isWell l g (hR 60 (by omega)) a q V U hI) gL_law_L_isWell rfl (by decide +kernel) ⟨rfl, rfl⟩ ⟨Nat.le_of_ble_eq_true rfl, Nat.le_of_ble_eq_true rfl⟩ hK hP hD hS hA (List.Perm.refl _) rfl hl.1 rfl (Nat.le_of_ble_eq_true rfl) dL_law_87 ⟨Nat.le_of_ble_eq_true rfl, Nat.le_of_ble_eq_true rfl⟩ (fun rv u H locs hr9 hP hD hS => ?_)
  obtain ⟨rfl, t9, rfl⟩ := hr9
  have hI := ((hR 60 (by omega)).tr _ _ t9 hI).1
  refine lv_if_eq (tgt := 111) hx hb dL_law_90 (by decide) (fun c_90 => absurd c_90 (by decide)) (fun _ => ?_)
  refine lv_aload_n hx hb dL_law_93 rfl (lv_at hl 2 rfl) ?_
  refine lv_aload_n hx hb dL_law_94 rfl (lv_at hl 1 rfl) ?_
  refine lv_aload_n hx hb dL_law_95 rfl (lv_at hl 3 rfl) ?_
  refine lv_bipush (v := (60 : Int32)) hx hb dL_law_96 (by decide) ?_
  refine zcX (n := 2) (As := [.ref sb, .int (60 : Int32)]) (rest := [.ref b, .ref a]) hx hb hml hown hts (m_L_cell l hL 60 (by omega)) gL_law_L_cell rfl (by decide +kernel) ⟨rfl, rfl⟩ ⟨Nat.le_of_ble_eq_true rfl, Nat.le_of_ble_eq_true rfl⟩ hX hbl hbA hP hD hS hA rfl hl.1 rfl (Nat.le_of_ble_eq_true rfl) dL_law_98 ⟨Nat.le_of_ble_eq_true rfl, Nat.le_of_ble_eq_true rfl⟩ (fun sz H locs hP hD hS => ?_)
  refine zcSe (n := 3) (As := [.ref a, .ref b, .int sz]) (rest := []) (Xr := []) hx hb hml hown hts hN hGS (m_L_areAlike l g (hR 60 (by omega)) a b q r (zTr V t9) U hI sz) gL_law_L_areAlike rfl (by decide +kernel) ⟨rfl, rfl⟩ ⟨Nat.le_of_ble_eq_true rfl, Nat.le_of_ble_eq_true rfl⟩ hK hP hD hS hA (zpn _) rfl hl.1 rfl (Nat.le_of_ble_eq_true rfl) dL_law_101 ⟨Nat.le_of_ble_eq_true rfl, Nat.le_of_ble_eq_true rfl⟩ (fun rv u H locs hr9 hP hD hS => ?_)
  subst hr9
  rw [List.append_nil] at hP hD
  refine lv_if_eq (tgt := 111) hx hb dL_law_104 (by decide) (fun c_104 => absurd c_104 (by decide)) (fun _ => ?_)
  refine lv_iconst (v := (1 : Int32)) hx hb dL_law_107 (by decide) ?_
  refine lv_goto (tgt := 112) hx hb dL_law_108 (by decide) ?_
  refine va_forget (fun q hq => hAx _ (hS.2.2 q hq)) ?_
  exact lw_ret hx hb hr hlocks dL_law_112
