/-! The law from its entry: the classes' numbers, the two static rows, the two objects, the loop. -/
set_option maxRecDepth 20000 in
theorem zNl_in : ∀ w ∈ zNl, w ∈ lw_tbl := zin_r _ [43, 49, 75, 152, 158, 172, 346, 351] (by decide +kernel)
set_option maxRecDepth 20000 in
theorem zst_in : ∀ w ∈ ([.laysStatic RX5 "LEAST" "[I", .laysStatic RX5 "MOST" "[I", .arrayOver (.object RX0), .initialized RX5] : List Cond), w ∈ lw_tbl := zin_r _ [210, 212, 157, 23] (by decide +kernel)
theorem zNl_tab : ∀ w ∈ zNl, w.onTables = true := by
  intro w hw
  simp only [zNl, List.mem_cons, List.not_mem_nil, or_false] at hw
  rcases hw with rfl | rfl | rfl | rfl | rfl | rfl | rfl | rfl <;> rfl
set_option maxRecDepth 20000 in
theorem zGS_of {A : Nat → Prop} {b : Nat} {s : State} (hts : ∀ w ∈ lw_tbl, w.before #[Value.ref b] s = true) (hgv : (Jvm.Cond.and given_1 narrow_1).before #[Value.ref b] s = true) (hA : ∀ q : Nat, q < s.heap.size → ¬ A q) : zGS A s s.heap := by
  have hs := flat_of_before _ hgv
  have hini := hts (.initialized RX5) (zst_in _ (by simp))
  obtain ⟨t1, e1, h1⟩ := va_Tof (args := #[Value.ref b]) (s := s) (tm := .static RX5 "LEAST" "[I") (ty := .int) (N := 4) (f := fun j => .int (zLe j)) (A := A) (by decide) (hs _ (by decide +kernel)) (va_eqt (z := 4) (hs _ (by decide +kernel)))
    (fun j hj => by rcases (show j = 0 ∨ j = 1 ∨ j = 2 ∨ j = 3 by omega) with rfl | rfl | rfl | rfl
                    · exact va_eqt (z := 1) (t := .elem (.static RX5 "LEAST" "[I") (.int 0)) (hs _ (by decide +kernel))
                    · exact va_eqt (z := 0) (t := .elem (.static RX5 "LEAST" "[I") (.int 1)) (hs _ (by decide +kernel))
                    · exact va_eqt (z := 0) (t := .elem (.static RX5 "LEAST" "[I") (.int 2)) (hs _ (by decide +kernel))
                    · exact va_eqt (z := 1) (t := .elem (.static RX5 "LEAST" "[I") (.int 3)) (hs _ (by decide +kernel))) hA
  obtain ⟨t2, e2, h2⟩ := va_Tof (args := #[Value.ref b]) (s := s) (tm := .static RX5 "MOST" "[I") (ty := .int) (N := 4) (f := fun j => .int (zMs j)) (A := A) (by decide) (hs _ (by decide +kernel)) (va_eqt (z := 4) (hs _ (by decide +kernel)))
    (fun j hj => by rcases (show j = 0 ∨ j = 1 ∨ j = 2 ∨ j = 3 by omega) with rfl | rfl | rfl | rfl
                    · exact va_eqt (z := 8) (t := .elem (.static RX5 "MOST" "[I") (.int 0)) (hs _ (by decide +kernel))
                    · exact va_eqt (z := 9) (t := .elem (.static RX5 "MOST" "[I") (.int 1)) (hs _ (by decide +kernel))
                    · exact va_eqt (z := 99) (t := .elem (.static RX5 "MOST" "[I") (.int 2)) (hs _ (by decide +kernel))
                    · exact va_eqt (z := 4) (t := .elem (.static RX5 "MOST" "[I") (.int 3)) (hs _ (by decide +kernel))) hA
  exact ⟨t1, t2, va_Zof (hts _ (zst_in _ (by simp))) hini e1 hA, h1, va_Zof (hts _ (zst_in _ (by simp))) hini e2 hA, h2⟩
set_option maxRecDepth 100000 in
set_option maxHeartbeats 4000000 in
theorem zg_of {b : Nat} {s : State} (hts : ∀ w ∈ lw_tbl, w.before #[Value.ref b] s = true) : ∃ g : zG, va_K g.1 vwCl (zTy g) s := by
  have ht2 : ∀ w ∈ wsL_law, w.before #[Value.ref b] s = true := fun w h => hts w (wsL_law_in w h)
  obtain ⟨c0, j0, k0⟩ := u_known (C := RX0) (T := TX0) (N := 13) (n := 13) ht2 inlX0 (ht2 (.instantiable RX0 13) (by decide +kernel))
  obtain ⟨c1, j1, k1⟩ := u_known (C := RX1) (T := TX1) (N := 4) (n := 4) ht2 inlX1 (ht2 (.instantiable RX1 4) (by decide +kernel))
  obtain ⟨c2, j2, k2⟩ := u_known (C := RX2) (T := TX2) (N := 3) (n := 3) ht2 inlX2 (ht2 (.instantiable RX2 3) (by decide +kernel))
  obtain ⟨c3, j3, k3⟩ := u_known (C := RX3) (T := TX3) (N := 2) (n := 2) ht2 inlX3 (ht2 (.instantiable RX3 2) (by decide +kernel))
  obtain ⟨c4, j4, k4⟩ := u_known (C := RX4) (T := TX4) (N := 4) (n := 4) ht2 inlX4 (ht2 (.instantiable RX4 4) (by decide +kernel))
  obtain ⟨c5, j5, k5⟩ := u_known (C := RX5) (T := TX5) (N := 6) (n := 6) ht2 inlX5 (ht2 (.instantiable RX5 6) (by decide +kernel))
  obtain ⟨c6, j6, k6⟩ := u_known (C := RX6) (T := TX6) (N := 12) (n := 12) ht2 inlX6 (ht2 (.instantiable RX6 12) (by decide +kernel))
  obtain ⟨cI, kI, pI, i1, i2, i3⟩ := Cond.arrayClass_spec (ht2 (.arrayClass .int) (by decide +kernel))
  obtain ⟨cZ, kZ, pZ, z1, z2, z3⟩ := Cond.arrayClass_spec (ht2 (.arrayClass .boolean) (by decide +kernel))
  obtain ⟨cC, kC, pC, h1, h2, h3⟩ := Cond.arrayClass_spec (ht2 (.arrayClass .char) (by decide +kernel))
  obtain ⟨pO, cO, kO, o1, -, o3, o4, o5⟩ := Cond.arrayOver_spec (hts (.arrayOver (.object RX0)) (zst_in _ (by simp)))
  refine ⟨((fun k => ([c0, c1, c2, c3, c4, c5, c6] : List ClassId).getD k c0, fun k => ([j0, j1, j2, j3, j4, j5, j6] : List (Nat → Nat)).getD k j0), cI, cZ, cC, cO), fun k q hq => ?_, fun k q hq => ?_⟩
  · match k, hq with
    | 0, hq => cases hq; exact k0
    | 1, hq => cases hq; exact k1
    | 2, hq => cases hq; exact k2
    | 3, hq => cases hq; exact k3
    | 4, hq => cases hq; exact k4
    | 5, hq => cases hq; exact k5
    | 6, hq => cases hq; exact k6
    | k + 7, hq => simp [vwCl] at hq
  · match k, hq with
    | 0, hq => cases hq; exact ⟨fun n z => ⟨fun k h => (by cases h), kI, i2, pI, i3⟩, i1⟩
    | 1, hq => cases hq; exact ⟨fun n z => ⟨fun k h => (by cases h), kZ, z2, pZ, z3⟩, z1⟩
    | 2, hq => cases hq; exact ⟨fun n z => ⟨fun k h => (by cases h), kC, h2, pC, h3⟩, h1⟩
    | 3, hq => cases hq; exact ⟨fun n z => ⟨fun k h => (by cases h), kO, o3, pO, o4⟩, kO, pO, o3, o4, o1, o5⟩
    | k + 4, hq => simp [zTy] at hq
/-! THE CLAIM OUT OF ONE WALK OF THE LAW'S BODY. Your part is whole_start (and what it stands on); all else here is the same for every law, but numbers. -/
def R_law : String := "PegClerksLaw"
def lw_P (b : Addr) (xs : List Int32) (args : Array Value) (s : State) : Prop := args = #[.ref b] ∧ s.IntsAt b xs ∧ xs.length ≤ 1536 ∧ (Jvm.Cond.and given_1 narrow_1).before args s = true
def lw_Q (_ : Array Value) (s : State) (o : Outcome) (t : State) : Prop := o = .returned (some (.int 1)) ∧ Framed s o t [] 116 3187
def lw_Z (below : List Frame) (a : Array Value) (s : State) : State → Prop := fun t => ∃ o, t.status = .running ∧ Ended t below o ∧ lw_Q a s o t
/-- the law's own end, with 1 on the stack, nothing written that was there before, its room as the claim has it -/
theorem lw_ret {p : Program} {l : Launch} {e : Env} {s : State} {m : MethodId} {below : List Frame} {meth : Method} {c : Code} {b : Nat} (hx : p.tables.exec = Jvm.exec) (hb : c.code = code) (hr : meth.sig.returnType = ret) (hlocks : meth.locks = false) {pc : Nat} {H : Heap} {ls : Array Slot} (hdg : decode code pc = .ok (.ireturn, 1)) : W p l e room_1 s m #[Value.ref b] below meth c H [] 116 3187 (lw_Z below #[Value.ref b] s) (F0 m pc ls [.int 1]) := by
  intro T hT X
  obtain ⟨fs, hret, hrun, hended, hW, hframe⟩ := X.leave (v := some (.int 1)) (hlocks := hlocks) (fun h => by rw [hr] at h; cases h)
  have hmeth' : T.vm.method? m = some meth := X.method'
  refine ⟨T.setFrames fs, ?_, .returned (some (.int 1)), hrun, hended, rfl, ⟨_, rfl⟩, hW, hframe⟩
  jvm_step X.here [X.here.top, hx, hb, hdg, hmeth', hr, ret, narrow_b1]
  (try refine ⟨rfl, ?_⟩); (try refine ⟨rfl, ?_⟩)
  first | (intro acts; rw [hret _ acts rfl rfl rfl]) | rw [hret _ _ rfl rfl rfl]
  exact Steps.refl _
/-- what holds at the law's entry: the machine, the code, the tables' words (any of lw_tbl by 'hts w (by decide +kernel)'), the script of L ints xs at the cell b, what the Statement gives of the start (any of its parts by flat_of_before) -/
def lw_At (p : Program) (s : State) (m : MethodId) (meth : Method) (c : Code) (b L : Nat) (xs : Nat → Int32) : Prop :=
  p.tables.exec = Jvm.exec ∧ c.code = code ∧ meth.sig.returnType = ret ∧ c.maxLocals = 4 ∧ s.vm.findClass R_law = some m.cls ∧ (∀ w ∈ lw_tbl, w.before #[Value.ref b] s = true) ∧ va_X b L xs s s.heap ∧ b < s.heap.size ∧ meth.locks = false ∧ (Jvm.Cond.and given_1 narrow_1).before #[Value.ref b] s = true
set_option maxRecDepth 100000 in
set_option maxHeartbeats 4000000 in
theorem zwhole {p : Program} {e : Env} {s : State} {m : MethodId} {below : List Frame} {meth : Method} {c : Code} (l : Launch) {b L : Nat} {xs : Nat → Int32} {I : zRel} (hI : zSim I) (hL : L ≤ 1536) (C0 : lw_At p s m meth c b L xs) : W p l e room_1 s m #[Value.ref b] below meth c s.heap [] 0 0 (lw_Z below #[Value.ref b] s) (entryFrame m ([Value.ref b] : List Value).toArray 4) := by
  obtain ⟨hx, hb, hr, hml, hown, htl, hX, hbl, hlocks, hgv⟩ := C0
  have hts : ∀ w ∈ wsL_law, w.before #[Value.ref b] s = true := fun w h => htl w (wsL_law_in w h)
  obtain ⟨A, hA, hAx⟩ : ∃ A : Nat → Prop, (∀ q : Nat, s.heap.size ≤ q → A q) ∧ ∀ q : Nat, A q → s.heap.size ≤ q := ⟨fun q => s.heap.size ≤ q, fun _ h => h, fun _ h => h⟩
  have hAn : ∀ q : Nat, q < s.heap.size → ¬ A q := fun q h h2 => absurd (hAx q h2) (by omega)
  have hbA : ¬ A b := hAn b hbl
  have hown : s.vm.findClass RL = some m.cls := hown
  obtain ⟨g, hK⟩ := zg_of htl
  have hN : zN s := fun w hw => va_Nw.of (zNl_tab w hw) (htl w (zNl_in w hw))
  have hO : va_AO RX0 s := va_AO.of (htl (.arrayOver (.object RX0)) (zst_in _ (by simp)))
  have hGS : zGS A s s.heap := zGS_of htl hgv hAn
  have hS : va_S A s.heap s.heap [] := va_S.rf
  have hP : va_P g.1 vwCl (zcat []) s.heap := fun k q h => by simp [zcat] at h
  have hD : va_D A (zcat []) := ⟨fun i j p q h => by simp [zcat] at h, fun k q h => by simp [zcat] at h⟩
  have hl := lv_entry ([.ref b]) (n := 4) (Nat.le_of_ble_eq_true rfl)
  rw [lg_entry_eq]
  generalize (lg_sl ([.ref b]) ++ List.replicate (4 - (lg_sl ([.ref b])).length) Slot.unset).toArray = ls at hl ⊢
  have hl : lv_has ls 4 [(0, .ref b)] := hl
  refine z_new (L := []) (ci := 5) (fs := [.null, .null, .null, .null, .null, .null]) (C := RX5) (T := TX5) (N := 6) hx hb hts inlX5 tyX5 tyX5_ok hown (hts (.classLink RL 7 RX5) (by decide +kernel)) (hts (.instantiable RX5 6) (by decide +kernel)) (hts (.initialized RX5) (by decide +kernel)) hK hP hD hS hA rfl zfs_X5 (Nat.le_of_ble_eq_true rfl) (Nat.le_of_ble_eq_true rfl) dL_law_0 (fun a H hP hD hS => ?_)
  refine lv_dup hx hb dL_law_3 rfl ?_
  refine zcIp (n := 0) (As := []) (rest := [.ref a]) (L := [[(a, .inr (5, [.null, .null, .null, .null, .null, .null]))]]) (Lr := []) hx hb hml hown hts hN hO (m_X5_init l g a) gL_law_X5_init rfl (hts _ (by decide +kernel)) (hts _ (by decide +kernel)) (hts _ (by decide +kernel)) rfl (by decide +kernel) ⟨rfl, rfl⟩ ⟨Nat.le_of_ble_eq_true rfl, Nat.le_of_ble_eq_true rfl⟩ hK hP hD hS hA rfl rfl hl.1 rfl (Nat.le_of_ble_eq_true rfl) dL_law_4 ⟨Nat.le_of_ble_eq_true rfl, Nat.le_of_ble_eq_true rfl⟩ (fun u H locs _ hP hD hS => ?_)
  obtain ⟨QQ, QH, QS⟩ := u
  refine lv_astore_n (lv' := [(1, .ref a), (0, .ref b)]) hx hb dL_law_7 rfl hl (by decide) rfl (fun ls hl => ?_)
  refine z_new (L := [((po a ((QQ 0) 0) ((QQ 4) 0) ((QQ 1) 0) ((QQ 2) 0) ((QQ 3) 0) ((QQ 3) 1)) ++ ((ck g (QQ 0) zC0) ++ ((hi g (QQ 1) (fun j => some (QH j 0)) z00) ++ ((pd g (QQ 2) z00) ++ ((sl g (QQ 3) (fun j => some (QS j 0)) z00) ++ ((ck g (QQ 4) zC0) ++ ((hs g QH (fun _ => zC0)) ++ ((ss g QS (fun _ => zC0))))))))))]) (ci := 6) (fs := [.null, .null, .null, .int 0, .null, .null, .null, .int 0, .int 0, .null, .null, .int 0]) (C := RX6) (T := TX6) (N := 12) hx hb hts inlX6 tyX6 tyX6_ok hown (hts (.classLink RL 10 RX6) (by decide +kernel)) (hts (.instantiable RX6 12) (by decide +kernel)) (hts (.initialized RX6) (by decide +kernel)) hK hP hD hS hA rfl zfs_X6 (Nat.le_of_ble_eq_true rfl) (Nat.le_of_ble_eq_true rfl) dL_law_8 (fun q8 H hP hD hS => ?_)
  refine lv_dup hx hb dL_law_11 rfl ?_
  refine zcIp (n := 0) (As := []) (rest := [.ref q8]) (L := [((po a ((QQ 0) 0) ((QQ 4) 0) ((QQ 1) 0) ((QQ 2) 0) ((QQ 3) 0) ((QQ 3) 1)) ++ ((ck g (QQ 0) zC0) ++ ((hi g (QQ 1) (fun j => some (QH j 0)) z00) ++ ((pd g (QQ 2) z00) ++ ((sl g (QQ 3) (fun j => some (QS j 0)) z00) ++ ((ck g (QQ 4) zC0) ++ ((hs g QH (fun _ => zC0)) ++ ((ss g QS (fun _ => zC0)))))))))), [(q8, .inr (6, [.null, .null, .null, .int 0, .null, .null, .null, .int 0, .int 0, .null, .null, .int 0]))]]) (Lr := [((po a ((QQ 0) 0) ((QQ 4) 0) ((QQ 1) 0) ((QQ 2) 0) ((QQ 3) 0) ((QQ 3) 1)) ++ ((ck g (QQ 0) zC0) ++ ((hi g (QQ 1) (fun j => some (QH j 0)) z00) ++ ((pd g (QQ 2) z00) ++ ((sl g (QQ 3) (fun j => some (QS j 0)) z00) ++ ((ck g (QQ 4) zC0) ++ ((hs g QH (fun _ => zC0)) ++ ((ss g QS (fun _ => zC0))))))))))]) hx hb hml hown hts hN hO (m_X6_init l g q8) gL_law_X6_init rfl (hts _ (by decide +kernel)) (hts _ (by decide +kernel)) (hts _ (by decide +kernel)) rfl (by decide +kernel) ⟨rfl, rfl⟩ ⟨Nat.le_of_ble_eq_true rfl, Nat.le_of_ble_eq_true rfl⟩ hK hP hD hS hA rfl rfl hl.1 rfl (Nat.le_of_ble_eq_true rfl) dL_law_12 ⟨Nat.le_of_ble_eq_true rfl, Nat.le_of_ble_eq_true rfl⟩ (fun qm H9 locs9 hq hP9 hD9 hS9 => ?_)
  subst hq
  have e8 : zcat ([((po a ((QQ 0) 0) ((QQ 4) 0) ((QQ 1) 0) ((QQ 2) 0) ((QQ 3) 0) ((QQ 3) 1)) ++ ((ck g (QQ 0) zC0) ++ ((hi g (QQ 1) (fun j => some (QH j 0)) z00) ++ ((pd g (QQ 2) z00) ++ ((sl g (QQ 3) (fun j => some (QS j 0)) z00) ++ ((ck g (QQ 4) zC0) ++ ((hs g QH (fun _ => zC0)) ++ ((ss g QS (fun _ => zC0))))))))))] ++ [mo g qm f_X6_init]) = ((po a ((QQ 0) 0) ((QQ 4) 0) ((QQ 1) 0) ((QQ 2) 0) ((QQ 3) 0) ((QQ 3) 1)) ++ ((ck g (QQ 0) zC0) ++ ((hi g (QQ 1) (fun j => some (QH j 0)) z00) ++ ((pd g (QQ 2) z00) ++ ((sl g (QQ 3) (fun j => some (QS j 0)) z00) ++ ((ck g (QQ 4) zC0) ++ ((hs g QH (fun _ => zC0)) ++ ((ss g QS (fun _ => zC0)) ++ ((mo g qm f_X6_init)))))))))) := by
    show (((po a ((QQ 0) 0) ((QQ 4) 0) ((QQ 1) 0) ((QQ 2) 0) ((QQ 3) 0) ((QQ 3) 1)) ++ ((ck g (QQ 0) zC0) ++ ((hi g (QQ 1) (fun j => some (QH j 0)) z00) ++ ((pd g (QQ 2) z00) ++ ((sl g (QQ 3) (fun j => some (QS j 0)) z00) ++ ((ck g (QQ 4) zC0) ++ ((hs g QH (fun _ => zC0)) ++ ((ss g QS (fun _ => zC0))))))))))) ++ mo g qm f_X6_init = _
    simp only [List.append_assoc]
  rw [e8] at hP9 hD9
  refine lv_astore_n (lv' := [(2, .ref (qm 0)), (1, .ref a), (0, .ref b)]) hx hb dL_law_15 rfl hl (by decide) rfl (fun ls hl => ?_)
  refine lv_iconst (v := (0 : Int32)) hx hb dL_law_16 (by decide) ?_
  refine lv_istore_n (lv' := [(3, .int (nI 0)), (2, .ref (qm 0)), (1, .ref a), (0, .ref b)]) hx hb dL_law_17 rfl hl (by decide) rfl (fun ls hl => ?_)
  refine zlaw_loop hx hb hml hown hts hX hbl hbA hA hN hK hGS hI hL (fun H locs ls hS => ?_) L 0 (by omega) (by omega) zC0 z00 z00 z00 zC0 (fun _ => zC0) (fun _ => zC0) f_X6_init H9 locs9 ls hI.zero hP9 hD9 hS9 (lv_sub hl [3, 2, 1, 0] rfl)
  refine va_forget (fun q hq => hAx _ (hS.2.2 q hq)) ?_
  exact lw_ret hx hb hr hlocks dL_law_659
