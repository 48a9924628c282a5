/-! The one method that reads the class's static rows. -/
def zLe (j : Nat) : Int32 := ([1, 0, 0, 1] : List Int32).getD j 0
def zMs (j : Nat) : Int32 := ([8, 9, 99, 4] : List Int32).getD j 0
def zGS (A : Nat → Prop) (U : State) (H : Heap) : Prop := ∃ t1 t2 : Nat, va_Z RX5 "LEAST" "[I" (.ref t1) A U H ∧ va_T .int t1 4 (fun j => .int (zLe j)) A U H ∧ va_Z RX5 "MOST" "[I" (.ref t2) A U H ∧ va_T .int t2 4 (fun j => .int (zMs j)) A U H
theorem zGS.moved {A : Nat → Prop} {u U : State} {H : Heap} (hvm : u.vm.Alike U.vm) (h : zGS A u H) : zGS A U H := by
  obtain ⟨t1, t2, h1, h2, h3, h4⟩ := h
  exact ⟨t1, t2, va_Z.moved hvm h1, va_T.moved hvm h2, va_Z.moved hvm h3, va_T.moved hvm h4⟩
theorem zGS.kept {A : Nat → Prop} {U : State} {H H1 : Heap} (h : zGS A U H) (hq : ∀ a : Nat, a < H.size → ¬ A a → H1[a]? = H[a]?) : zGS A U H1 := by
  obtain ⟨t1, t2, h1, h2, h3, h4⟩ := h
  exact ⟨t1, t2, va_Z.kept h1 hq, va_T.kept h2 hq, va_Z.kept h3 hq, va_T.kept h4 hq⟩
theorem zGS.narrow {A B : Nat → Prop} {U : State} {H : Heap} (h : zGS A U H) (hAB : ∀ q, B q → A q) : zGS B U H := by
  obtain ⟨t1, t2, h1, h2, h3, h4⟩ := h
  exact ⟨t1, t2, va_Z.narrow h1 hAB, va_T.narrow h2 hAB, va_Z.narrow h3 hAB, va_T.narrow h4 hAB⟩
def zPcS (g : zG) (X : va_W) (av : List Value) (sz : Nat) : Array Value → State → Prop := va_Pc av (fun U => U.heap.size = sz ∧ va_P g.1 vwCl X U.heap ∧ va_K g.1 vwCl (zTy g) U ∧ va_D (fun _ => True) X ∧ zN U ∧ zGS (va_A X sz) U U.heap)
theorem zPcS_blind {g : zG} {X : va_W} {av : List Value} {sz : Nat} : FrameBlind (zPcS g X av sz) := by
  intro a U f mk h
  obtain ⟨q0, q1, qP, qK, qD, qN, qG⟩ := h
  exact ⟨q0, q1, qP, va_K.moved (u := U) (U := U.calling f mk a) (Vm.Alike.refl U.vm) qK, qD, zN.same (u := U) (U := U.calling f mk a) rfl qN, zGS.moved (u := U) (U := U.calling f mk a) (Vm.Alike.refl U.vm) qG⟩
def ZIs (l : Launch) (y : MethodName) (wsd : List Cond) (rm : Room) (g : zG) (X : va_W) (av : List Value) (r : Int32) (X' : va_W) : Prop := ∀ sz : Nat, Met l y wsd rm (zPcS g X av sz) (zQi g X r X' sz) 0 0 (va_A X sz)
set_option maxHeartbeats 4000000 in
theorem zopenIs {l : Launch} {y : MethodName} {wsd ws' : List Cond} {rm : Room} {g : zG} {X : va_W} {av : List Value} {r : Int32} {X' : va_W} {cc : ByteArray} {maxL : Nat} {ret : FieldType} (hy : plainFor y = true) (hw : wsd = Cond.code y cc maxL (some ret) :: ws') (hlen : (lg_sl av).length ≤ maxL)
    (body : ∀ (p : Program) (e : Env) (s : State) (m : MethodId) (below : List Frame) (meth : Method) (c : Code) (A : Nat → Prop) (Q : State → Prop) (ls : Array Slot), p.tables.exec = Jvm.exec → c.code = cc → c.maxLocals = maxL → s.vm.findClass y.cls = some m.cls → (∀ w ∈ wsd, w.before av.toArray s = true) → va_P g.1 vwCl X s.heap → va_K g.1 vwCl (zTy g) s → va_D A X → (∀ q : Nat, s.heap.size ≤ q → A q) → zN s → zGS A s s.heap → lv_has ls maxL (lv_args 0 av) →
      (∀ (rv : Int32) (Xn : va_W) (H : Heap) (locs : List Loc) (ls : Array Slot) (pc : Nat), decode cc pc = .ok (.ireturn, 1) → rv = r → narrow ret (.int rv) = .int rv → Xn = X' → va_P g.1 vwCl Xn H → va_D A Xn → va_S A s.heap H locs → W p l e rm s m av.toArray below meth c H locs 0 0 Q (F0 m pc ls [.int rv])) →
      W p l e rm s m av.toArray below meth c s.heap [] 0 0 Q (F0 m 0 ls [])) : ZIs l y wsd rm g X av r X' := by
  intro sz
  refine va_MetF (cc := cc) (maxL := maxL) (ret := some ret) hy hw ?_
  intro p e s m args below meth c s₁ B hml hv
  obtain ⟨rfl, hsz, hP, hK, hD0, hN, hG⟩ := hv
  subst hsz
  have hts := atoms_spec (ws := wsd) B.pre
  have hown : s.vm.findClass y.cls = some m.cls := findClass_of_methodNamed B.named
  have hlocks := B.notSynchronized
  have hl := lv_entry av hlen
  rw [lg_entry_eq]
  exact body p e s m below meth c (va_A X s.heap.size) _ _ B.exec B.bytes hml hown hts hP hK hD0.self (fun q h => Or.inr h) hN hG hl
    (fun rv Xn H locs ls pc hd e1 hn e2 hP1 hD1 hS => W.zret (v := rv) (ty := ret) B.exec B.bytes B.returns hn (fun t ht hW => ⟨⟨rv, (), rfl, e1, by rw [ht, ← e2]; exact hP1, va_K.moved hW.alike hK, by rw [← e2]; exact hD1⟩, hS.F ht⟩) hS.2.2 hd)
section ZCS
variable {p : Program} {l : Launch} {e : Env} {R : Room} {s : State} {m : MethodId} {args : Array Value} {below : List Frame} {meth : Method} {c : Code} {H : Heap} {locs : List Loc} {cells slots : Nat} {Q : State → Prop}
variable {pc : Nat} {ls : Array Slot} {rest st : List Value} {A : Nat → Prop} {cc bytes : ByteArray} {nL maxL n index : Nat} {own C host : String} {y : MethodName} {ret : Option FieldType} {wsd ws' Ts : List Cond} {rm : Room} {g : zG} {X Xc Xr Xc' Xn : va_W} {b : Nat} {As : List Value} {r : Int32} {T : u_T} {N ci q0 : Nat} {fs : List Value}
set_option maxHeartbeats 4000000 in
theorem zcVis (hx : p.tables.exec = Jvm.exec) (hb : c.code = cc) (hml : c.maxLocals = nL) (hown : s.vm.findClass own = some m.cls) (hts : ∀ w ∈ Ts, w.before args s = true) (hN : zN s) (hGS : zGS A s s.heap)
    (hM : ZIs l y wsd rm g Xc (.ref b :: As) r Xc') (hG : GoodIn Ts (wsV own index C y wsd)) (hw : wsd = Cond.code y bytes maxL ret :: ws') (hd : y.cls = C ∧ y.cls ≠ "java/lang/invoke/MethodHandle" ∧ y.cls ≠ "java/lang/invoke/VarHandle" ∧ (parseMethodDescriptor y.desc).map (fun d => d.parameters.length) = some n) (hrc : rm.cells = 0 ∧ rm.slots = 0) (hR : rm.frames + 1 ≤ R.frames ∧ 8 + (maxL + 11) + rm.locals ≤ R.locals)
    (hK : va_K g.1 vwCl (zTy g) s) (hP : va_P g.1 vwCl X H) (hD : va_D A X) (hS : va_S A s.heap H locs) (hA : ∀ q : Nat, s.heap.size ≤ q → A q) (hX : X.Perm (Xc ++ Xr)) (hcl : vwCl[ci]? = some (C, T, N)) (he : Xc[q0]? = some (b, .inr (ci, fs)))
    (hn : As.length = n) (hsize : ls.size = nL) (hst : st = As.reverse ++ .ref b :: rest) (hroom : (rest.map fun v => v.category).sum ≤ 8) (hdg : decode cc pc = .ok (.invokevirtual index, 3)) (hf : cells ≤ R.cells ∧ slots ≤ R.slots) (hXn : (Xc' ++ Xr).Perm Xn)
    (kk : ∀ (H1 : Heap) (locs1 : List Loc), va_P g.1 vwCl Xn H1 → va_D A Xn → va_S A s.heap H1 locs1 → W p l e R s m args below meth c H1 locs1 cells slots Q (F0 m (pc + 3) ls (.int r :: rest))) : W p l e R s m args below meth c H locs cells slots Q (F0 m pc ls st) := by
  subst hst
  have hPc := zP_perm hP hX
  have hDc := zD_perm hD hX
  have hPs := zP_left hPc
  have hDs := zD_left hDc
  have hFc := zfree hDs hS hA
  have hGH : zGS (va_A Xc H.size) s H := (hGS.kept hS.2.1).narrow hFc
  refine va_calli (va_runV ⟨hx, hb, hml, hown, hts⟩ (hM H.size) (cwV n hts hG hw hrc.1 hrc.2 hd hR) ⟨zPcS_blind, va_recv hK hPs hcl he, fun U hU hWm => ⟨rfl, by rw [hU], by rw [hU]; exact hPs, va_K.moved hWm.alike hK, hDs.weaken (fun _ _ _ _ => trivial), zN.warm hWm hN, by rw [hU]; exact hGH.moved hWm.alike⟩⟩ rfl hn hsize rfl (lv_room hroom) hdg hf) hS (fun q _ h => hFc q h) hFc (fun r1 u t H1 locs1 ht hvm hw1 hB hz hk1 hS1 => ?_)
  subst hw1
  obtain ⟨hP1, hK1, hD1⟩ := hB
  rw [ht] at hP1
  obtain ⟨h1, h2⟩ := zjoin hPc hDc hk1 hFc hP1 hD1
  exact kk H1 locs1 (zP_perm h1 hXn) (zD_perm h2 hXn) hS1
end ZCS
abbrev rm_X5_set : Room := { frames := 4, cells := 0, slots := 0, locals := 85 }
set_option maxRecDepth 20000 in
theorem zin_X5_set_X0 : ∀ w ∈ wsX00, w ∈ wsX5_set := by decide +kernel
set_option maxRecDepth 20000 in
theorem zin_X5_set_X5 : ∀ w ∈ wsX50, w ∈ wsX5_set := by decide +kernel
def r_X5_set_38 (vc : zCV) (vh : zCV) (VH : (Nat → zCV)) : zCV × zCV := (f_X2_keep vh (VH (vh.1 0).toNatClampNeg) vc)
def u_X5_set_38 (vc : zCV) (vh : zCV) (VH : (Nat → zCV)) : Nat → zCV := va_up VH (vh.1 0).toNatClampNeg (r_X5_set_38 vc vh VH).2
def s_X5_set_60 (vc : zCV) (p0 : Int32) (p1 : Int32) : zCV := zA vc 0 (upd (vc.2 0) p0.toNatClampNeg p1)
def f_X5_set (vc : zCV) (vh : zCV) (vp : zCV) (vs : zCV) (vt : zCV) (VH : (Nat → zCV)) (VS : (Nat → zCV)) (p0 : Int32) (p1 : Int32) : Int32 × zCV × zCV × (Nat → zCV) := if p0 < (0 : Int32) then (((-2 : Int32), vc, vh, VH)) else (if (4 : Int32) ≤ p0 then (((-2 : Int32), vc, vh, VH)) else (if p1 < (zLe p0.toNatClampNeg) then (((-2 : Int32), vc, vh, VH)) else (if p1 ≤ (zMs p0.toNatClampNeg) then ((((vc.2 0) p0.toNatClampNeg), (s_X5_set_60 vc p0 p1), (r_X5_set_38 vc vh VH).1, (u_X5_set_38 vc vh VH))) else (((-2 : Int32), vc, vh, VH)))))
set_option maxRecDepth 100000 in
set_option maxHeartbeats 4000000 in
theorem m_X5_set (l : Launch) (g : zG) (a : Nat) (qc qh qp qs qt : Nat → Nat) (QH QS : Nat → Nat → Nat) (vc vh vp vs vt : zCV) (VH VS : Nat → zCV) (p0 : Int32) (p1 : Int32) (hj : vc.1 5 = 0 ∨ vc.1 5 = 1) (hf : vc.1 8 = 0 ∨ vc.1 8 = 1) (hn : vp_in (vh.1 0) 6) : ZIs l yX5_set wsX5_set rm_X5_set g ((po a (qc 0) (qt 0) (qh 0) (qp 0) (qs 0) (qs 1)) ++ ((ck g qc vc) ++ ((hi g qh (fun j => some (QH j 0)) vh) ++ ((pd g qp vp) ++ ((sl g qs (fun j => some (QS j 0)) vs) ++ ((ck g qt vt) ++ ((hs g QH VH) ++ ((ss g QS VS))))))))) [.ref a, .int p0, .int p1] (f_X5_set vc vh vp vs vt VH VS p0 p1).1 ((po a (qc 0) (qt 0) (qh 0) (qp 0) (qs 0) (qs 1)) ++ ((ck g qc (f_X5_set vc vh vp vs vt VH VS p0 p1).2.1) ++ ((hi g qh (fun j => some (QH j 0)) (f_X5_set vc vh vp vs vt VH VS p0 p1).2.2.1) ++ ((pd g qp vp) ++ ((sl g qs (fun j => some (QS j 0)) vs) ++ ((ck g qt vt) ++ ((hs g QH (f_X5_set vc vh vp vs vt VH VS p0 p1).2.2.2) ++ ((ss g QS VS))))))))) := by
  refine zopenIs (cc := cX5_set) (maxL := 4) (ret := .int) (by decide +kernel) rfl (Nat.le_of_ble_eq_true rfl) ?_
  intro p e s m below meth c A Q ls hx hb hml hown hts hP hK hD hA hN hGS hl hret
  obtain ⟨t1, t2, hZ1, hT1, hZ2, hT2⟩ := hGS
  have hS : va_S A s.heap s.heap [] := va_S.rf
  have hl : lv_has ls 4 [(0, .ref a), (1, .int p0), (2, .int p1)] := hl
  have hown : s.vm.findClass RX5 = some m.cls := hown
  refine lv_iload_n hx hb dX5_set_0 rfl (lv_at hl 1 rfl) ?_
  refine lv_if_lt (tgt := 27) hx hb dX5_set_1 (by decide) (fun c_1 => ?_) (fun c_1 => ?_)
  · refine lv_bipush (v := (-2 : Int32)) hx hb dX5_set_27 (by decide) ?_
    have E : (f_X5_set vc vh vp vs vt VH VS p0 p1) = ((-2 : Int32), vc, vh, VH) := (if_pos c_1).trans rfl
    have e1 : (-2 : Int32) = (f_X5_set vc vh vp vs vt VH VS p0 p1).1 := by rw [E]
    have e2 : ((po a (qc 0) (qt 0) (qh 0) (qp 0) (qs 0) (qs 1)) ++ ((ck g qc vc) ++ ((hi g qh (fun j => some (QH j 0)) vh) ++ ((pd g qp vp) ++ ((sl g qs (fun j => some (QS j 0)) vs) ++ ((ck g qt vt) ++ ((hs g QH VH) ++ ((ss g QS VS))))))))) = ((po a (qc 0) (qt 0) (qh 0) (qp 0) (qs 0) (qs 1)) ++ ((ck g qc (f_X5_set vc vh vp vs vt VH VS p0 p1).2.1) ++ ((hi g qh (fun j => some (QH j 0)) (f_X5_set vc vh vp vs vt VH VS p0 p1).2.2.1) ++ ((pd g qp vp) ++ ((sl g qs (fun j => some (QS j 0)) vs) ++ ((ck g qt vt) ++ ((hs g QH (f_X5_set vc vh vp vs vt VH VS p0 p1).2.2.2) ++ ((ss g QS VS))))))))) := by rw [E]
    exact hret (-2 : Int32) ((po a (qc 0) (qt 0) (qh 0) (qp 0) (qs 0) (qs 1)) ++ ((ck g qc vc) ++ ((hi g qh (fun j => some (QH j 0)) vh) ++ ((pd g qp vp) ++ ((sl g qs (fun j => some (QS j 0)) vs) ++ ((ck g qt vt) ++ ((hs g QH VH) ++ ((ss g QS VS))))))))) _ _ _ _ dX5_set_29 e1 (rfl) e2 hP hD hS
  · refine lv_iload_n hx hb dX5_set_4 rfl (lv_at hl 1 rfl) ?_
    refine lv_iconst (v := (4 : Int32)) hx hb dX5_set_5 (by decide) ?_
    refine lv_icmp_ge (tgt := 27) hx hb dX5_set_6 (by decide) (fun c_6 => ?_) (fun c_6 => ?_)
    · refine lv_bipush (v := (-2 : Int32)) hx hb dX5_set_27 (by decide) ?_
      have E : (f_X5_set vc vh vp vs vt VH VS p0 p1) = ((-2 : Int32), vc, vh, VH) := (if_neg c_1).trans ((if_pos c_6).trans rfl)
      have e1 : (-2 : Int32) = (f_X5_set vc vh vp vs vt VH VS p0 p1).1 := by rw [E]
      have e2 : ((po a (qc 0) (qt 0) (qh 0) (qp 0) (qs 0) (qs 1)) ++ ((ck g qc vc) ++ ((hi g qh (fun j => some (QH j 0)) vh) ++ ((pd g qp vp) ++ ((sl g qs (fun j => some (QS j 0)) vs) ++ ((ck g qt vt) ++ ((hs g QH VH) ++ ((ss g QS VS))))))))) = ((po a (qc 0) (qt 0) (qh 0) (qp 0) (qs 0) (qs 1)) ++ ((ck g qc (f_X5_set vc vh vp vs vt VH VS p0 p1).2.1) ++ ((hi g qh (fun j => some (QH j 0)) (f_X5_set vc vh vp vs vt VH VS p0 p1).2.2.1) ++ ((pd g qp vp) ++ ((sl g qs (fun j => some (QS j 0)) vs) ++ ((ck g qt vt) ++ ((hs g QH (f_X5_set vc vh vp vs vt VH VS p0 p1).2.2.2) ++ ((ss g QS VS))))))))) := by rw [E]
      exact hret (-2 : Int32) ((po a (qc 0) (qt 0) (qh 0) (qp 0) (qs 0) (qs 1)) ++ ((ck g qc vc) ++ ((hi g qh (fun j => some (QH j 0)) vh) ++ ((pd g qp vp) ++ ((sl g qs (fun j => some (QS j 0)) vs) ++ ((ck g qt vt) ++ ((hs g QH VH) ++ ((ss g QS VS))))))))) _ _ _ _ dX5_set_29 e1 (rfl) e2 hP hD hS
    · refine lv_iload_n hx hb dX5_set_9 rfl (lv_at hl 2 rfl) ?_
      refine va_gets (v := .ref t1) hx hb hZ1 hS hown (hts (.fieldLink RX5 41 "PegClerks" "LEAST" "[I") (by decide +kernel)) (fun _ h9 => h9) dX5_set_10 ?_
      refine lv_iload_n hx hb dX5_set_13 rfl (lv_at hl 1 rfl) ?_
      refine va_ti (v := .int (zLe p0.toNatClampNeg)) hx hb hT1 hS (zin_lh c_1 c_6) rfl dX5_set_14 ?_
      refine lv_icmp_lt (tgt := 27) hx hb dX5_set_15 (by decide) (fun c_15 => ?_) (fun c_15 => ?_)
      · refine lv_bipush (v := (-2 : Int32)) hx hb dX5_set_27 (by decide) ?_
        have E : (f_X5_set vc vh vp vs vt VH VS p0 p1) = ((-2 : Int32), vc, vh, VH) := (if_neg c_1).trans ((if_neg c_6).trans ((if_pos c_15).trans rfl))
        have e1 : (-2 : Int32) = (f_X5_set vc vh vp vs vt VH VS p0 p1).1 := by rw [E]
        have e2 : ((po a (qc 0) (qt 0) (qh 0) (qp 0) (qs 0) (qs 1)) ++ ((ck g qc vc) ++ ((hi g qh (fun j => some (QH j 0)) vh) ++ ((pd g qp vp) ++ ((sl g qs (fun j => some (QS j 0)) vs) ++ ((ck g qt vt) ++ ((hs g QH VH) ++ ((ss g QS VS))))))))) = ((po a (qc 0) (qt 0) (qh 0) (qp 0) (qs 0) (qs 1)) ++ ((ck g qc (f_X5_set vc vh vp vs vt VH VS p0 p1).2.1) ++ ((hi g qh (fun j => some (QH j 0)) (f_X5_set vc vh vp vs vt VH VS p0 p1).2.2.1) ++ ((pd g qp vp) ++ ((sl g qs (fun j => some (QS j 0)) vs) ++ ((ck g qt vt) ++ ((hs g QH (f_X5_set vc vh vp vs vt VH VS p0 p1).2.2.2) ++ ((ss g QS VS))))))))) := by rw [E]
        exact hret (-2 : Int32) ((po a (qc 0) (qt 0) (qh 0) (qp 0) (qs 0) (qs 1)) ++ ((ck g qc vc) ++ ((hi g qh (fun j => some (QH j 0)) vh) ++ ((pd g qp vp) ++ ((sl g qs (fun j => some (QS j 0)) vs) ++ ((ck g qt vt) ++ ((hs g QH VH) ++ ((ss g QS VS))))))))) _ _ _ _ dX5_set_29 e1 (rfl) e2 hP hD hS
      · refine lv_iload_n hx hb dX5_set_18 rfl (lv_at hl 2 rfl) ?_
        refine va_gets (v := .ref t2) hx hb hZ2 hS hown (hts (.fieldLink RX5 45 "PegClerks" "MOST" "[I") (by decide +kernel)) (fun _ h9 => h9) dX5_set_19 ?_
        refine lv_iload_n hx hb dX5_set_22 rfl (lv_at hl 1 rfl) ?_
        refine va_ti (v := .int (zMs p0.toNatClampNeg)) hx hb hT2 hS (zin_lh c_1 c_6) rfl dX5_set_23 ?_
        refine lv_icmp_le (tgt := 30) hx hb dX5_set_24 (by decide) (fun c_24 => ?_) (fun c_24 => ?_)
        · refine lv_aload_n hx hb dX5_set_30 rfl (lv_at hl 0 rfl) ?_
          refine va_get (D := g.1) (ci := 5) (v := .ref (qh 0)) (C := RX5) (T := TX5) (N := 6) hx hb hts (zin_X5_set_X5) hown hK hP 0 rfl rfl 2 (by decide) (hts (.fieldLink RX5 22 "PegClerks" "history" "LPegClerks$History;") (by decide +kernel)) (fun _ h9 => h9) rfl dX5_set_31 ?_
          refine lv_aload_n hx hb dX5_set_34 rfl (lv_at hl 0 rfl) ?_
          refine va_get (D := g.1) (ci := 5) (v := .ref (qc 0)) (C := RX5) (T := TX5) (N := 6) hx hb hts (zin_X5_set_X5) hown hK hP 0 rfl rfl 0 (by decide) (hts (.fieldLink RX5 10 "PegClerks" "clerk" "LPegClerks$Clerk;") (by decide +kernel)) (fun _ h9 => h9) rfl dX5_set_35 ?_
          refine zcVv (n := 1) (As := [.ref (qc 0)]) (rest := []) (Xr := _) (Xn := ((po a (qc 0) (qt 0) (qh 0) (qp 0) (qs 0) (qs 1)) ++ ((ck g qc vc) ++ ((hi g qh (fun j => some (QH j 0)) (r_X5_set_38 vc vh VH).1) ++ ((pd g qp vp) ++ ((sl g qs (fun j => some (QS j 0)) vs) ++ ((ck g qt vt) ++ ((hs g QH (u_X5_set_38 vc vh VH)) ++ ((ss g QS VS)))))))))) (ci := 2) (C := RX2) (T := TX2) (N := 3) (q0 := 0) hx hb hml hown hts hN (m_X2_keep l g qh (fun j => (QH j 0)) vh (QH (vh.1 0).toNatClampNeg) (VH (vh.1 0).toNatClampNeg) qc vc hn rfl hj hf) gX5_set_X2_keep rfl (by decide +kernel) ⟨rfl, rfl⟩ ⟨Nat.le_of_ble_eq_true rfl, Nat.le_of_ble_eq_true rfl⟩ hK hP hD hS hA ((zcat_perm (L := [(po a (qc 0) (qt 0) (qh 0) (qp 0) (qs 0) (qs 1)), (ck g qc vc), (hi g qh (fun j => some (QH j 0)) vh), (pd g qp vp), (sl g qs (fun j => some (QS j 0)) vs), (ck g qt vt), (hs g QH VH), (ss g QS VS)]) (L' := [(hs g QH VH), (po a (qc 0) (qt 0) (qh 0) (qp 0) (qs 0) (qs 1)), (ck g qc vc), (hi g qh (fun j => some (QH j 0)) vh), (pd g qp vp), (sl g qs (fun j => some (QS j 0)) vs), (ck g qt vt), (ss g QS VS)]) ((List.Perm.cons _ (List.Perm.cons _ (List.Perm.cons _ (List.Perm.cons _ (List.Perm.cons _ (List.Perm.swap _ _ _)))))).trans ((List.Perm.cons _ (List.Perm.cons _ (List.Perm.cons _ (List.Perm.cons _ (List.Perm.swap _ _ _))))).trans ((List.Perm.cons _ (List.Perm.cons _ (List.Perm.cons _ (List.Perm.swap _ _ _)))).trans ((List.Perm.cons _ (List.Perm.cons _ (List.Perm.swap _ _ _))).trans ((List.Perm.cons _ (List.Perm.swap _ _ _)).trans (List.Perm.swap _ _ _))))))).trans ((zcat_two (hs_cut g QH VH (zclt hn))).trans (zsplit (L := [(ck g (QH (vh.1 0).toNatClampNeg) (VH (vh.1 0).toNatClampNeg)), (hsr g QH VH (vh.1 0).toNatClampNeg), (po a (qc 0) (qt 0) (qh 0) (qp 0) (qs 0) (qs 1)), (ck g qc vc), (hi g qh (fun j => some (QH j 0)) vh), (pd g qp vp), (sl g qs (fun j => some (QS j 0)) vs), (ck g qt vt), (ss g QS VS)]) (Lc := [(hi g qh (fun j => some (QH j 0)) vh), (ck g (QH (vh.1 0).toNatClampNeg) (VH (vh.1 0).toNatClampNeg)), (ck g qc vc)]) (Lr := [(hsr g QH VH (vh.1 0).toNatClampNeg), (po a (qc 0) (qt 0) (qh 0) (qp 0) (qs 0) (qs 1)), (pd g qp vp), (sl g qs (fun j => some (QS j 0)) vs), (ck g qt vt), (ss g QS VS)]) ((List.Perm.cons _ (List.Perm.cons _ (List.Perm.cons _ (List.Perm.swap _ _ _)))).trans ((List.Perm.cons _ (List.Perm.cons _ (List.Perm.swap _ _ _))).trans ((List.Perm.cons _ (List.Perm.swap _ _ _)).trans ((List.Perm.swap _ _ _).trans ((List.Perm.cons _ (List.Perm.cons _ (List.Perm.cons _ (List.Perm.swap _ _ _)))).trans (List.Perm.cons _ (List.Perm.cons _ (List.Perm.swap _ _ _))))))))))) rfl rfl rfl hl.1 rfl (Nat.le_of_ble_eq_true rfl) dX5_set_38 ⟨Nat.zero_le _, Nat.zero_le _⟩ ((zback (L := [(ck g (QH (vh.1 0).toNatClampNeg) (r_X5_set_38 vc vh VH).2), (hsr g QH VH (vh.1 0).toNatClampNeg), (po a (qc 0) (qt 0) (qh 0) (qp 0) (qs 0) (qs 1)), (ck g qc vc), (hi g qh (fun j => some (QH j 0)) (r_X5_set_38 vc vh VH).1), (pd g qp vp), (sl g qs (fun j => some (QS j 0)) vs), (ck g qt vt), (ss g QS VS)]) (Lc := [(hi g qh (fun j => some (QH j 0)) (r_X5_set_38 vc vh VH).1), (ck g (QH (vh.1 0).toNatClampNeg) (r_X5_set_38 vc vh VH).2), (ck g qc vc)]) (Lr := [(hsr g QH VH (vh.1 0).toNatClampNeg), (po a (qc 0) (qt 0) (qh 0) (qp 0) (qs 0) (qs 1)), (pd g qp vp), (sl g qs (fun j => some (QS j 0)) vs), (ck g qt vt), (ss g QS VS)]) ((List.Perm.cons _ (List.Perm.cons _ (List.Perm.cons _ (List.Perm.swap _ _ _)))).trans ((List.Perm.cons _ (List.Perm.cons _ (List.Perm.swap _ _ _))).trans ((List.Perm.cons _ (List.Perm.swap _ _ _)).trans ((List.Perm.swap _ _ _).trans ((List.Perm.cons _ (List.Perm.cons _ (List.Perm.cons _ (List.Perm.swap _ _ _)))).trans (List.Perm.cons _ (List.Perm.cons _ (List.Perm.swap _ _ _))))))))).trans (((zcat_two (hs_new g QH VH _ (zclt hn)).symm).symm).trans (zcat_perm (L := [(hs g QH (u_X5_set_38 vc vh VH)), (po a (qc 0) (qt 0) (qh 0) (qp 0) (qs 0) (qs 1)), (ck g qc vc), (hi g qh (fun j => some (QH j 0)) (r_X5_set_38 vc vh VH).1), (pd g qp vp), (sl g qs (fun j => some (QS j 0)) vs), (ck g qt vt), (ss g QS VS)]) (L' := [(po a (qc 0) (qt 0) (qh 0) (qp 0) (qs 0) (qs 1)), (ck g qc vc), (hi g qh (fun j => some (QH j 0)) (r_X5_set_38 vc vh VH).1), (pd g qp vp), (sl g qs (fun j => some (QS j 0)) vs), (ck g qt vt), (hs g QH (u_X5_set_38 vc vh VH)), (ss g QS VS)]) ((List.Perm.swap _ _ _).trans ((List.Perm.cons _ (List.Perm.swap _ _ _)).trans ((List.Perm.cons _ (List.Perm.cons _ (List.Perm.swap _ _ _))).trans ((List.Perm.cons _ (List.Perm.cons _ (List.Perm.cons _ (List.Perm.swap _ _ _)))).trans ((List.Perm.cons _ (List.Perm.cons _ (List.Perm.cons _ (List.Perm.cons _ (List.Perm.swap _ _ _))))).trans (List.Perm.cons _ (List.Perm.cons _ (List.Perm.cons _ (List.Perm.cons _ (List.Perm.cons _ (List.Perm.swap _ _ _)))))))))))))) (fun H locs hP hD hS => ?_)
          refine lv_aload_n hx hb dX5_set_41 rfl (lv_at hl 0 rfl) ?_
          refine va_get (D := g.1) (ci := 5) (v := .ref (qc 0)) (C := RX5) (T := TX5) (N := 6) hx hb hts (zin_X5_set_X5) hown hK hP 0 rfl rfl 0 (by decide) (hts (.fieldLink RX5 10 "PegClerks" "clerk" "LPegClerks$Clerk;") (by decide +kernel)) (fun _ h9 => h9) rfl dX5_set_42 ?_
          refine va_get (D := g.1) (ci := 0) (v := .ref (qc 1)) (C := RX0) (T := TX0) (N := 13) hx hb hts (zin_X5_set_X0) hown hK hP 1 rfl rfl 0 (by decide) (hts (.fieldLink RX5 52 "PegClerks$Clerk" "settings" "[I") (by decide +kernel)) (fun _ h9 => h9) rfl dX5_set_45 ?_
          refine lv_iload_n hx hb dX5_set_48 rfl (lv_at hl 1 rfl) ?_
          refine z_iald (f := (vc.2 0)) (k := p0.toNatClampNeg) hx hb hK hP 2 0 rfl rfl (zin_lh c_1 c_6) rfl dX5_set_49 ?_
          refine lv_istore_n (lv' := [(3, .int ((vc.2 0) p0.toNatClampNeg)), (0, .ref a), (1, .int p0), (2, .int p1)]) hx hb dX5_set_50 rfl hl (by decide) rfl (fun ls hl => ?_)
          refine lv_aload_n hx hb dX5_set_51 rfl (lv_at hl 1 rfl) ?_
          refine va_get (D := g.1) (ci := 5) (v := .ref (qc 0)) (C := RX5) (T := TX5) (N := 6) hx hb hts (zin_X5_set_X5) hown hK hP 0 rfl rfl 0 (by decide) (hts (.fieldLink RX5 10 "PegClerks" "clerk" "LPegClerks$Clerk;") (by decide +kernel)) (fun _ h9 => h9) rfl dX5_set_52 ?_
          refine va_get (D := g.1) (ci := 0) (v := .ref (qc 1)) (C := RX0) (T := TX0) (N := 13) hx hb hts (zin_X5_set_X0) hown hK hP 1 rfl rfl 0 (by decide) (hts (.fieldLink RX5 52 "PegClerks$Clerk" "settings" "[I") (by decide +kernel)) (fun _ h9 => h9) rfl dX5_set_55 ?_
          refine lv_iload_n hx hb dX5_set_58 rfl (lv_at hl 2 rfl) ?_
          refine lv_iload_n hx hb dX5_set_59 rfl (lv_at hl 3 rfl) ?_
          refine z_iast (f := (vc.2 0)) (k := p0.toNatClampNeg) hx hb hK hP hD hS 2 0 rfl rfl (zin_lh c_1 c_6) rfl dX5_set_60 (fun H locs hP hD hS => ?_)
          have hP : va_P g.1 vwCl ((po a (qc 0) (qt 0) (qh 0) (qp 0) (qs 0) (qs 1)) ++ ((ck g qc (s_X5_set_60 vc p0 p1)) ++ ((hi g qh (fun j => some (QH j 0)) (r_X5_set_38 vc vh VH).1) ++ ((pd g qp vp) ++ ((sl g qs (fun j => some (QS j 0)) vs) ++ ((ck g qt vt) ++ ((hs g QH (u_X5_set_38 vc vh VH)) ++ ((ss g QS VS))))))))) H := (congrArg (fun z => va_P g.1 vwCl z H) ((zsetR (n := 1) rfl rfl).trans (congrArg (fun z => (po a (qc 0) (qt 0) (qh 0) (qp 0) (qs 0) (qs 1)) ++ z) ((zsetL (n := 10) rfl (by decide)).trans (congrArg (fun z => z ++ ((hi g qh (fun j => some (QH j 0)) (r_X5_set_38 vc vh VH).1) ++ ((pd g qp vp) ++ ((sl g qs (fun j => some (QS j 0)) vs) ++ ((ck g qt vt) ++ ((hs g QH (u_X5_set_38 vc vh VH)) ++ ((ss g QS VS)))))))) (ck_A0 g qc vc (upd (vc.2 0) p0.toNatClampNeg p1))))))).mp hP
          have hD : va_D A ((po a (qc 0) (qt 0) (qh 0) (qp 0) (qs 0) (qs 1)) ++ ((ck g qc (s_X5_set_60 vc p0 p1)) ++ ((hi g qh (fun j => some (QH j 0)) (r_X5_set_38 vc vh VH).1) ++ ((pd g qp vp) ++ ((sl g qs (fun j => some (QS j 0)) vs) ++ ((ck g qt vt) ++ ((hs g QH (u_X5_set_38 vc vh VH)) ++ ((ss g QS VS))))))))) := (congrArg (fun z => va_D A z) ((zsetR (n := 1) rfl rfl).trans (congrArg (fun z => (po a (qc 0) (qt 0) (qh 0) (qp 0) (qs 0) (qs 1)) ++ z) ((zsetL (n := 10) rfl (by decide)).trans (congrArg (fun z => z ++ ((hi g qh (fun j => some (QH j 0)) (r_X5_set_38 vc vh VH).1) ++ ((pd g qp vp) ++ ((sl g qs (fun j => some (QS j 0)) vs) ++ ((ck g qt vt) ++ ((hs g QH (u_X5_set_38 vc vh VH)) ++ ((ss g QS VS)))))))) (ck_A0 g qc vc (upd (vc.2 0) p0.toNatClampNeg p1))))))).mp hD
          refine lv_iload_n hx hb dX5_set_61 rfl (lv_at hl 0 rfl) ?_
          have E : (f_X5_set vc vh vp vs vt VH VS p0 p1) = (((vc.2 0) p0.toNatClampNeg), (s_X5_set_60 vc p0 p1), (r_X5_set_38 vc vh VH).1, (u_X5_set_38 vc vh VH)) := (if_neg c_1).trans ((if_neg c_6).trans ((if_neg c_15).trans ((if_pos c_24).trans rfl)))
          have e1 : ((vc.2 0) p0.toNatClampNeg) = (f_X5_set vc vh vp vs vt VH VS p0 p1).1 := by rw [E]
          have e2 : ((po a (qc 0) (qt 0) (qh 0) (qp 0) (qs 0) (qs 1)) ++ ((ck g qc (s_X5_set_60 vc p0 p1)) ++ ((hi g qh (fun j => some (QH j 0)) (r_X5_set_38 vc vh VH).1) ++ ((pd g qp vp) ++ ((sl g qs (fun j => some (QS j 0)) vs) ++ ((ck g qt vt) ++ ((hs g QH (u_X5_set_38 vc vh VH)) ++ ((ss g QS VS))))))))) = ((po a (qc 0) (qt 0) (qh 0) (qp 0) (qs 0) (qs 1)) ++ ((ck g qc (f_X5_set vc vh vp vs vt VH VS p0 p1).2.1) ++ ((hi g qh (fun j => some (QH j 0)) (f_X5_set vc vh vp vs vt VH VS p0 p1).2.2.1) ++ ((pd g qp vp) ++ ((sl g qs (fun j => some (QS j 0)) vs) ++ ((ck g qt vt) ++ ((hs g QH (f_X5_set vc vh vp vs vt VH VS p0 p1).2.2.2) ++ ((ss g QS VS))))))))) := by rw [E]
          exact hret ((vc.2 0) p0.toNatClampNeg) ((po a (qc 0) (qt 0) (qh 0) (qp 0) (qs 0) (qs 1)) ++ ((ck g qc (s_X5_set_60 vc p0 p1)) ++ ((hi g qh (fun j => some (QH j 0)) (r_X5_set_38 vc vh VH).1) ++ ((pd g qp vp) ++ ((sl g qs (fun j => some (QS j 0)) vs) ++ ((ck g qt vt) ++ ((hs g QH (u_X5_set_38 vc vh VH)) ++ ((ss g QS VS))))))))) _ _ _ _ dX5_set_62 e1 (rfl) e2 hP hD hS
        · refine lv_bipush (v := (-2 : Int32)) hx hb dX5_set_27 (by decide) ?_
          have E : (f_X5_set vc vh vp vs vt VH VS p0 p1) = ((-2 : Int32), vc, vh, VH) := (if_neg c_1).trans ((if_neg c_6).trans ((if_neg c_15).trans ((if_neg c_24).trans rfl)))
          have e1 : (-2 : Int32) = (f_X5_set vc vh vp vs vt VH VS p0 p1).1 := by rw [E]
          have e2 : ((po a (qc 0) (qt 0) (qh 0) (qp 0) (qs 0) (qs 1)) ++ ((ck g qc vc) ++ ((hi g qh (fun j => some (QH j 0)) vh) ++ ((pd g qp vp) ++ ((sl g qs (fun j => some (QS j 0)) vs) ++ ((ck g qt vt) ++ ((hs g QH VH) ++ ((ss g QS VS))))))))) = ((po a (qc 0) (qt 0) (qh 0) (qp 0) (qs 0) (qs 1)) ++ ((ck g qc (f_X5_set vc vh vp vs vt VH VS p0 p1).2.1) ++ ((hi g qh (fun j => some (QH j 0)) (f_X5_set vc vh vp vs vt VH VS p0 p1).2.2.1) ++ ((pd g qp vp) ++ ((sl g qs (fun j => some (QS j 0)) vs) ++ ((ck g qt vt) ++ ((hs g QH (f_X5_set vc vh vp vs vt VH VS p0 p1).2.2.2) ++ ((ss g QS VS))))))))) := by rw [E]
          exact hret (-2 : Int32) ((po a (qc 0) (qt 0) (qh 0) (qp 0) (qs 0) (qs 1)) ++ ((ck g qc vc) ++ ((hi g qh (fun j => some (QH j 0)) vh) ++ ((pd g qp vp) ++ ((sl g qs (fun j => some (QS j 0)) vs) ++ ((ck g qt vt) ++ ((hs g QH VH) ++ ((ss g QS VS))))))))) _ _ _ _ dX5_set_29 e1 (rfl) e2 hP hD hS
