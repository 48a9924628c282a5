/-! What constructors need: new cells, and contracts whose world comes with addresses. -/
def zPcO (g : zG) (X : va_W) (av : List Value) (sz : Nat) : Array Value → State → Prop := va_Pc av (fun U => U.heap.size = sz ∧ va_P g.1 vwCl X U.heap ∧ va_K g.1 vwCl (zTy g) U ∧ va_D (fun _ => True) X ∧ zN U ∧ va_AO RX0 U)
theorem zPcO_blind {g : zG} {X : va_W} {av : List Value} {sz : Nat} : FrameBlind (zPcO g X av sz) := by
  intro a U f mk h
  obtain ⟨q0, q1, qP, qK, qD, qN, qO⟩ := h
  exact ⟨q0, q1, qP, va_K.moved (u := U) (U := U.calling f mk a) (Vm.Alike.refl U.vm) qK, qD, zN.same (u := U) (U := U.calling f mk a) rfl qN, va_AO.moved (u := U) (U := U.calling f mk a) (Vm.Alike.refl U.vm) qO⟩
def ZC {S : Type} (l : Launch) (y : MethodName) (wsd : List Cond) (rm : Room) (g : zG) (X : va_W) (av : List Value) (post : S → Prop) (B : S → va_W) (mc ms : Nat) : Prop := ∀ sz : Nat, Met l y wsd rm (zPcO g X av sz) (va_Qv post (fun u t => zEnd g X (B u) sz t) (va_A X sz)) mc ms (va_A X sz)
set_option maxHeartbeats 4000000 in
theorem zopenC {S : Type} {l : Launch} {y : MethodName} {wsd ws' : List Cond} {rm : Room} {g : zG} {X : va_W} {av : List Value} {post : S → Prop} {B : S → va_W} {mc ms : Nat} {cc : ByteArray} {maxL : Nat} (hy : plainFor y = true) (hyn : y.name = "<init>") (hw : wsd = Cond.code y cc maxL none :: ws') (hlen : (lg_sl av).length ≤ maxL)
    (body : ∀ (p : Program) (e : Env) (s : State) (m : MethodId) (below : List Frame) (meth : Method) (c : Code) (A : Nat → Prop) (Q : State → Prop) (ls : Array Slot), p.tables.exec = Jvm.exec → c.code = cc → c.maxLocals = maxL → s.vm.findClass y.cls = some m.cls → (∀ w ∈ wsd, w.before av.toArray s = true) → va_P g.1 vwCl X s.heap → va_K g.1 vwCl (zTy g) s → va_D A X → (∀ q : Nat, s.heap.size ≤ q → A q) → zN s → va_AO RX0 s → meth.name = "<init>" → lv_has ls maxL (lv_args 0 av) →
      (∀ (u : S) (Xn : va_W) (H : Heap) (locs : List Loc) (ls : Array Slot) (pc k n : Nat), k ≤ mc → n ≤ ms → decode cc pc = .ok (.return_, 1) → post u → Xn = B u → va_P g.1 vwCl Xn H → va_D A Xn → va_S A s.heap H locs → W p l e rm s m av.toArray below meth c H locs k n Q (F0 m pc ls [])) →
      W p l e rm s m av.toArray below meth c s.heap [] 0 0 Q (F0 m 0 ls [])) : ZC l y wsd rm g X av post B mc ms := by
  intro sz
  refine va_MetF (cc := cc) (maxL := maxL) (ret := none) hy hw ?_
  intro p e s m args below meth c s₁ B1 hml hv
  obtain ⟨rfl, hsz, hP, hK, hD0, hN, hO⟩ := hv
  subst hsz
  have hts := atoms_spec (ws := wsd) B1.pre
  have hown : s.vm.findClass y.cls = some m.cls := findClass_of_methodNamed B1.named
  have hlocks := B1.notSynchronized
  have hin : meth.name = "<init>" := (name_of_methodNamed B1.named B1.method).1.trans hyn
  have hl := lv_entry av hlen
  rw [lg_entry_eq]
  exact body p e s m below meth c (va_A X s.heap.size) _ _ B1.exec B1.bytes hml hown hts hP hK hD0.self (fun q h => Or.inr h) hN hO hin hl
    (fun u Xn H locs ls pc k n hk hn hd hp e2 hP1 hD1 hS => W.widen hk hn (W.vret B1.exec B1.bytes B1.returns (fun t ht hW => ⟨⟨u, rfl, hp, by rw [ht, ← e2]; exact hP1, va_K.moved hW.alike hK, by rw [← e2]; exact hD1⟩, hS.F ht⟩) hS.2.2 hd))
theorem zsnoc {D : va_G} {cl : List vw_C} {L : List va_W} {b : va_W} {H : Heap} (h : va_P D cl (zcat L ++ b) H) : va_P D cl (zcat (L ++ [b])) H := zP_perm h (zcat_app L [b]).symm
theorem zsnocD {A : Nat → Prop} {L : List va_W} {b : va_W} (h : va_D A (zcat L ++ b)) : va_D A (zcat (L ++ [b])) := zD_perm h (zcat_app L [b]).symm
theorem zP_rep {D : va_G} {cl : List vw_C} {X Y : va_W} {a : Nat} {e e' : va_E} {H : Heap} (h : va_P D cl (X ++ ([(a, e)] ++ Y)) H) (he : va_at D cl (a, e) H → va_at D cl (a, e') H) : va_P D cl (X ++ ([(a, e')] ++ Y)) H := by
  rw [zP_iff] at h ⊢
  intro x hx
  rcases List.mem_append.mp hx with h1 | h1
  · exact h x (List.mem_append_left _ h1)
  · rcases List.mem_append.mp h1 with h2 | h2
    · rw [List.mem_singleton.mp h2]
      exact he (h _ (List.mem_append_right _ (List.mem_append_left _ (List.mem_singleton.mpr rfl))))
    · exact h x (List.mem_append_right _ (List.mem_append_right _ h2))
theorem zD_rep {A : Nat → Prop} {X Y : va_W} {a : Nat} {e e' : va_E} (h : va_D A (X ++ ([(a, e)] ++ Y))) : va_D A (X ++ ([(a, e')] ++ Y)) := by
  rw [zD_iff] at h ⊢
  obtain ⟨h1, h2⟩ := h
  refine ⟨by simpa using h1, fun x hx => ?_⟩
  rcases List.mem_append.mp hx with q | q
  · exact h2 x (List.mem_append_left _ q)
  · rcases List.mem_append.mp q with q | q
    · rw [List.mem_singleton.mp q]
      exact h2 (a, e) (List.mem_append_right _ (List.mem_append_left _ (List.mem_singleton.mpr rfl)))
    · exact h2 x (List.mem_append_right _ (List.mem_append_right _ q))
/-- a row of references, by what it holds -/
theorem zat_q {D : va_G} {cl : List vw_C} {a n : Nat} {cA : ClassId} {f f' : Nat → Option Nat} {H : Heap} (hf : ∀ j, j < n → f j = f' j) (h : va_at D cl (a, .inl (cA, n, .inr (.inr (.inr (.inr f))))) H) : va_at D cl (a, .inl (cA, n, .inr (.inr (.inr (.inr f'))))) H := by
  have e : vp_cell cA (n, .inr (.inr (.inr (.inr f)))) = vp_cell cA (n, .inr (.inr (.inr (.inr f')))) := by
    show arrV cA n (fun j => va_rf (f j)) = arrV cA n (fun j => va_rf (f' j))
    unfold arrV
    congr 1
    apply Array.ext
    · simp
    · intro j h1 h2
      simp only [Array.getElem_ofFn]
      rw [hf j (by simpa using h1)]
  exact (show H[a]? = _ from h).trans (congrArg some e)
section ZNW
variable {p : Program} {l : Launch} {e : Env} {R : Room} {s : State} {m : MethodId} {args : Array Value} {below : List Frame} {meth : Method} {c : Code} {H : Heap} {locs : List Loc} {cells slots : Nat} {Q : State → Prop}
variable {cc : ByteArray} {pc : Nat} {ls : Array Slot} {rest st : List Value} {A : Nat → Prop} {H0 : Heap} {g : zG} {L : List va_W}
theorem z_newi (hexec : p.tables.exec = Jvm.exec) (hb : c.code = cc) (harr : (Cond.arrayClass (newarray.typeOf .int)).before args s = true) (hK : va_K g.1 vwCl (zTy g) s) (hP : va_P g.1 vwCl (zcat L) H) (hD : va_D A (zcat L)) (hS : va_S A H0 H locs) (hA : ∀ q : Nat, H0.size ≤ q → A q)
    {n : Int32} {N : Nat} (hn : ¬ n < 0) (hN : n.toNatClampNeg = N) (hbytes : N * componentBytes .int ≤ 536870912) (hcells : cells + 1 ≤ R.cells) (hslots : slots + N ≤ R.slots) (hdg : decode cc pc = .ok (.newarray .int, 2))
    (kk : ∀ (q : Nat) (H1 : Heap), va_P g.1 vwCl (zcat (L ++ [[(q, .inl (g.2.1, N, .inl (fun _ => 0)))]])) H1 → va_D A (zcat (L ++ [[(q, .inl (g.2.1, N, .inl (fun _ => 0)))]])) → va_S A H0 H1 locs →
      W p l e R s m args below meth c H1 locs (cells + 1) (slots + N) Q (F0 m (pc + 2) ls (.ref q :: rest))) : W p l e R s m args below meth c H locs cells slots Q (F0 m pc ls (.int n :: rest)) := by
  refine va_newa (atype := .int) (ty := .int) (a0 := (N, .inl (fun _ => 0))) hexec hb harr rfl hK hP hD hS hA (fun cA => rfl) hn hN hbytes hcells hslots hdg (fun q cA H1 hK1 hP1 hD1 hS1 => ?_)
  have e1 := va_nm_int (hK1.2 4 (cA, .int) rfl).2
  have e2 := va_nm_int (hK.2 0 (g.2.1, .int) rfl).2
  obtain rfl : cA = g.2.1 := Option.some.inj (e1.symm.trans e2)
  exact kk q H1 (zsnoc hP1) (zsnocD hD1) hS1
theorem z_newc (hexec : p.tables.exec = Jvm.exec) (hb : c.code = cc) (harr : (Cond.arrayClass (newarray.typeOf .char)).before args s = true) (hK : va_K g.1 vwCl (zTy g) s) (hP : va_P g.1 vwCl (zcat L) H) (hD : va_D A (zcat L)) (hS : va_S A H0 H locs) (hA : ∀ q : Nat, H0.size ≤ q → A q)
    {n : Int32} {N : Nat} (hn : ¬ n < 0) (hN : n.toNatClampNeg = N) (hbytes : N * componentBytes .char ≤ 536870912) (hcells : cells + 1 ≤ R.cells) (hslots : slots + N ≤ R.slots) (hdg : decode cc pc = .ok (.newarray .char, 2))
    (kk : ∀ (q : Nat) (H1 : Heap), va_P g.1 vwCl (zcat (L ++ [[(q, .inl (g.2.2.2.1, N, .inl (fun _ => 0)))]])) H1 → va_D A (zcat (L ++ [[(q, .inl (g.2.2.2.1, N, .inl (fun _ => 0)))]])) → va_S A H0 H1 locs →
      W p l e R s m args below meth c H1 locs (cells + 1) (slots + N) Q (F0 m (pc + 2) ls (.ref q :: rest))) : W p l e R s m args below meth c H locs cells slots Q (F0 m pc ls (.int n :: rest)) := by
  refine va_newa (atype := .char) (ty := .char) (a0 := (N, .inl (fun _ => 0))) hexec hb harr rfl hK hP hD hS hA (fun cA => rfl) hn hN hbytes hcells hslots hdg (fun q cA H1 hK1 hP1 hD1 hS1 => ?_)
  have e1 := va_nm_char (hK1.2 4 (cA, .char) rfl).2
  have e2 := va_nm_char (hK.2 2 (g.2.2.2.1, .char) rfl).2
  obtain rfl : cA = g.2.2.2.1 := Option.some.inj (e1.symm.trans e2)
  exact kk q H1 (zsnoc hP1) (zsnocD hD1) hS1
theorem z_newz (hexec : p.tables.exec = Jvm.exec) (hb : c.code = cc) (harr : (Cond.arrayClass (newarray.typeOf .boolean)).before args s = true) (hK : va_K g.1 vwCl (zTy g) s) (hP : va_P g.1 vwCl (zcat L) H) (hD : va_D A (zcat L)) (hS : va_S A H0 H locs) (hA : ∀ q : Nat, H0.size ≤ q → A q)
    {n : Int32} {N : Nat} (hn : ¬ n < 0) (hN : n.toNatClampNeg = N) (hbytes : N * componentBytes .boolean ≤ 536870912) (hcells : cells + 1 ≤ R.cells) (hslots : slots + N ≤ R.slots) (hdg : decode cc pc = .ok (.newarray .boolean, 2))
    (kk : ∀ (q : Nat) (H1 : Heap), va_P g.1 vwCl (zcat (L ++ [[(q, .inl (g.2.2.1, N, .inl (fun _ => 0)))]])) H1 → va_D A (zcat (L ++ [[(q, .inl (g.2.2.1, N, .inl (fun _ => 0)))]])) → va_S A H0 H1 locs →
      W p l e R s m args below meth c H1 locs (cells + 1) (slots + N) Q (F0 m (pc + 2) ls (.ref q :: rest))) : W p l e R s m args below meth c H locs cells slots Q (F0 m pc ls (.int n :: rest)) := by
  refine va_newa (atype := .boolean) (ty := .boolean) (a0 := (N, .inl (fun _ => 0))) hexec hb harr rfl hK hP hD hS hA (fun cA => rfl) hn hN hbytes hcells hslots hdg (fun q cA H1 hK1 hP1 hD1 hS1 => ?_)
  have e1 := va_nm_boolean (hK1.2 4 (cA, .boolean) rfl).2
  have e2 := va_nm_boolean (hK.2 1 (g.2.2.1, .boolean) rfl).2
  obtain rfl : cA = g.2.2.1 := Option.some.inj (e1.symm.trans e2)
  exact kk q H1 (zsnoc hP1) (zsnocD hD1) hS1
theorem z_newq (hexec : p.tables.exec = Jvm.exec) (hb : c.code = cc) {own : String} {index : Nat} (hown : s.vm.findClass own = some m.cls) (hclink : (Cond.classLink own index RX0).before args s = true) (hover : va_AO RX0 s) (hK : va_K g.1 vwCl (zTy g) s) (hP : va_P g.1 vwCl (zcat L) H) (hD : va_D A (zcat L)) (hS : va_S A H0 H locs) (hA : ∀ q : Nat, H0.size ≤ q → A q)
    {n : Int32} {N : Nat} (hn : ¬ n < 0) (hN : n.toNatClampNeg = N) (hbytes : N * 4 ≤ 536870912) (hcells : cells + 1 ≤ R.cells) (hslots : slots + N ≤ R.slots) (hdg : decode cc pc = .ok (.anewarray index, 3))
    (kk : ∀ (q : Nat) (H1 : Heap), va_P g.1 vwCl (zcat (L ++ [[(q, .inl (g.2.2.2.2, N, .inr (.inr (.inr (.inr (fun _ => none))))))]])) H1 → va_D A (zcat (L ++ [[(q, .inl (g.2.2.2.2, N, .inr (.inr (.inr (.inr (fun _ => none))))))]])) → va_S A H0 H1 locs →
      W p l e R s m args below meth c H1 locs (cells + 1) (slots + N) Q (F0 m (pc + 3) ls (.ref q :: rest))) : W p l e R s m args below meth c H locs cells slots Q (F0 m pc ls (.int n :: rest)) := by
  refine va_newq (C := RX0) hexec hb hown hclink hover hK hP hD hS hA hn hN hbytes hcells hslots hdg (fun q cA H1 hK1 hP1 hD1 hS1 => ?_)
  obtain ⟨-, -, -, -, -, e1⟩ := (hK1.2 4 (cA, .object RX0) rfl).2
  obtain ⟨-, -, -, -, -, e2⟩ := (hK.2 3 (g.2.2.2.2, .object RX0) rfl).2
  obtain rfl : cA = g.2.2.2.2 := Option.some.inj (e1.symm.trans e2)
  exact kk q H1 (zsnoc hP1) (zsnocD hD1) hS1
theorem z_new {own C : String} {T : u_T} {N ci index : Nat} {Ts : List Cond} (hexec : p.tables.exec = Jvm.exec) (hb : c.code = cc) (hts : ∀ w ∈ Ts, w.before args s = true) (hin : ∀ w ∈ u_ws C T N, w ∈ Ts) (ty : Nat → FieldType) (hty : ∀ k, k < N → parseFieldDescriptor (T k).2.2.1 = some (ty k)) (hown : s.vm.findClass own = some m.cls) (hcl : (Cond.classLink own index C).before args s = true) (hinst : (Cond.instantiable C N).before args s = true) (hini : (Cond.initialized C).before args s = true)
    (hK : va_K g.1 vwCl (zTy g) s) (hP : va_P g.1 vwCl (zcat L) H) (hD : va_D A (zcat L)) (hS : va_S A H0 H locs) (hA : ∀ q : Nat, H0.size ≤ q → A q) (hc : vwCl[ci]? = some (C, T, N)) {fs : List Value} (hfs : ∀ j, j < N → defaultValue (ty j) = vp_V fs j) (hcells : cells + 1 ≤ R.cells) (hslots : slots + N ≤ R.slots) (hdg : decode cc pc = .ok (.new index, 3))
    (kk : ∀ (q : Nat) (H1 : Heap), va_P g.1 vwCl (zcat (L ++ [[(q, .inr (ci, fs))]])) H1 → va_D A (zcat (L ++ [[(q, .inr (ci, fs))]])) → va_S A H0 H1 locs →
      W p l e R s m args below meth c H1 locs (cells + 1) (slots + N) Q (F0 m (pc + 3) ls (.ref q :: rest))) : W p l e R s m args below meth c H locs cells slots Q (F0 m pc ls rest) :=
  va_new hexec hb hts hin ty hty hown hcl hinst hini hK hP hD hS hA hc hfs hcells hslots hdg (fun q H1 hP1 hD1 hS1 => kk q H1 (zsnoc hP1) (zsnocD hD1) hS1)
theorem z_astq {tys : List (ClassId × FieldType)} {D : va_G} {cl : List vw_C} {ws : va_W} {a : Nat} (hexec : p.tables.exec = Jvm.exec) (hb : c.code = cc) (hK : va_K D cl tys s) (hP : va_P D cl ws H) (hD : va_D A ws) (hS : va_S A H0 H locs) (q0 t0 qk ci : Nat) {cA : ClassId} {r : vw_C} {n v k : Nat} {vs : List Value} {f : Nat → Option Nat} (ha : ws[q0]? = some (a, .inl (cA, n, .inr (.inr (.inr (.inr f)))))) (ht : tys[t0]? = some (cA, .object r.1)) (hv : ws[qk]? = some (v, .inr (ci, vs))) (hc : cl[ci]? = some r) {i : Int32} (hin : vp_in i n) (hk : i.toNatClampNeg = k) (hdg : decode cc pc = .ok (.aastore, 1))
    (kk : ∀ (H1 : Heap) (locs1 : List Loc), va_P D cl (ws.set q0 (a, .inl (cA, n, .inr (.inr (.inr (.inr (va_up f k (some v)))))))) H1 → va_D A (ws.set q0 (a, .inl (cA, n, .inr (.inr (.inr (.inr (va_up f k (some v)))))))) → va_S A H0 H1 locs1 → W p l e R s m args below meth c H1 locs1 cells slots Q (F0 m (pc + 1) ls rest)) : W p l e R s m args below meth c H locs cells slots Q (F0 m pc ls (.ref v :: .int i :: .ref a :: rest)) := by
  subst hk
  exact va_astq hexec hb hK hP hD hS q0 t0 qk ci ha ht hv hc hin hdg kk
set_option maxHeartbeats 4000000 in
theorem zcIN {S : Type} {own host : String} {bytes : ByteArray} {nL maxL n index mc ms b : Nat} {y : MethodName} {wsd ws' Ts : List Cond} {rm : Room} {Xc : va_W} {Lr : List va_W} {As : List Value} {post : S → Prop} {B : S → va_W} (hx : p.tables.exec = Jvm.exec) (hb : c.code = cc) (hml : c.maxLocals = nL) (hown : s.vm.findClass own = some m.cls) (hts : ∀ w ∈ Ts, w.before args s = true) (hN : zN s) (hO : va_AO RX0 s)
    (hM : ZC l y wsd rm g Xc (.ref b :: As) post B mc ms) (hG : GoodIn Ts wsd) (hw : wsd = Cond.code y bytes maxL none :: ws') (hlk : Cond.methodLinkNest own index y host ∈ zNl) (hini : (Cond.initialized y.cls).before args s = true) (hinst : (Cond.instanceMethod y).before args s = true) (hyn : y.name = "<init>") (hd : y.cls ≠ "java/lang/invoke/MethodHandle" ∧ y.cls ≠ "java/lang/invoke/VarHandle" ∧ (parseMethodDescriptor y.desc).map (fun d => d.parameters.length) = some n) (hrc : rm.cells = mc ∧ rm.slots = ms) (hR : rm.frames + 1 ≤ R.frames ∧ 8 + (maxL + 11) + rm.locals ≤ R.locals)
    (hK : va_K g.1 vwCl (zTy g) s) (hP : va_P g.1 vwCl (zcat L) H) (hD : va_D A (zcat L)) (hS : va_S A H0 H locs) (hA : ∀ q : Nat, H0.size ≤ q → A q) (hL : L = Lr ++ [Xc])
    (hn : As.length = n) (hsize : ls.size = nL) (hst : st = As.reverse ++ .ref b :: rest) (hroom : (rest.map fun v => v.category).sum ≤ 8) (hdg : decode cc pc = .ok (.invokespecial index, 3)) (hf : cells + mc ≤ R.cells ∧ slots + ms ≤ R.slots)
    (kk : ∀ (u : S) (H1 : Heap) (locs1 : List Loc), post u → va_P g.1 vwCl (zcat (Lr ++ [B u])) H1 → va_D A (zcat (Lr ++ [B u])) → va_S A H0 H1 locs1 → W p l e R s m args below meth c H1 locs1 (cells + mc) (slots + ms) Q (F0 m (pc + 3) ls rest)) : W p l e R s m args below meth c H locs cells slots Q (F0 m pc ls st) := by
  subst hst
  subst hL
  have hpm : (zcat (Lr ++ [Xc])).Perm (Xc ++ zcat Lr) := (zcat_app Lr [Xc]).trans List.perm_append_comm
  have hPc := zP_perm hP hpm
  have hDc := zD_perm hD hpm
  have hPs := zP_left hPc
  have hDs := zD_left hDc
  have hFc := zfree hDs hS hA
  refine va_callv (va_runIN ⟨hx, hb, hml, hown, hts⟩ (hM H.size) ⟨va_cnB n hts hG hw hrc.1 hrc.2 (hN _ hlk) hini hd hR, hyn, hinst⟩ ⟨zPcO_blind, fun U hU hWm => ⟨rfl, by rw [hU], by rw [hU]; exact hPs, va_K.moved hWm.alike hK, hDs.weaken (fun _ _ _ _ => trivial), zN.warm hWm hN, va_AO.moved hWm.alike hO⟩⟩ rfl hn hsize rfl (lv_room hroom) hdg hf) hS (fun q _ h => hFc q h) hFc (fun u t H1 locs1 ht hvm hw1 hB hz hk1 hS1 => ?_)
  obtain ⟨hP1, hK1, hD1⟩ := hB
  rw [ht] at hP1
  obtain ⟨h1, h2⟩ := zjoin hPc hDc hk1 hFc hP1 hD1
  have hpm2 : (B u ++ zcat Lr).Perm (zcat (Lr ++ [B u])) := List.perm_append_comm.trans (zcat_app Lr [B u]).symm
  exact kk u H1 locs1 hw1 (zP_perm h1 hpm2) (zD_perm h2 hpm2) hS1
set_option maxHeartbeats 4000000 in
theorem zcIp {S : Type} {own : String} {bytes : ByteArray} {nL maxL n index mc ms b : Nat} {y : MethodName} {wsd ws' Ts : List Cond} {rm : Room} {Xc : va_W} {Lr : List va_W} {As : List Value} {post : S → Prop} {B : S → va_W} (hx : p.tables.exec = Jvm.exec) (hb : c.code = cc) (hml : c.maxLocals = nL) (hown : s.vm.findClass own = some m.cls) (hts : ∀ w ∈ Ts, w.before args s = true) (hN : zN s) (hO : va_AO RX0 s)
    (hM : ZC l y wsd rm g Xc (.ref b :: As) post B mc ms) (hG : GoodIn Ts wsd) (hw : wsd = Cond.code y bytes maxL none :: ws') (hlk : (Cond.methodLink own index y).before args s = true) (hini : (Cond.initialized y.cls).before args s = true) (hinst : (Cond.instanceMethod y).before args s = true) (hyn : y.name = "<init>") (hd : y.cls ≠ "java/lang/invoke/MethodHandle" ∧ y.cls ≠ "java/lang/invoke/VarHandle" ∧ (parseMethodDescriptor y.desc).map (fun d => d.parameters.length) = some n) (hrc : rm.cells = mc ∧ rm.slots = ms) (hR : rm.frames + 1 ≤ R.frames ∧ 8 + (maxL + 11) + rm.locals ≤ R.locals)
    (hK : va_K g.1 vwCl (zTy g) s) (hP : va_P g.1 vwCl (zcat L) H) (hD : va_D A (zcat L)) (hS : va_S A H0 H locs) (hA : ∀ q : Nat, H0.size ≤ q → A q) (hL : L = Lr ++ [Xc])
    (hn : As.length = n) (hsize : ls.size = nL) (hst : st = As.reverse ++ .ref b :: rest) (hroom : (rest.map fun v => v.category).sum ≤ 8) (hdg : decode cc pc = .ok (.invokespecial index, 3)) (hf : cells + mc ≤ R.cells ∧ slots + ms ≤ R.slots)
    (kk : ∀ (u : S) (H1 : Heap) (locs1 : List Loc), post u → va_P g.1 vwCl (zcat (Lr ++ [B u])) H1 → va_D A (zcat (Lr ++ [B u])) → va_S A H0 H1 locs1 → W p l e R s m args below meth c H1 locs1 (cells + mc) (slots + ms) Q (F0 m (pc + 3) ls rest)) : W p l e R s m args below meth c H locs cells slots Q (F0 m pc ls st) := by
  subst hst
  subst hL
  have hpm : (zcat (Lr ++ [Xc])).Perm (Xc ++ zcat Lr) := (zcat_app Lr [Xc]).trans List.perm_append_comm
  have hPc := zP_perm hP hpm
  have hDc := zD_perm hD hpm
  have hPs := zP_left hPc
  have hDs := zD_left hDc
  have hFc := zfree hDs hS hA
  refine va_callv (va_runI ⟨hx, hb, hml, hown, hts⟩ (hM H.size) (cwI n hts hG hw hrc.1 hrc.2 hini hlk hinst hyn hd hR) ⟨zPcO_blind, fun U hU hWm => ⟨rfl, by rw [hU], by rw [hU]; exact hPs, va_K.moved hWm.alike hK, hDs.weaken (fun _ _ _ _ => trivial), zN.warm hWm hN, va_AO.moved hWm.alike hO⟩⟩ rfl hn hsize rfl (lv_room hroom) hdg hf) hS (fun q _ h => hFc q h) hFc (fun u t H1 locs1 ht hvm hw1 hB hz hk1 hS1 => ?_)
  obtain ⟨hP1, hK1, hD1⟩ := hB
  rw [ht] at hP1
  obtain ⟨h1, h2⟩ := zjoin hPc hDc hk1 hFc hP1 hD1
  have hpm2 : (B u ++ zcat Lr).Perm (zcat (Lr ++ [B u])) := List.perm_append_comm.trans (zcat_app Lr [B u]).symm
  exact kk u H1 locs1 hw1 (zP_perm h1 hpm2) (zD_perm h2 hpm2) hS1
end ZNW
