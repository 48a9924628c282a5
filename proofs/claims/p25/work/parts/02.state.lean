/-! The worlds: blocks of cells, and a contract that says just what a method does to them. -/
theorem zP_iff {D : va_G} {cl : List vw_C} {X : va_W} {H : Heap} : va_P D cl X H ↔ ∀ x ∈ X, va_at D cl x H := by
  constructor
  · intro h x hx
    obtain ⟨k, hk⟩ := List.getElem?_of_mem hx
    exact h k x hk
  · intro h k x hk
    exact h x (List.mem_of_getElem? hk)
theorem zD_iff {A : Nat → Prop} {X : va_W} : va_D A X ↔ (X.map Prod.fst).Nodup ∧ ∀ x ∈ X, A x.1 := by
  constructor
  · intro h
    obtain ⟨h1, h2⟩ := h
    refine ⟨?_, fun x hx => ?_⟩
    · rw [List.Nodup, List.pairwise_map, List.pairwise_iff_getElem]
      intro i j hi hj hij e
      exact absurd (h1 i j X[i] X[j] (by simp) (by simp) e) (by omega)
    · obtain ⟨k, hk⟩ := List.getElem?_of_mem hx
      exact h2 k x hk
  · intro h
    obtain ⟨h1, h2⟩ := h
    refine ⟨fun i j p q hi hj e => ?_, fun k q hk => h2 q (List.mem_of_getElem? hk)⟩
    rw [List.Nodup, List.pairwise_map, List.pairwise_iff_getElem] at h1
    obtain ⟨hi', rfl⟩ := List.getElem?_eq_some_iff.mp hi
    obtain ⟨hj', rfl⟩ := List.getElem?_eq_some_iff.mp hj
    rcases Nat.lt_trichotomy i j with h | h | h
    · exact absurd e (h1 i j hi' hj' h)
    · exact h
    · exact absurd e.symm (h1 j i hj' hi' h)
theorem zP_perm {D : va_G} {cl : List vw_C} {X Y : va_W} {H : Heap} (h : va_P D cl X H) (p : X.Perm Y) : va_P D cl Y H := zP_iff.mpr (fun x hx => zP_iff.mp h x (p.mem_iff.mpr hx))
theorem zD_perm {A : Nat → Prop} {X Y : va_W} (h : va_D A X) (p : X.Perm Y) : va_D A Y := by
  obtain ⟨h1, h2⟩ := zD_iff.mp h
  exact zD_iff.mpr ⟨((p.map Prod.fst).nodup_iff).mp h1, fun x hx => h2 x (p.mem_iff.mpr hx)⟩
theorem zD_left {A : Nat → Prop} {X Y : va_W} (h : va_D A (X ++ Y)) : va_D A X := by
  obtain ⟨h1, h2⟩ := zD_iff.mp h
  rw [List.map_append, List.nodup_append] at h1
  exact zD_iff.mpr ⟨h1.1, fun x hx => h2 x (List.mem_append_left _ hx)⟩
theorem zP_left {D : va_G} {cl : List vw_C} {X Y : va_W} {H : Heap} (h : va_P D cl (X ++ Y) H) : va_P D cl X H := zP_iff.mpr (fun x hx => zP_iff.mp h x (List.mem_append_left _ hx))
theorem zP_right {D : va_G} {cl : List vw_C} {X Y : va_W} {H : Heap} (h : va_P D cl (X ++ Y) H) : va_P D cl Y H := zP_iff.mpr (fun x hx => zP_iff.mp h x (List.mem_append_right _ hx))
theorem zjoin {A0 : Nat → Prop} {D : va_G} {cl : List vw_C} {Xc Xr X1 : va_W} {H H1 : Heap} (hP : va_P D cl (Xc ++ Xr) H) (hD : va_D A0 (Xc ++ Xr)) (hk : ∀ q : Nat, q < H.size → ¬ va_A Xc H.size q → H1[q]? = H[q]?) (hF : ∀ q, va_A Xc H.size q → A0 q) (hP1 : va_P D cl X1 H1) (hD1 : va_D (va_A Xc H.size) X1) : va_P D cl (X1 ++ Xr) H1 ∧ va_D A0 (X1 ++ Xr) := by
  obtain ⟨hd1, hd2⟩ := zD_iff.mp hD
  obtain ⟨he1, he2⟩ := zD_iff.mp hD1
  rw [List.map_append, List.nodup_append] at hd1
  obtain ⟨ha, hb, hc⟩ := hd1
  have apart : ∀ x ∈ Xr, x.1 < H.size ∧ ¬ va_A Xc H.size x.1 := by
    intro x hx
    have hl := (zP_iff.mp hP x (List.mem_append_right _ hx)).lt
    refine ⟨hl, fun h => ?_⟩
    rcases h with ⟨k, e, h⟩ | h
    · exact hc x.1 (List.mem_map.mpr ⟨(x.1, e), List.mem_of_getElem? h, rfl⟩) x.1 (List.mem_map.mpr ⟨x, hx, rfl⟩) rfl
    · omega
  refine ⟨zP_iff.mpr (fun x hx => ?_), zD_iff.mpr ⟨?_, fun x hx => ?_⟩⟩
  · rcases List.mem_append.mp hx with h | h
    · exact zP_iff.mp hP1 x h
    · exact (zP_iff.mp hP x (List.mem_append_right _ h)).kept (hk x.1 (apart x h).1 (apart x h).2)
  · rw [List.map_append, List.nodup_append]
    refine ⟨he1, hb, fun a h1 b h2 hab => ?_⟩
    obtain ⟨x, hx, rfl⟩ := List.mem_map.mp h1
    obtain ⟨y, hy, rfl⟩ := List.mem_map.mp h2
    exact (apart y hy).2 (hab ▸ he2 x hx)
  · rcases List.mem_append.mp hx with h | h
    · exact hF x.1 (he2 x h)
    · exact hd2 x (List.mem_append_right _ h)
-- a block's value: its numbers, and its arrays
abbrev zCV : Type := (Nat → Int32) × (Nat → Nat → Int32)
def zS (v : zCV) (k : Nat) (x : Int32) : zCV := (upd v.1 k x, v.2)
def zA (v : zCV) (j : Nat) (f : Nat → Int32) : zCV := (v.1, fun i => if i = j then f else v.2 i)
abbrev zG : Type := va_G × ClassId × ClassId × ClassId × ClassId
def zTy (g : zG) : List (ClassId × FieldType) := [(g.2.1, .int), (g.2.2.1, .boolean), (g.2.2.2.1, .char), (g.2.2.2.2, .object RX0)]
-- the links between nest mates
def zNl : List Cond := [.methodLinkNest RX5 9 yX0_init RX5, .methodLinkNest RX0 17 yX1_init RX5, .methodLinkNest RX0 24 yX4_init RX5, .methodLinkNest RX5 21 yX2_init RX5, .methodLinkNest RX2 9 yX0_init RX5, .methodLinkNest RX5 28 yX3_init RX5, .methodLinkNest RX3 28 yX5_isPlace RX5, .methodLinkNest RX3 32 yX5_isRow RX5]
def zN (U : State) : Prop := ∀ w ∈ zNl, va_Nw w U
theorem zN.warm {s U : State} (hW : s.WarmedH U.vm) (h : zN s) : zN U := by
  intro w hw
  have h1 := h w hw
  simp only [zNl, List.mem_cons, List.not_mem_nil, or_false] at hw
  rcases hw with rfl | rfl | rfl | rfl | rfl | rfl | rfl | rfl <;> exact va_Nw.warmM hW h1
theorem zN.same {u U : State} (hv : u.vm = U.vm) (h : zN u) : zN U := by
  intro w hw
  have h1 := h w hw
  simp only [zNl, List.mem_cons, List.not_mem_nil, or_false] at hw
  rcases hw with rfl | rfl | rfl | rfl | rfl | rfl | rfl | rfl <;> exact va_Nw.same rfl hv h1
-- a contract's start and end
def zPc (g : zG) (X : va_W) (av : List Value) (sz : Nat) : Array Value → State → Prop := va_Pc av (fun U => U.heap.size = sz ∧ va_P g.1 vwCl X U.heap ∧ va_K g.1 vwCl (zTy g) U ∧ va_D (fun _ => True) X ∧ zN U)
theorem zPc_blind {g : zG} {X : va_W} {av : List Value} {sz : Nat} : FrameBlind (zPc g X av sz) := by
  intro a U f mk h
  obtain ⟨q0, q1, qP, qK, qD, qN⟩ := h
  exact ⟨q0, q1, qP, va_K.moved (u := U) (U := U.calling f mk a) (Vm.Alike.refl U.vm) qK, qD, zN.same (u := U) (U := U.calling f mk a) rfl qN⟩
def zEnd (g : zG) (X X' : va_W) (sz : Nat) (t : State) : Prop := va_P g.1 vwCl X' t.heap ∧ va_K g.1 vwCl (zTy g) t ∧ va_D (va_A X sz) X'
def zQi (g : zG) (X : va_W) (r : Int32) (X' : va_W) (sz : Nat) : Array Value → State → Outcome → State → Prop := va_Qi (fun (r' : Int32) (_ : Unit) => r' = r) (fun _ t => zEnd g X X' sz t) (va_A X sz)
def zQv (g : zG) (X : va_W) (X' : va_W) (sz : Nat) : Array Value → State → Outcome → State → Prop := va_Qv (fun (_ : Unit) => True) (fun _ t => zEnd g X X' sz t) (va_A X sz)
def ZI (l : Launch) (y : MethodName) (wsd : List Cond) (rm : Room) (g : zG) (X : va_W) (av : List Value) (r : Int32) (X' : va_W) : Prop := ∀ sz : Nat, Met l y wsd rm (zPc g X av sz) (zQi g X r X' sz) 0 0 (va_A X sz)
def ZV (l : Launch) (y : MethodName) (wsd : List Cond) (rm : Room) (g : zG) (X : va_W) (av : List Value) (X' : va_W) : Prop := ∀ sz : Nat, Met l y wsd rm (zPc g X av sz) (zQv g X X' sz) 0 0 (va_A X sz)
set_option maxHeartbeats 4000000 in
theorem zopenI {l : Launch} {y : MethodName} {wsd ws' : List Cond} {rm : Room} {g : zG} {X : va_W} {av : List Value} {r : Int32} {X' : va_W} {cc : ByteArray} {maxL : Nat} {ret : FieldType} (hy : plainFor y = true) (hw : wsd = Cond.code y cc maxL (some ret) :: ws') (hlen : (lg_sl av).length ≤ maxL)
    (body : ∀ (p : Program) (e : Env) (s : State) (m : MethodId) (below : List Frame) (meth : Method) (c : Code) (A : Nat → Prop) (Q : State → Prop) (ls : Array Slot), p.tables.exec = Jvm.exec → c.code = cc → c.maxLocals = maxL → s.vm.findClass y.cls = some m.cls → (∀ w ∈ wsd, w.before av.toArray s = true) → va_P g.1 vwCl X s.heap → va_K g.1 vwCl (zTy g) s → va_D A X → (∀ q : Nat, s.heap.size ≤ q → A q) → zN s → lv_has ls maxL (lv_args 0 av) →
      (∀ (rv : Int32) (Xn : va_W) (H : Heap) (locs : List Loc) (ls : Array Slot) (pc : Nat), decode cc pc = .ok (.ireturn, 1) → rv = r → narrow ret (.int rv) = .int rv → Xn = X' → va_P g.1 vwCl Xn H → va_D A Xn → va_S A s.heap H locs → W p l e rm s m av.toArray below meth c H locs 0 0 Q (F0 m pc ls [.int rv])) →
      W p l e rm s m av.toArray below meth c s.heap [] 0 0 Q (F0 m 0 ls [])) : ZI l y wsd rm g X av r X' := by
  intro sz
  refine va_MetF (cc := cc) (maxL := maxL) (ret := some ret) hy hw ?_
  intro p e s m args below meth c s₁ B hml hv
  obtain ⟨rfl, hsz, hP, hK, hD0, hN⟩ := hv
  subst hsz
  have hts := atoms_spec (ws := wsd) B.pre
  have hown : s.vm.findClass y.cls = some m.cls := findClass_of_methodNamed B.named
  have hlocks := B.notSynchronized
  have hl := lv_entry av hlen
  rw [lg_entry_eq]
  exact body p e s m below meth c (va_A X s.heap.size) _ _ B.exec B.bytes hml hown hts hP hK hD0.self (fun q h => Or.inr h) hN hl
    (fun rv Xn H locs ls pc hd e1 hn e2 hP1 hD1 hS => W.zret (v := rv) (ty := ret) B.exec B.bytes B.returns hn (fun t ht hW => ⟨⟨rv, (), rfl, e1, by rw [ht, ← e2]; exact hP1, va_K.moved hW.alike hK, by rw [← e2]; exact hD1⟩, hS.F ht⟩) hS.2.2 hd)
set_option maxHeartbeats 4000000 in
theorem zopenV {l : Launch} {y : MethodName} {wsd ws' : List Cond} {rm : Room} {g : zG} {X : va_W} {av : List Value} {X' : va_W} {cc : ByteArray} {maxL : Nat} (hy : plainFor y = true) (hw : wsd = Cond.code y cc maxL none :: ws') (hlen : (lg_sl av).length ≤ maxL)
    (body : ∀ (p : Program) (e : Env) (s : State) (m : MethodId) (below : List Frame) (meth : Method) (c : Code) (A : Nat → Prop) (Q : State → Prop) (ls : Array Slot), p.tables.exec = Jvm.exec → c.code = cc → c.maxLocals = maxL → s.vm.findClass y.cls = some m.cls → (∀ w ∈ wsd, w.before av.toArray s = true) → va_P g.1 vwCl X s.heap → va_K g.1 vwCl (zTy g) s → va_D A X → (∀ q : Nat, s.heap.size ≤ q → A q) → zN s → lv_has ls maxL (lv_args 0 av) →
      (∀ (Xn : va_W) (H : Heap) (locs : List Loc) (ls : Array Slot) (pc : Nat), decode cc pc = .ok (.return_, 1) → Xn = X' → va_P g.1 vwCl Xn H → va_D A Xn → va_S A s.heap H locs → W p l e rm s m av.toArray below meth c H locs 0 0 Q (F0 m pc ls [])) →
      W p l e rm s m av.toArray below meth c s.heap [] 0 0 Q (F0 m 0 ls [])) : ZV l y wsd rm g X av X' := by
  intro sz
  refine va_MetF (cc := cc) (maxL := maxL) (ret := none) hy hw ?_
  intro p e s m args below meth c s₁ B hml hv
  obtain ⟨rfl, hsz, hP, hK, hD0, hN⟩ := hv
  subst hsz
  have hts := atoms_spec (ws := wsd) B.pre
  have hown : s.vm.findClass y.cls = some m.cls := findClass_of_methodNamed B.named
  have hlocks := B.notSynchronized
  have hl := lv_entry av hlen
  rw [lg_entry_eq]
  exact body p e s m below meth c (va_A X s.heap.size) _ _ B.exec B.bytes hml hown hts hP hK hD0.self (fun q h => Or.inr h) hN hl
    (fun Xn H locs ls pc hd e2 hP1 hD1 hS => W.vret B.exec B.bytes B.returns (fun t ht hW => ⟨⟨(), rfl, trivial, by rw [ht, ← e2]; exact hP1, va_K.moved hW.alike hK, by rw [← e2]; exact hD1⟩, hS.F ht⟩) hS.2.2 hd)
section ZC
variable {p : Program} {l : Launch} {e : Env} {R : Room} {s : State} {m : MethodId} {args : Array Value} {below : List Frame} {meth : Method} {c : Code} {H : Heap} {locs : List Loc} {cells slots : Nat} {Q : State → Prop}
variable {pc : Nat} {ls : Array Slot} {rest st : List Value} {A : Nat → Prop} {H0 : Heap} {cc bytes : ByteArray} {nL maxL n index : Nat} {own C host : String} {y : MethodName} {ret : Option FieldType} {wsd ws' Ts : List Cond} {rm : Room} {g : zG} {X Xc Xr Xc' Xn : va_W} {b : Nat} {As : List Value} {r : Int32} {T : u_T} {N ci q0 : Nat} {fs : List Value}
theorem zfree (hD : va_D A Xc) (hS : va_S A H0 H locs) (hA : ∀ q : Nat, H0.size ≤ q → A q) : ∀ q : Nat, va_A Xc H.size q → A q := by
  intro q h
  rcases h with ⟨k, e, h⟩ | h
  · exact (zD_iff.mp hD).2 (q, e) (List.mem_of_getElem? h)
  · exact hA q (Nat.le_trans hS.1 h)
set_option maxHeartbeats 4000000 in
theorem zcVi (hx : p.tables.exec = Jvm.exec) (hb : c.code = cc) (hml : c.maxLocals = nL) (hown : s.vm.findClass own = some m.cls) (hts : ∀ w ∈ Ts, w.before args s = true) (hN : zN s)
    (hM : ZI l y wsd rm g Xc (.ref b :: As) r Xc') (hG : GoodIn Ts (wsV own index C y wsd)) (hw : wsd = Cond.code y bytes maxL ret :: ws') (hd : y.cls = C ∧ y.cls ≠ "java/lang/invoke/MethodHandle" ∧ y.cls ≠ "java/lang/invoke/VarHandle" ∧ (parseMethodDescriptor y.desc).map (fun d => d.parameters.length) = some n) (hrc : rm.cells = 0 ∧ rm.slots = 0) (hR : rm.frames + 1 ≤ R.frames ∧ 8 + (maxL + 11) + rm.locals ≤ R.locals)
    (hK : va_K g.1 vwCl (zTy g) s) (hP : va_P g.1 vwCl X H) (hD : va_D A X) (hS : va_S A H0 H locs) (hA : ∀ q : Nat, H0.size ≤ q → A q) (hX : X.Perm (Xc ++ Xr)) (hcl : vwCl[ci]? = some (C, T, N)) (he : Xc[q0]? = some (b, .inr (ci, fs)))
    (hn : As.length = n) (hsize : ls.size = nL) (hst : st = As.reverse ++ .ref b :: rest) (hroom : (rest.map fun v => v.category).sum ≤ 8) (hdg : decode cc pc = .ok (.invokevirtual index, 3)) (hf : cells ≤ R.cells ∧ slots ≤ R.slots) (hXn : (Xc' ++ Xr).Perm Xn)
    (kk : ∀ (H1 : Heap) (locs1 : List Loc), va_P g.1 vwCl Xn H1 → va_D A Xn → va_S A H0 H1 locs1 → W p l e R s m args below meth c H1 locs1 cells slots Q (F0 m (pc + 3) ls (.int r :: rest))) : W p l e R s m args below meth c H locs cells slots Q (F0 m pc ls st) := by
  subst hst
  have hPc := zP_perm hP hX
  have hDc := zD_perm hD hX
  have hPs := zP_left hPc
  have hDs := zD_left hDc
  have hFc := zfree hDs hS hA
  refine va_calli (va_runV ⟨hx, hb, hml, hown, hts⟩ (hM H.size) (cwV n hts hG hw hrc.1 hrc.2 hd hR) ⟨zPc_blind, va_recv hK hPs hcl he, fun U hU hWm => ⟨rfl, by rw [hU], by rw [hU]; exact hPs, va_K.moved hWm.alike hK, hDs.weaken (fun _ _ _ _ => trivial), zN.warm hWm hN⟩⟩ rfl hn hsize rfl (lv_room hroom) hdg hf) hS (fun q _ h => hFc q h) hFc (fun r1 u t H1 locs1 ht hvm hw1 hB hz hk1 hS1 => ?_)
  subst hw1
  obtain ⟨hP1, hK1, hD1⟩ := hB
  rw [ht] at hP1
  obtain ⟨h1, h2⟩ := zjoin hPc hDc hk1 hFc hP1 hD1
  exact kk H1 locs1 (zP_perm h1 hXn) (zD_perm h2 hXn) hS1
set_option maxHeartbeats 4000000 in
theorem zcVv (hx : p.tables.exec = Jvm.exec) (hb : c.code = cc) (hml : c.maxLocals = nL) (hown : s.vm.findClass own = some m.cls) (hts : ∀ w ∈ Ts, w.before args s = true) (hN : zN s)
    (hM : ZV l y wsd rm g Xc (.ref b :: As) Xc') (hG : GoodIn Ts (wsV own index C y wsd)) (hw : wsd = Cond.code y bytes maxL ret :: ws') (hd : y.cls = C ∧ y.cls ≠ "java/lang/invoke/MethodHandle" ∧ y.cls ≠ "java/lang/invoke/VarHandle" ∧ (parseMethodDescriptor y.desc).map (fun d => d.parameters.length) = some n) (hrc : rm.cells = 0 ∧ rm.slots = 0) (hR : rm.frames + 1 ≤ R.frames ∧ 8 + (maxL + 11) + rm.locals ≤ R.locals)
    (hK : va_K g.1 vwCl (zTy g) s) (hP : va_P g.1 vwCl X H) (hD : va_D A X) (hS : va_S A H0 H locs) (hA : ∀ q : Nat, H0.size ≤ q → A q) (hX : X.Perm (Xc ++ Xr)) (hcl : vwCl[ci]? = some (C, T, N)) (he : Xc[q0]? = some (b, .inr (ci, fs)))
    (hn : As.length = n) (hsize : ls.size = nL) (hst : st = As.reverse ++ .ref b :: rest) (hroom : (rest.map fun v => v.category).sum ≤ 8) (hdg : decode cc pc = .ok (.invokevirtual index, 3)) (hf : cells ≤ R.cells ∧ slots ≤ R.slots) (hXn : (Xc' ++ Xr).Perm Xn)
    (kk : ∀ (H1 : Heap) (locs1 : List Loc), va_P g.1 vwCl Xn H1 → va_D A Xn → va_S A H0 H1 locs1 → W p l e R s m args below meth c H1 locs1 cells slots Q (F0 m (pc + 3) ls rest)) : W p l e R s m args below meth c H locs cells slots Q (F0 m pc ls st) := by
  subst hst
  have hPc := zP_perm hP hX
  have hDc := zD_perm hD hX
  have hPs := zP_left hPc
  have hDs := zD_left hDc
  have hFc := zfree hDs hS hA
  refine va_callv (va_runV ⟨hx, hb, hml, hown, hts⟩ (hM H.size) (cwV n hts hG hw hrc.1 hrc.2 hd hR) ⟨zPc_blind, va_recv hK hPs hcl he, fun U hU hWm => ⟨rfl, by rw [hU], by rw [hU]; exact hPs, va_K.moved hWm.alike hK, hDs.weaken (fun _ _ _ _ => trivial), zN.warm hWm hN⟩⟩ rfl hn hsize rfl (lv_room hroom) hdg hf) hS (fun q _ h => hFc q h) hFc (fun u t H1 locs1 ht hvm hw1 hB hz hk1 hS1 => ?_)
  obtain ⟨hP1, hK1, hD1⟩ := hB
  rw [ht] at hP1
  obtain ⟨h1, h2⟩ := zjoin hPc hDc hk1 hFc hP1 hD1
  exact kk H1 locs1 (zP_perm h1 hXn) (zD_perm h2 hXn) hS1
set_option maxHeartbeats 4000000 in
/-- a static method that reads and writes nothing -/
theorem zcSi (hx : p.tables.exec = Jvm.exec) (hb : c.code = cc) (hml : c.maxLocals = nL) (hown : s.vm.findClass own = some m.cls) (hts : ∀ w ∈ Ts, w.before args s = true) (hN : zN s)
    (hM : ZI l y wsd rm g [] As r []) (hG : GoodIn Ts (va_wsS own index y wsd)) (hw : wsd = Cond.code y bytes maxL ret :: ws') (hd : y.cls ≠ "java/lang/invoke/MethodHandle" ∧ y.cls ≠ "java/lang/invoke/VarHandle" ∧ (parseMethodDescriptor y.desc).map (fun d => d.parameters.length) = some n) (hrc : rm.cells = 0 ∧ rm.slots = 0) (hR : rm.frames + 1 ≤ R.frames ∧ 8 + (maxL + 11) + rm.locals ≤ R.locals)
    (hK : va_K g.1 vwCl (zTy g) s) (hP : va_P g.1 vwCl X H) (hD : va_D A X) (hS : va_S A H0 H locs) (hA : ∀ q : Nat, H0.size ≤ q → A q)
    (hn : As.length = n) (hsize : ls.size = nL) (hst : st = As.reverse ++ rest) (hroom : (rest.map fun v => v.category).sum ≤ 8) (hdg : decode cc pc = .ok (.invokestatic index, 3)) (hf : cells ≤ R.cells ∧ slots ≤ R.slots)
    (kk : ∀ (H1 : Heap) (locs1 : List Loc), va_P g.1 vwCl X H1 → va_D A X → va_S A H0 H1 locs1 → W p l e R s m args below meth c H1 locs1 cells slots Q (F0 m (pc + 3) ls (.int r :: rest))) : W p l e R s m args below meth c H locs cells slots Q (F0 m pc ls st) := by
  subst hst
  have hPc : va_P g.1 vwCl ([] ++ X) H := hP
  have hDc : va_D A ([] ++ X) := hD
  have hPs := zP_left hPc
  have hDs := zD_left hDc
  have hFc := zfree hDs hS hA
  refine va_calli (va_runS ⟨hx, hb, hml, hown, hts⟩ (hM H.size) (va_cwS n hts hG hw hrc.1 hrc.2 hd hR) ⟨zPc_blind, fun U hU hWm => ⟨rfl, by rw [hU], by rw [hU]; exact hPs, va_K.moved hWm.alike hK, hDs.weaken (fun _ _ _ _ => trivial), zN.warm hWm hN⟩⟩ rfl hn hsize rfl (lv_room hroom) hdg hf) hS (fun q _ h => hFc q h) hFc (fun r1 u t H1 locs1 ht hvm hw1 hB hz hk1 hS1 => ?_)
  subst hw1
  obtain ⟨hP1, hK1, hD1⟩ := hB
  rw [ht] at hP1
  obtain ⟨h1, h2⟩ := zjoin hPc hDc hk1 hFc hP1 hD1
  exact kk H1 locs1 h1 h2 hS1
set_option maxHeartbeats 4000000 in
/-- a nest mate's static method that reads and writes nothing -/
theorem zcSNi (hx : p.tables.exec = Jvm.exec) (hb : c.code = cc) (hml : c.maxLocals = nL) (hown : s.vm.findClass own = some m.cls) (hts : ∀ w ∈ Ts, w.before args s = true) (hN : zN s)
    (hM : ZI l y wsd rm g [] As r []) (hG : GoodIn Ts wsd) (hw : wsd = Cond.code y bytes maxL ret :: ws') (hlk : Cond.methodLinkNest own index y host ∈ zNl) (hini : (Cond.initialized y.cls).before args s = true) (hstat : (Cond.static y).before args s = true) (hd : y.cls ≠ "java/lang/invoke/MethodHandle" ∧ y.cls ≠ "java/lang/invoke/VarHandle" ∧ (parseMethodDescriptor y.desc).map (fun d => d.parameters.length) = some n) (hrc : rm.cells = 0 ∧ rm.slots = 0) (hR : rm.frames + 1 ≤ R.frames ∧ 8 + (maxL + 11) + rm.locals ≤ R.locals)
    (hK : va_K g.1 vwCl (zTy g) s) (hP : va_P g.1 vwCl X H) (hD : va_D A X) (hS : va_S A H0 H locs) (hA : ∀ q : Nat, H0.size ≤ q → A q)
    (hn : As.length = n) (hsize : ls.size = nL) (hst : st = As.reverse ++ rest) (hroom : (rest.map fun v => v.category).sum ≤ 8) (hdg : decode cc pc = .ok (.invokestatic index, 3)) (hf : cells ≤ R.cells ∧ slots ≤ R.slots)
    (kk : ∀ (H1 : Heap) (locs1 : List Loc), va_P g.1 vwCl X H1 → va_D A X → va_S A H0 H1 locs1 → W p l e R s m args below meth c H1 locs1 cells slots Q (F0 m (pc + 3) ls (.int r :: rest))) : W p l e R s m args below meth c H locs cells slots Q (F0 m pc ls st) := by
  subst hst
  have hPc : va_P g.1 vwCl ([] ++ X) H := hP
  have hDc : va_D A ([] ++ X) := hD
  have hPs := zP_left hPc
  have hDs := zD_left hDc
  have hFc := zfree hDs hS hA
  refine va_calli (va_runSN ⟨hx, hb, hml, hown, hts⟩ (hM H.size) ⟨va_cnB n hts hG hw hrc.1 hrc.2 (hN _ hlk) hini hd hR, hstat, trivial⟩ ⟨zPc_blind, fun U hU hWm => ⟨rfl, by rw [hU], by rw [hU]; exact hPs, va_K.moved hWm.alike hK, hDs.weaken (fun _ _ _ _ => trivial), zN.warm hWm hN⟩⟩ rfl hn hsize rfl (lv_room hroom) hdg hf) hS (fun q _ h => hFc q h) hFc (fun r1 u t H1 locs1 ht hvm hw1 hB hz hk1 hS1 => ?_)
  subst hw1
  obtain ⟨hP1, hK1, hD1⟩ := hB
  rw [ht] at hP1
  obtain ⟨h1, h2⟩ := zjoin hPc hDc hk1 hFc hP1 hD1
  exact kk H1 locs1 h1 h2 hS1
end ZC
-- the blocks
def ck (g : zG) (q : Nat → Nat) (v : zCV) : va_W := [(q 0, .inr (0, [.ref (q 1), .ref (q 2), .ref (q 5), .int (v.1 5), .int (v.1 6), .int (v.1 7), .int (v.1 8), .int (v.1 9), .int (v.1 10), .int (v.1 11), .int (v.1 12), .int (v.1 13), .int (v.1 14)])),
  (q 1, .inl (g.2.1, 4, .inl (v.2 0))), (q 2, .inr (1, [.ref (q 3), .ref (q 4), .int (v.1 4), .int (v.1 15)])), (q 3, .inl (g.2.1, 16, .inl (v.2 1))), (q 4, .inl (g.2.1, 96, .inl (v.2 2))),
  (q 5, .inr (4, [.ref (q 6), .ref (q 7), .ref (q 8), .ref (q 9)])), (q 6, .inl (g.2.1, 6, .inl (v.2 3))), (q 7, .inl (g.2.1, 6, .inl (v.2 4))), (q 8, .inl (g.2.1, 6, .inl (v.2 5))), (q 9, .inl (g.2.1, 6, .inl (v.2 6)))]
def mo (g : zG) (q : Nat → Nat) (v : zCV) : va_W := [(q 0, .inr (6, [.ref (q 1), .ref (q 2), .ref (q 3), .int (v.1 0), .ref (q 4), .ref (q 5), .ref (q 6), .int (v.1 1), .int (v.1 2), .ref (q 7), .ref (q 8), .int (v.1 3)])),
  (q 1, .inl (g.2.1, 136, .inl (v.2 0))), (q 2, .inl (g.2.1, 136, .inl (v.2 1))), (q 3, .inl (g.2.1, 816, .inl (v.2 2))), (q 4, .inl (g.2.1, 272, .inl (v.2 3))), (q 5, .inl (g.2.1, 2, .inl (v.2 4))), (q 6, .inl (g.2.1, 60, .inl (v.2 5))), (q 7, .inl (g.2.1, 31, .inl (v.2 6))), (q 8, .inl (g.2.1, 31, .inl (v.2 7)))]
/-- the clerk's own cell -/
def po (a qc qt qh qp qs qz : Nat) : va_W := [(a, .inr (5, [.ref qc, .ref qt, .ref qh, .ref qp, .ref qs, .ref qz]))]
/-- the history's two cells: numbers next, kept -/
def hi (g : zG) (q : Nat → Nat) (f : Nat → Option Nat) (v : zCV) : va_W := [(q 0, .inr (2, [.ref (q 1), .int (v.1 0), .int (v.1 1)])), (q 1, .inl (g.2.2.2.2, 6, .inr (.inr (.inr (.inr f)))))]
def pd (g : zG) (q : Nat → Nat) (v : zCV) : va_W := [(q 0, .inr (3, [.ref (q 1), .int (v.1 0)])), (q 1, .inl (g.2.2.2.1, 60, .inl (v.2 0)))]
/-- the slots' row, and which are saved -/
def sl (g : zG) (q : Nat → Nat) (f : Nat → Option Nat) (v : zCV) : va_W := [(q 0, .inl (g.2.2.2.2, 2, .inr (.inr (.inr (.inr f))))), (q 1, .inl (g.2.2.1, 2, .inl (v.2 0)))]
