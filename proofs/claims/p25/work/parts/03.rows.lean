/-! Rows with the index told as a number, and bounds. -/
theorem zlit (x : Int32) (n : Nat) (h : 0 ≤ x.toInt ∧ x.toInt < (n : Int)) : vp_in x n := vp_in_iff.mpr h
theorem zin_mono {x : Int32} {k n : Nat} (h : vp_in x k) (hk : k ≤ n) : vp_in x n := by
  obtain ⟨h1, h2⟩ := vp_in_iff.mp h
  exact vp_in_iff.mpr ⟨h1, by omega⟩
theorem zin_add {c k n : Nat} {C x : Int32} (hC : C = nI c) (h : vp_in x k) (hc : c + k ≤ n) (hn : n < 2147483648) : vp_in (C + x) n := by
  obtain ⟨j, hj, rfl⟩ := vp_in_of h (by omega)
  subst hC
  rw [nI_add]
  exact vp_in_nI (by omega) (by omega)
theorem zrng (x : Int32) : -2147483648 ≤ x.toInt ∧ x.toInt < 2147483648 := ⟨Int32.le_toInt x, Int32.toInt_lt x⟩
theorem zclamp (x : Int32) : x.toNatClampNeg = x.toInt.toNat := rfl
theorem zge0 {b : Int32} {i : Nat} (h : i = b.toNatClampNeg) : b ≤ nI i := by
  have hr := zrng b
  have h1 := zclamp b
  rw [Int32.le_iff_toInt_le, nI_toInt (by omega)]
  omega
theorem zge1 {b : Int32} {i : Nat} (h : i < b.toNatClampNeg) : ¬ b ≤ nI i := by
  have hr := zrng b
  have h1 := zclamp b
  rw [Int32.le_iff_toInt_le, nI_toInt (by omega)]
  omega
theorem zpn (X : va_W) : X.Perm (X ++ []) := by rw [List.append_nil]
theorem zpn' (X : va_W) : (X ++ []).Perm X := by rw [List.append_nil]
section ZR
variable {p : Program} {l : Launch} {e : Env} {R : Room} {s : State} {m : MethodId} {args : Array Value} {below : List Frame} {meth : Method} {c : Code} {H : Heap} {locs : List Loc} {cells slots : Nat} {Q : State → Prop}
variable {cc : ByteArray} {pc : Nat} {ls : Array Slot} {rest : List Value} {D : va_G} {cl : List vw_C} {A : Nat → Prop} {a : Nat} {tys : List (ClassId × FieldType)} {ws : va_W} {H0 : Heap} {cA : ClassId} {n k : Nat} {f : Nat → Int32} {i x : Int32}
theorem z_iald (hexec : p.tables.exec = Jvm.exec) (hb : c.code = cc) (hK : va_K D cl tys s) (hP : va_P D cl ws H) (q0 t0 : Nat) (ha : ws[q0]? = some (a, .inl (cA, n, .inl f))) (ht : tys[t0]? = some (cA, .int)) (hin : vp_in i n) (hk : i.toNatClampNeg = k) (hdg : decode cc pc = .ok (.iaload, 1))
    (kk : W p l e R s m args below meth c H locs cells slots Q (F0 m (pc + 1) ls (.int (f k) :: rest))) : W p l e R s m args below meth c H locs cells slots Q (F0 m pc ls (.int i :: .ref a :: rest)) := by
  subst hk
  exact va_iald hexec hb hK hP q0 t0 ha ht hin hdg kk
theorem z_cald (hexec : p.tables.exec = Jvm.exec) (hb : c.code = cc) (hK : va_K D cl tys s) (hP : va_P D cl ws H) (q0 t0 : Nat) (ha : ws[q0]? = some (a, .inl (cA, n, .inl f))) (ht : tys[t0]? = some (cA, .char)) (hin : vp_in i n) (hk : i.toNatClampNeg = k) (hdg : decode cc pc = .ok (.caload, 1))
    (kk : W p l e R s m args below meth c H locs cells slots Q (F0 m (pc + 1) ls (.int (f k) :: rest))) : W p l e R s m args below meth c H locs cells slots Q (F0 m pc ls (.int i :: .ref a :: rest)) := by
  subst hk
  exact va_cald hexec hb hK hP q0 t0 ha ht hin hdg kk
theorem z_zald (hexec : p.tables.exec = Jvm.exec) (hb : c.code = cc) (hK : va_K D cl tys s) (hP : va_P D cl ws H) (q0 t0 : Nat) (ha : ws[q0]? = some (a, .inl (cA, n, .inl f))) (ht : tys[t0]? = some (cA, .boolean)) (hin : vp_in i n) (hk : i.toNatClampNeg = k) (hdg : decode cc pc = .ok (.baload, 1))
    (kk : W p l e R s m args below meth c H locs cells slots Q (F0 m (pc + 1) ls (.int (f k) :: rest))) : W p l e R s m args below meth c H locs cells slots Q (F0 m pc ls (.int i :: .ref a :: rest)) := by
  subst hk
  exact va_zald hexec hb hK hP q0 t0 ha ht hin hdg kk
theorem z_iast (hexec : p.tables.exec = Jvm.exec) (hb : c.code = cc) (hK : va_K D cl tys s) (hP : va_P D cl ws H) (hD : va_D A ws) (hS : va_S A H0 H locs) (q0 t0 : Nat) (ha : ws[q0]? = some (a, .inl (cA, n, .inl f))) (ht : tys[t0]? = some (cA, .int)) (hin : vp_in i n) (hk : i.toNatClampNeg = k) (hdg : decode cc pc = .ok (.iastore, 1))
    (kk : ∀ (H1 : Heap) (locs1 : List Loc), va_P D cl (ws.set q0 (a, .inl (cA, n, .inl (upd f k x)))) H1 → va_D A (ws.set q0 (a, .inl (cA, n, .inl (upd f k x)))) → va_S A H0 H1 locs1 → W p l e R s m args below meth c H1 locs1 cells slots Q (F0 m (pc + 1) ls rest)) : W p l e R s m args below meth c H locs cells slots Q (F0 m pc ls (.int x :: .int i :: .ref a :: rest)) := by
  subst hk
  exact va_iast hexec hb hK hP hD hS q0 t0 ha ht hin hdg kk
theorem z_cast (hexec : p.tables.exec = Jvm.exec) (hb : c.code = cc) (hK : va_K D cl tys s) (hP : va_P D cl ws H) (hD : va_D A ws) (hS : va_S A H0 H locs) (q0 t0 : Nat) (ha : ws[q0]? = some (a, .inl (cA, n, .inl f))) (ht : tys[t0]? = some (cA, .char)) (hin : vp_in i n) (hk : i.toNatClampNeg = k) (hdg : decode cc pc = .ok (.castore, 1))
    (kk : ∀ (H1 : Heap) (locs1 : List Loc), va_P D cl (ws.set q0 (a, .inl (cA, n, .inl (upd f k (vp_nar .char x))))) H1 → va_D A (ws.set q0 (a, .inl (cA, n, .inl (upd f k (vp_nar .char x))))) → va_S A H0 H1 locs1 → W p l e R s m args below meth c H1 locs1 cells slots Q (F0 m (pc + 1) ls rest)) : W p l e R s m args below meth c H locs cells slots Q (F0 m pc ls (.int x :: .int i :: .ref a :: rest)) := by
  subst hk
  exact va_cast hexec hb hK hP hD hS q0 t0 ha ht hin hdg kk
theorem z_zast (hexec : p.tables.exec = Jvm.exec) (hb : c.code = cc) (hK : va_K D cl tys s) (hP : va_P D cl ws H) (hD : va_D A ws) (hS : va_S A H0 H locs) (q0 t0 : Nat) (ha : ws[q0]? = some (a, .inl (cA, n, .inl f))) (ht : tys[t0]? = some (cA, .boolean)) (hin : vp_in i n) (hk : i.toNatClampNeg = k) (hdg : decode cc pc = .ok (.bastore, 1))
    (kk : ∀ (H1 : Heap) (locs1 : List Loc), va_P D cl (ws.set q0 (a, .inl (cA, n, .inl (upd f k (vp_nar .boolean x))))) H1 → va_D A (ws.set q0 (a, .inl (cA, n, .inl (upd f k (vp_nar .boolean x))))) → va_S A H0 H1 locs1 → W p l e R s m args below meth c H1 locs1 cells slots Q (F0 m (pc + 1) ls rest)) : W p l e R s m args below meth c H locs cells slots Q (F0 m pc ls (.int x :: .int i :: .ref a :: rest)) := by
  subst hk
  exact va_zast hexec hb hK hP hD hS q0 t0 ha ht hin hdg kk
end ZR
-- a write in a block
theorem ck_S5 (g : zG) (q : Nat → Nat) (v : zCV) (x : Int32) : (ck g q v).set 0 (q 0, .inr (0, ([.ref (q 1), .ref (q 2), .ref (q 5), .int (v.1 5), .int (v.1 6), .int (v.1 7), .int (v.1 8), .int (v.1 9), .int (v.1 10), .int (v.1 11), .int (v.1 12), .int (v.1 13), .int (v.1 14)] : List Value).set 3 (.int x))) = ck g q (zS v 5 x) := rfl
theorem ck_S6 (g : zG) (q : Nat → Nat) (v : zCV) (x : Int32) : (ck g q v).set 0 (q 0, .inr (0, ([.ref (q 1), .ref (q 2), .ref (q 5), .int (v.1 5), .int (v.1 6), .int (v.1 7), .int (v.1 8), .int (v.1 9), .int (v.1 10), .int (v.1 11), .int (v.1 12), .int (v.1 13), .int (v.1 14)] : List Value).set 4 (.int x))) = ck g q (zS v 6 x) := rfl
theorem ck_S7 (g : zG) (q : Nat → Nat) (v : zCV) (x : Int32) : (ck g q v).set 0 (q 0, .inr (0, ([.ref (q 1), .ref (q 2), .ref (q 5), .int (v.1 5), .int (v.1 6), .int (v.1 7), .int (v.1 8), .int (v.1 9), .int (v.1 10), .int (v.1 11), .int (v.1 12), .int (v.1 13), .int (v.1 14)] : List Value).set 5 (.int x))) = ck g q (zS v 7 x) := rfl
theorem ck_S8 (g : zG) (q : Nat → Nat) (v : zCV) (x : Int32) : (ck g q v).set 0 (q 0, .inr (0, ([.ref (q 1), .ref (q 2), .ref (q 5), .int (v.1 5), .int (v.1 6), .int (v.1 7), .int (v.1 8), .int (v.1 9), .int (v.1 10), .int (v.1 11), .int (v.1 12), .int (v.1 13), .int (v.1 14)] : List Value).set 6 (.int x))) = ck g q (zS v 8 x) := rfl
theorem ck_S9 (g : zG) (q : Nat → Nat) (v : zCV) (x : Int32) : (ck g q v).set 0 (q 0, .inr (0, ([.ref (q 1), .ref (q 2), .ref (q 5), .int (v.1 5), .int (v.1 6), .int (v.1 7), .int (v.1 8), .int (v.1 9), .int (v.1 10), .int (v.1 11), .int (v.1 12), .int (v.1 13), .int (v.1 14)] : List Value).set 7 (.int x))) = ck g q (zS v 9 x) := rfl
theorem ck_S10 (g : zG) (q : Nat → Nat) (v : zCV) (x : Int32) : (ck g q v).set 0 (q 0, .inr (0, ([.ref (q 1), .ref (q 2), .ref (q 5), .int (v.1 5), .int (v.1 6), .int (v.1 7), .int (v.1 8), .int (v.1 9), .int (v.1 10), .int (v.1 11), .int (v.1 12), .int (v.1 13), .int (v.1 14)] : List Value).set 8 (.int x))) = ck g q (zS v 10 x) := rfl
theorem ck_S11 (g : zG) (q : Nat → Nat) (v : zCV) (x : Int32) : (ck g q v).set 0 (q 0, .inr (0, ([.ref (q 1), .ref (q 2), .ref (q 5), .int (v.1 5), .int (v.1 6), .int (v.1 7), .int (v.1 8), .int (v.1 9), .int (v.1 10), .int (v.1 11), .int (v.1 12), .int (v.1 13), .int (v.1 14)] : List Value).set 9 (.int x))) = ck g q (zS v 11 x) := rfl
theorem ck_S12 (g : zG) (q : Nat → Nat) (v : zCV) (x : Int32) : (ck g q v).set 0 (q 0, .inr (0, ([.ref (q 1), .ref (q 2), .ref (q 5), .int (v.1 5), .int (v.1 6), .int (v.1 7), .int (v.1 8), .int (v.1 9), .int (v.1 10), .int (v.1 11), .int (v.1 12), .int (v.1 13), .int (v.1 14)] : List Value).set 10 (.int x))) = ck g q (zS v 12 x) := rfl
theorem ck_S13 (g : zG) (q : Nat → Nat) (v : zCV) (x : Int32) : (ck g q v).set 0 (q 0, .inr (0, ([.ref (q 1), .ref (q 2), .ref (q 5), .int (v.1 5), .int (v.1 6), .int (v.1 7), .int (v.1 8), .int (v.1 9), .int (v.1 10), .int (v.1 11), .int (v.1 12), .int (v.1 13), .int (v.1 14)] : List Value).set 11 (.int x))) = ck g q (zS v 13 x) := rfl
theorem ck_S14 (g : zG) (q : Nat → Nat) (v : zCV) (x : Int32) : (ck g q v).set 0 (q 0, .inr (0, ([.ref (q 1), .ref (q 2), .ref (q 5), .int (v.1 5), .int (v.1 6), .int (v.1 7), .int (v.1 8), .int (v.1 9), .int (v.1 10), .int (v.1 11), .int (v.1 12), .int (v.1 13), .int (v.1 14)] : List Value).set 12 (.int x))) = ck g q (zS v 14 x) := rfl
theorem ck_A0 (g : zG) (q : Nat → Nat) (v : zCV) (f : Nat → Int32) : (ck g q v).set 1 (q 1, .inl (g.2.1, 4, .inl f)) = ck g q (zA v 0 f) := rfl
theorem ck_S4 (g : zG) (q : Nat → Nat) (v : zCV) (x : Int32) : (ck g q v).set 2 (q 2, .inr (1, ([.ref (q 3), .ref (q 4), .int (v.1 4), .int (v.1 15)] : List Value).set 2 (.int x))) = ck g q (zS v 4 x) := rfl
theorem ck_S15 (g : zG) (q : Nat → Nat) (v : zCV) (x : Int32) : (ck g q v).set 2 (q 2, .inr (1, ([.ref (q 3), .ref (q 4), .int (v.1 4), .int (v.1 15)] : List Value).set 3 (.int x))) = ck g q (zS v 15 x) := rfl
theorem ck_A1 (g : zG) (q : Nat → Nat) (v : zCV) (f : Nat → Int32) : (ck g q v).set 3 (q 3, .inl (g.2.1, 16, .inl f)) = ck g q (zA v 1 f) := rfl
theorem ck_A2 (g : zG) (q : Nat → Nat) (v : zCV) (f : Nat → Int32) : (ck g q v).set 4 (q 4, .inl (g.2.1, 96, .inl f)) = ck g q (zA v 2 f) := rfl
theorem ck_A3 (g : zG) (q : Nat → Nat) (v : zCV) (f : Nat → Int32) : (ck g q v).set 6 (q 6, .inl (g.2.1, 6, .inl f)) = ck g q (zA v 3 f) := rfl
theorem ck_A4 (g : zG) (q : Nat → Nat) (v : zCV) (f : Nat → Int32) : (ck g q v).set 7 (q 7, .inl (g.2.1, 6, .inl f)) = ck g q (zA v 4 f) := rfl
theorem ck_A5 (g : zG) (q : Nat → Nat) (v : zCV) (f : Nat → Int32) : (ck g q v).set 8 (q 8, .inl (g.2.1, 6, .inl f)) = ck g q (zA v 5 f) := rfl
theorem ck_A6 (g : zG) (q : Nat → Nat) (v : zCV) (f : Nat → Int32) : (ck g q v).set 9 (q 9, .inl (g.2.1, 6, .inl f)) = ck g q (zA v 6 f) := rfl
theorem mo_S0 (g : zG) (q : Nat → Nat) (v : zCV) (x : Int32) : (mo g q v).set 0 (q 0, .inr (6, ([.ref (q 1), .ref (q 2), .ref (q 3), .int (v.1 0), .ref (q 4), .ref (q 5), .ref (q 6), .int (v.1 1), .int (v.1 2), .ref (q 7), .ref (q 8), .int (v.1 3)] : List Value).set 3 (.int x))) = mo g q (zS v 0 x) := rfl
theorem mo_S1 (g : zG) (q : Nat → Nat) (v : zCV) (x : Int32) : (mo g q v).set 0 (q 0, .inr (6, ([.ref (q 1), .ref (q 2), .ref (q 3), .int (v.1 0), .ref (q 4), .ref (q 5), .ref (q 6), .int (v.1 1), .int (v.1 2), .ref (q 7), .ref (q 8), .int (v.1 3)] : List Value).set 7 (.int x))) = mo g q (zS v 1 x) := rfl
theorem mo_S2 (g : zG) (q : Nat → Nat) (v : zCV) (x : Int32) : (mo g q v).set 0 (q 0, .inr (6, ([.ref (q 1), .ref (q 2), .ref (q 3), .int (v.1 0), .ref (q 4), .ref (q 5), .ref (q 6), .int (v.1 1), .int (v.1 2), .ref (q 7), .ref (q 8), .int (v.1 3)] : List Value).set 8 (.int x))) = mo g q (zS v 2 x) := rfl
theorem mo_S3 (g : zG) (q : Nat → Nat) (v : zCV) (x : Int32) : (mo g q v).set 0 (q 0, .inr (6, ([.ref (q 1), .ref (q 2), .ref (q 3), .int (v.1 0), .ref (q 4), .ref (q 5), .ref (q 6), .int (v.1 1), .int (v.1 2), .ref (q 7), .ref (q 8), .int (v.1 3)] : List Value).set 11 (.int x))) = mo g q (zS v 3 x) := rfl
theorem mo_A0 (g : zG) (q : Nat → Nat) (v : zCV) (f : Nat → Int32) : (mo g q v).set 1 (q 1, .inl (g.2.1, 136, .inl f)) = mo g q (zA v 0 f) := rfl
theorem mo_A1 (g : zG) (q : Nat → Nat) (v : zCV) (f : Nat → Int32) : (mo g q v).set 2 (q 2, .inl (g.2.1, 136, .inl f)) = mo g q (zA v 1 f) := rfl
theorem mo_A2 (g : zG) (q : Nat → Nat) (v : zCV) (f : Nat → Int32) : (mo g q v).set 3 (q 3, .inl (g.2.1, 816, .inl f)) = mo g q (zA v 2 f) := rfl
theorem mo_A3 (g : zG) (q : Nat → Nat) (v : zCV) (f : Nat → Int32) : (mo g q v).set 4 (q 4, .inl (g.2.1, 272, .inl f)) = mo g q (zA v 3 f) := rfl
theorem mo_A4 (g : zG) (q : Nat → Nat) (v : zCV) (f : Nat → Int32) : (mo g q v).set 5 (q 5, .inl (g.2.1, 2, .inl f)) = mo g q (zA v 4 f) := rfl
theorem mo_A5 (g : zG) (q : Nat → Nat) (v : zCV) (f : Nat → Int32) : (mo g q v).set 6 (q 6, .inl (g.2.1, 60, .inl f)) = mo g q (zA v 5 f) := rfl
theorem mo_A6 (g : zG) (q : Nat → Nat) (v : zCV) (f : Nat → Int32) : (mo g q v).set 7 (q 7, .inl (g.2.1, 31, .inl f)) = mo g q (zA v 6 f) := rfl
theorem mo_A7 (g : zG) (q : Nat → Nat) (v : zCV) (f : Nat → Int32) : (mo g q v).set 8 (q 8, .inl (g.2.1, 31, .inl f)) = mo g q (zA v 7 f) := rfl
theorem zsw4 {x : Int32} (h0 : ¬ x.toInt = 0) (h1 : ¬ x.toInt = 1) (h2 : ¬ x.toInt = 2) (h3 : ¬ x.toInt = 3) : x.toInt < 0 ∨ 3 < x.toInt := by omega
theorem zsw3 {x : Int32} (h0 : ¬ x.toInt = 0) (h1 : ¬ x.toInt = 1) (h2 : ¬ x.toInt = 2) : x.toInt < 0 ∨ 2 < x.toInt := by omega
theorem zsw5 {x : Int32} {a : Int} (h0 : ¬ x.toInt = a) (h1 : ¬ x.toInt = a + 1) (h2 : ¬ x.toInt = a + 2) (h3 : ¬ x.toInt = a + 3) (h4 : ¬ x.toInt = a + 4) : x.toInt < a ∨ a + 4 < x.toInt := by omega
theorem zsw16 {x : Int32} (h4 : ¬ x.toInt = 4) (h5 : ¬ x.toInt = 5) (h6 : ¬ x.toInt = 6) (h7 : ¬ x.toInt = 7) (h8 : ¬ x.toInt = 8) (h9 : ¬ x.toInt = 9) (h10 : ¬ x.toInt = 10) (h11 : ¬ x.toInt = 11) (h12 : ¬ x.toInt = 12) (h13 : ¬ x.toInt = 13) (h14 : ¬ x.toInt = 14) (h15 : ¬ x.toInt = 15) (h16 : ¬ x.toInt = 16) (h17 : ¬ x.toInt = 17) (h18 : ¬ x.toInt = 18) (h19 : ¬ x.toInt = 19) : x.toInt < 4 ∨ 19 < x.toInt := by omega
/-- a loop's fuel: a number that isn't unrolled -/
def zfu (n : Nat) : Nat := if h : n = 0 then 0 else zfu (n - 1) + 1
termination_by n
decreasing_by omega
theorem zfu_eq (n : Nat) : zfu n = n := by
  induction n with
  | zero => unfold zfu; rfl
  | succ n ih =>
    unfold zfu
    rw [dif_neg (by omega)]
    simpa using ih
