/-! Worlds of several blocks. -/
def zcat : List va_W → va_W
  | [] => []
  | [a] => a
  | a :: b :: r => a ++ zcat (b :: r)
theorem zcat_cons (a : va_W) (r : List va_W) : (zcat (a :: r)).Perm (a ++ zcat r) := by
  cases r with
  | nil => show a.Perm (a ++ []); rw [List.append_nil]
  | cons b r => exact List.Perm.refl _
theorem zcat_perm {L L' : List va_W} (h : L.Perm L') : (zcat L).Perm (zcat L') := by
  induction h with
  | nil => exact List.Perm.refl _
  | cons a _ ih => exact (zcat_cons a _).trans ((List.Perm.append_left a ih).trans (zcat_cons a _).symm)
  | swap a b l =>
    refine (zcat_cons b (a :: l)).trans (((List.Perm.append_left b (zcat_cons a l)).trans ?_).trans ((List.Perm.append_left a (zcat_cons b l)).symm.trans (zcat_cons a (b :: l)).symm))
    rw [← List.append_assoc, ← List.append_assoc]
    exact List.Perm.append_right _ List.perm_append_comm
  | trans _ _ h1 h2 => exact h1.trans h2
theorem zcat_app (A B : List va_W) : (zcat (A ++ B)).Perm (zcat A ++ zcat B) := by
  induction A with
  | nil => exact List.Perm.refl _
  | cons a A ih =>
    refine (zcat_cons a (A ++ B)).trans ((List.Perm.append_left a ih).trans ?_)
    rw [← List.append_assoc]
    exact List.Perm.append_right _ (zcat_cons a A).symm
theorem zcat_one {a b : va_W} {A : List va_W} (h : a.Perm b) : (zcat (a :: A)).Perm (zcat (b :: A)) := (zcat_cons a A).trans ((List.Perm.append_right _ h).trans (zcat_cons b A).symm)
theorem zcat_two {a b c : va_W} {A : List va_W} (h : a.Perm (b ++ c)) : (zcat (a :: A)).Perm (zcat (b :: c :: A)) := by
  refine (zcat_cons a A).trans ((List.Perm.append_right _ h).trans ?_)
  rw [List.append_assoc]
  exact (List.Perm.append_left b (zcat_cons c A).symm).trans (zcat_cons b (c :: A)).symm
/-- the callee's blocks ahead, the rest behind -/
theorem zsplit {L Lc Lr : List va_W} (h : L.Perm (Lc ++ Lr)) : (zcat L).Perm (zcat Lc ++ zcat Lr) := (zcat_perm h).trans (zcat_app Lc Lr)
theorem zback {L Lc Lr : List va_W} (h : L.Perm (Lc ++ Lr)) : (zcat Lc ++ zcat Lr).Perm (zcat L) := (zsplit h).symm
theorem zsetL {A B : va_W} {n k : Nat} {x : Nat × va_E} (hn : A.length = n) (h : k < n) : (A ++ B).set k x = A.set k x ++ B := List.set_append_left k x (by omega)
theorem zsetR {A B : va_W} {n k i : Nat} {x : Nat × va_E} (hn : A.length = n) (hi : i = n + k) : (A ++ B).set i x = A ++ B.set k x := by
  rw [List.set_append_right i x (by omega), show i - A.length = k by omega]
theorem hi_S0 (g : zG) (q : Nat → Nat) (f : Nat → Option Nat) (v : zCV) (x : Int32) : (hi g q f v).set 0 (q 0, .inr (2, ([.ref (q 1), .int (v.1 0), .int (v.1 1)] : List Value).set 1 (.int x))) = hi g q f (zS v 0 x) := rfl
theorem hi_S1 (g : zG) (q : Nat → Nat) (f : Nat → Option Nat) (v : zCV) (x : Int32) : (hi g q f v).set 0 (q 0, .inr (2, ([.ref (q 1), .int (v.1 0), .int (v.1 1)] : List Value).set 2 (.int x))) = hi g q f (zS v 1 x) := rfl
theorem pd_S0 (g : zG) (q : Nat → Nat) (v : zCV) (x : Int32) : (pd g q v).set 0 (q 0, .inr (3, ([.ref (q 1), .int (v.1 0)] : List Value).set 1 (.int x))) = pd g q (zS v 0 x) := rfl
theorem pd_A0 (g : zG) (q : Nat → Nat) (v : zCV) (f : Nat → Int32) : (pd g q v).set 1 (q 1, .inl (g.2.2.2.1, 60, .inl f)) = pd g q (zA v 0 f) := rfl
theorem sl_A0 (g : zG) (q : Nat → Nat) (f : Nat → Option Nat) (v : zCV) (x : Nat → Int32) : (sl g q f v).set 1 (q 1, .inl (g.2.2.1, 2, .inl x)) = sl g q f (zA v 0 x) := rfl
-- six clerks, two clerks
def hs (g : zG) (Q : Nat → Nat → Nat) (V : Nat → zCV) : va_W := zcat [ck g (Q 0) (V 0), ck g (Q 1) (V 1), ck g (Q 2) (V 2), ck g (Q 3) (V 3), ck g (Q 4) (V 4), ck g (Q 5) (V 5)]
def ss (g : zG) (Q : Nat → Nat → Nat) (V : Nat → zCV) : va_W := zcat [ck g (Q 0) (V 0), ck g (Q 1) (V 1)]
def hsr (g : zG) (Q : Nat → Nat → Nat) (V : Nat → zCV) (k : Nat) : va_W := zcat (([ck g (Q 0) (V 0), ck g (Q 1) (V 1), ck g (Q 2) (V 2), ck g (Q 3) (V 3), ck g (Q 4) (V 4), ck g (Q 5) (V 5)] : List va_W).eraseIdx k)
def ssr (g : zG) (Q : Nat → Nat → Nat) (V : Nat → zCV) (k : Nat) : va_W := zcat (([ck g (Q 0) (V 0), ck g (Q 1) (V 1)] : List va_W).eraseIdx k)
theorem zerase {α : Type} : ∀ (L : List α) (k : Nat) (a : α), L[k]? = some a → L.Perm (a :: L.eraseIdx k)
  | [], k, a, h => by simp at h
  | b :: L, 0, a, h => by
    have e : b = a := Option.some.inj h
    subst e
    exact List.Perm.refl _
  | b :: L, k + 1, a, h => by
    have h1 : L[k]? = some a := h
    exact (List.Perm.cons b (zerase L k a h1)).trans (List.Perm.swap _ _ _)
theorem hs_cut (g : zG) (Q : Nat → Nat → Nat) (V : Nat → zCV) {k : Nat} (hk : k < 6) : (hs g Q V).Perm (ck g (Q k) (V k) ++ hsr g Q V k) := by
  refine (zcat_perm (zerase _ k (ck g (Q k) (V k)) ?_)).trans (zcat_cons _ _)
  rcases (show k = 0 ∨ k = 1 ∨ k = 2 ∨ k = 3 ∨ k = 4 ∨ k = 5 by omega) with rfl | rfl | rfl | rfl | rfl | rfl <;> rfl
theorem hsr_up (g : zG) (Q : Nat → Nat → Nat) (V : Nat → zCV) (x : zCV) {k : Nat} (hk : k < 6) : hsr g Q (va_up V k x) k = hsr g Q V k := by
  rcases (show k = 0 ∨ k = 1 ∨ k = 2 ∨ k = 3 ∨ k = 4 ∨ k = 5 by omega) with rfl | rfl | rfl | rfl | rfl | rfl <;> rfl
theorem ss_cut (g : zG) (Q : Nat → Nat → Nat) (V : Nat → zCV) {k : Nat} (hk : k < 2) : (ss g Q V).Perm (ck g (Q k) (V k) ++ ssr g Q V k) := by
  refine (zcat_perm (zerase _ k (ck g (Q k) (V k)) ?_)).trans (zcat_cons _ _)
  rcases (show k = 0 ∨ k = 1 by omega) with rfl | rfl <;> rfl
theorem ssr_up (g : zG) (Q : Nat → Nat → Nat) (V : Nat → zCV) (x : zCV) {k : Nat} (hk : k < 2) : ssr g Q (va_up V k x) k = ssr g Q V k := by
  rcases (show k = 0 ∨ k = 1 by omega) with rfl | rfl <;> rfl
theorem zup_eq {α : Type} (V : Nat → α) (k : Nat) (x : α) : va_up V k x k = x := if_pos rfl
/-- a clerk of the six is written anew -/
theorem hs_new (g : zG) (Q : Nat → Nat → Nat) (V : Nat → zCV) (x : zCV) {k : Nat} (hk : k < 6) : (ck g (Q k) x ++ hsr g Q V k).Perm (hs g Q (va_up V k x)) := by
  have h := hs_cut g Q (va_up V k x) hk
  rw [zup_eq, hsr_up g Q V x hk] at h
  exact h.symm
theorem ss_new (g : zG) (Q : Nat → Nat → Nat) (V : Nat → zCV) (x : zCV) {k : Nat} (hk : k < 2) : (ck g (Q k) x ++ ssr g Q V k).Perm (ss g Q (va_up V k x)) := by
  have h := ss_cut g Q (va_up V k x) hk
  rw [zup_eq, ssr_up g Q V x hk] at h
  exact h.symm
section ZR2
variable {p : Program} {l : Launch} {e : Env} {R : Room} {s : State} {m : MethodId} {args : Array Value} {below : List Frame} {meth : Method} {c : Code} {H : Heap} {locs : List Loc} {cells slots : Nat} {Q : State → Prop}
variable {cc : ByteArray} {pc : Nat} {ls : Array Slot} {rest : List Value} {D : va_G} {cl : List vw_C} {A : Nat → Prop} {a : Nat} {tys : List (ClassId × FieldType)} {ws : va_W} {H0 : Heap}
theorem z_copyi (hexec : p.tables.exec = Jvm.exec) (hb : c.code = cc) (hml : c.maxLocals = ls.size) {own : String} {index : Nat} (hown : s.vm.findClass own = some m.cls) (hlink : (Cond.methodLink own index arraycopyName).before args s = true) (hnat : (Cond.native arraycopyName).before args s = true) (hstat : (Cond.static arraycopyName).before args s = true) (hini : (Cond.initialized "java/lang/System").before args s = true)
    (hK : va_K D cl tys s) (hP : va_P D cl ws H) (hD : va_D A ws) (hS : va_S A H0 H locs) (q0 q1 t0 : Nat) {a0 N : Nat} {c0 : ClassId} {f g : Nat → Int32} (ha0 : ws[q0]? = some (a0, .inl (c0, N, .inl f))) (ha1 : ws[q1]? = some (a, .inl (c0, N, .inl g))) (ht0 : tys[t0]? = some (c0, .int))
    {n : Int32} (hn : n.toNatClampNeg = N) (h3 : ¬ n < 0)
    (hframes : 1 ≤ R.frames) (hlocals : (rest.map fun v => v.category).sum + (nativeFrameWords "java/lang/System" "arraycopy" 5 + 11) ≤ R.locals) (hdg : decode cc pc = .ok (.invokestatic index, 3))
    (kk : ∀ (H1 : Heap) (locs1 : List Loc), va_P D cl (ws.set q1 (a, .inl (c0, N, .inl (va_cpy f g 0 0 N)))) H1 → va_D A (ws.set q1 (a, .inl (c0, N, .inl (va_cpy f g 0 0 N)))) → va_S A H0 H1 locs1 → W p l e R s m args below meth c H1 locs1 cells slots Q (F0 m (pc + 3) ls rest)) : W p l e R s m args below meth c H locs cells slots Q (F0 m pc ls (.int n :: .int 0 :: .ref a :: .int 0 :: .ref a0 :: rest)) := by
  subst hn
  exact va_copyi (sp := 0) (dp := 0) (n := n) (n0 := n.toNatClampNeg) (n1 := n.toNatClampNeg) (ty := .int) hexec hb hml hown hlink hnat hstat hini hK hP hD hS q0 q1 t0 t0 ha0 ha1 ht0 ht0 rfl (by decide) (by decide) h3 (by rw [show (0 : Int32).toNatClampNeg = 0 from rfl]; omega) (by rw [show (0 : Int32).toNatClampNeg = 0 from rfl]; omega) (fun i _ => rfl) hframes hlocals hdg kk
theorem z_aald (hexec : p.tables.exec = Jvm.exec) (hb : c.code = cc) (hK : va_K D cl tys s) (hP : va_P D cl ws H) (q0 t0 : Nat) {cA : ClassId} {C : String} {n k : Nat} {i : Int32} {f : Nat → Nat} (ha : ws[q0]? = some (a, .inl (cA, n, .inr (.inr (.inr (.inr (fun j => some (f j)))))))) (ht : tys[t0]? = some (cA, .object C)) (hin : vp_in i n) (hk : i.toNatClampNeg = k) (hdg : decode cc pc = .ok (.aaload, 1))
    (kk : W p l e R s m args below meth c H locs cells slots Q (F0 m (pc + 1) ls (.ref (f k) :: rest))) : W p l e R s m args below meth c H locs cells slots Q (F0 m pc ls (.int i :: .ref a :: rest)) := by
  subst hk
  exact va_aldq hexec hb hK hP q0 t0 ha ht hin hdg kk
end ZR2
