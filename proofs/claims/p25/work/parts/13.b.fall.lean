/-! The falls of a row's stamps, in one closed form. -/
def zen (w : zCV) (k : Nat) : Bool := decide (w.2 0 1 ≤ w.2 3 k)
def zhs (w : zCV) (k : Nat) : Bool := decide (¬ zbt (w.1 7) k = 0)
def zwo (w : zCV) (r k : Nat) : Bool := decide (¬ w.2 0 2 = 0) && decide (¬ w.2 2 (6 * r + k) + (1 : Int32) < w.2 0 2)
def zFa (w : zCV) (k : Nat) : zCV :=
  (fun j => if j = 7 then (if zen w k = true then w.1 7 ||| zbi k else w.1 7) else if j = 8 then (if zhs w k = true then (1 : Int32) else w.1 8) else w.1 j,
   fun j => if j = 3 then (if zen w k = true then upd (w.2 3) k (w.2 3 k - w.2 0 1) else w.2 3)
     else if j = 4 then (if zen w k = true then upd (w.2 4) k (w.2 4 k + (1 : Int32)) else w.2 4)
     else if j = 5 then (if zen w k = true then w.2 5 else upd (w.2 5) k (w.2 5 k + (1 : Int32)))
     else if j = 6 then (if zhs w k = true then upd (w.2 6) k (w.2 6 k + (1 : Int32)) else w.2 6) else w.2 j)
def zgo (v : zCV) (k : Nat) : zCV := if zen v k = true then zS (zA (zA v 3 (upd (v.2 3) k (v.2 3 k - v.2 0 1))) 4 (upd (v.2 4) k (v.2 4 k + (1 : Int32)))) 7 (v.1 7 ||| zbi k) else zA v 5 (upd (v.2 5) k (v.2 5 k + (1 : Int32)))
theorem zgo_eq (v : zCV) {k : Nat} (hk : k < 6) : (if (f_X4_leavesMark v (nI k) ((v.2 0) 1)).1 = (0 : Int32) then (f_X4_leavesMark v (nI k) ((v.2 0) 1)).2 else zS (f_X4_leavesMark v (nI k) ((v.2 0) 1)).2 7 (((f_X4_leavesMark v (nI k) ((v.2 0) 1)).2.1 7) ||| ((1 : Int32) <<< ((nI k) &&& 31)))) = zgo v k := by
  have i0 : (nI k).toNatClampNeg = k := nI_clamp (by omega)
  unfold f_X4_leavesMark zgo zen
  rw [i0]
  by_cases q : v.2 0 1 ≤ v.2 3 k
  · rw [if_pos q, if_neg (show ¬ (1 : Int32) = 0 by decide), if_pos (decide_eq_true q)]
    unfold s_X4_leavesMark_41 s_X4_leavesMark_31
    rw [i0]
    rfl
  · rw [if_neg q, if_pos rfl, if_neg (by rw [decide_eq_true_iff]; exact q)]
    unfold s_X4_leavesMark_19
    rw [i0]
theorem zFa_eq (w : zCV) {k : Nat} (hk : k < 6) : f_X0_letStampFall w (nI k) = zFa w k := by
  have i0 : (nI k).toNatClampNeg = k := nI_clamp (by omega)
  have e : f_X0_letStampFall w (nI k) = if zbt (w.1 7) k = 0 then zgo w k else zgo (s_X0_letStampFall_28 w (nI k)) k := by
    rw [← zgo_eq w hk, ← zgo_eq (s_X0_letStampFall_28 w (nI k)) hk]
    rfl
  rw [e]
  unfold s_X0_letStampFall_28 s_X0_letStampFall_13
  rw [i0]
  by_cases q : zbt (w.1 7) k = 0
  · have hh : zhs w k = false := by unfold zhs; rw [decide_eq_false_iff_not]; exact fun h => h q
    rw [if_pos q]
    unfold zgo zFa
    rw [hh]
    by_cases a : zen w k = true
    · rw [if_pos a, a]
      refine Prod.ext (funext fun j => ?_) (funext fun j => ?_)
      · by_cases e7 : j = 7
        · subst e7; simp [zS, upd]
        · by_cases e8 : j = 8
          · subst e8; simp [zS, zA, upd]
          · simp [zS, zA, upd, e7, e8]
      · by_cases e3 : j = 3
        · subst e3; simp [zS, zA]
        · by_cases e4 : j = 4
          · subst e4; simp [zS, zA]
          · by_cases e5 : j = 5
            · subst e5; simp [zS, zA]
            · by_cases e6 : j = 6
              · subst e6; simp [zS, zA]
              · simp [zS, zA, e3, e4, e5, e6]
    · rw [if_neg a, Bool.eq_false_iff.mpr a]
      refine Prod.ext (funext fun j => ?_) (funext fun j => ?_)
      · by_cases e7 : j = 7
        · subst e7; simp [zA]
        · by_cases e8 : j = 8
          · subst e8; simp [zA]
          · simp [zA, e7, e8]
      · by_cases e3 : j = 3
        · subst e3; simp [zA]
        · by_cases e4 : j = 4
          · subst e4; simp [zA]
          · by_cases e5 : j = 5
            · subst e5; simp [zA]
            · by_cases e6 : j = 6
              · subst e6; simp [zA]
              · simp [zA, e3, e4, e5, e6]
  · have hh : zhs w k = true := by unfold zhs; rw [decide_eq_true_iff]; exact q
    rw [if_neg q]
    have hz : zen (zA (zS w 8 (1 : Int32)) 6 (upd ((zS w 8 (1 : Int32)).2 6) k (((zS w 8 (1 : Int32)).2 6) k + (1 : Int32)))) k = zen w k := rfl
    unfold zgo zFa
    rw [hh, hz]
    by_cases a : zen w k = true
    · rw [if_pos a, a]
      refine Prod.ext (funext fun j => ?_) (funext fun j => ?_)
      · by_cases e7 : j = 7
        · subst e7; simp [zS, zA, upd]
        · by_cases e8 : j = 8
          · subst e8; simp [zS, zA, upd]
          · simp [zS, zA, upd, e7, e8]
      · by_cases e3 : j = 3
        · subst e3; simp [zS, zA]
        · by_cases e4 : j = 4
          · subst e4; simp [zS, zA]
          · by_cases e5 : j = 5
            · subst e5; simp [zS, zA]
            · by_cases e6 : j = 6
              · subst e6; simp [zS, zA]
              · simp [zS, zA, e3, e4, e5, e6]
    · rw [if_neg a, Bool.eq_false_iff.mpr a]
      refine Prod.ext (funext fun j => ?_) (funext fun j => ?_)
      · by_cases e7 : j = 7
        · subst e7; simp [zS, zA, upd]
        · by_cases e8 : j = 8
          · subst e8; simp [zS, zA, upd]
          · simp [zS, zA, upd, e7, e8]
      · by_cases e3 : j = 3
        · subst e3; simp [zS, zA]
        · by_cases e4 : j = 4
          · subst e4; simp [zS, zA]
          · by_cases e5 : j = 5
            · subst e5; simp [zS, zA]
            · by_cases e6 : j = 6
              · subst e6; simp [zS, zA]
              · simp [zS, zA, e3, e4, e5, e6]
def zWe (w : zCV) (r k : Nat) : zCV :=
  (fun j => if j = 15 then (if zwo w r k = true then w.1 15 + (1 : Int32) else w.1 15) else w.1 j,
   fun j => if j = 1 then (if zwo w r k = true then upd (w.2 1) r (zdrop (w.2 1 r) k) else w.2 1) else if j = 2 then upd (w.2 2) (6 * r + k) (w.2 2 (6 * r + k) + (1 : Int32)) else w.2 j)
theorem zWe_eq (w : zCV) {r k : Nat} (hr : r < 16) (hk : k < 6) : f_X1_wearPeg w (nI r) (nI k) ((w.2 0) 2) = zWe w r k := by
  have i0 : (nI r).toNatClampNeg = r := nI_clamp (by omega)
  have e18 : s_X1_wearPeg_18 w (nI r) (nI k) = zA w 2 (upd (w.2 2) (6 * r + k) (w.2 2 (6 * r + k) + (1 : Int32))) := by
    unfold s_X1_wearPeg_18
    rw [zix2 hr hk]
  have x : ((zA w 2 (upd (w.2 2) (6 * r + k) (w.2 2 (6 * r + k) + (1 : Int32)))).2 2) (6 * r + k) = w.2 2 (6 * r + k) + (1 : Int32) := by rw [zA_eq, zupd_eq]
  unfold f_X1_wearPeg s_X1_wearPeg_55 s_X1_wearPeg_47
  rw [e18, zix2 hr hk, x, i0]
  unfold zWe
  have hn : ∀ (b : Bool), zwo w r k = b → b = false → zA w 2 (upd (w.2 2) (6 * r + k) (w.2 2 (6 * r + k) + (1 : Int32))) = (fun j => if j = 15 then (if b = true then w.1 15 + (1 : Int32) else w.1 15) else w.1 j, fun j => if j = 1 then (if b = true then upd (w.2 1) r (zdrop (w.2 1 r) k) else w.2 1) else if j = 2 then upd (w.2 2) (6 * r + k) (w.2 2 (6 * r + k) + (1 : Int32)) else w.2 j) := by
    intro b _ hb
    subst hb
    refine Prod.ext (funext fun j => ?_) (funext fun j => ?_)
    · by_cases e : j = 15
      · subst e; simp [zA]
      · simp [zA, e]
    · by_cases e : j = 1
      · subst e; simp [zA]
      · by_cases e2 : j = 2
        · subst e2; simp [zA]
        · simp [zA, e, e2]
  by_cases q1 : w.2 0 2 = (0 : Int32)
  · rw [if_pos q1]
    exact hn _ rfl (by unfold zwo; rw [decide_eq_false (fun h => h q1), Bool.false_and])
  · rw [if_neg q1]
    by_cases q2 : w.2 2 (6 * r + k) + (1 : Int32) < w.2 0 2
    · rw [if_pos q2]
      exact hn _ rfl (by unfold zwo; rw [decide_eq_true q1, decide_eq_false (fun h => h q2), Bool.and_false])
    · rw [if_neg q2]
      have hw : zwo w r k = true := by unfold zwo; rw [decide_eq_true q1, decide_eq_true q2, Bool.true_and]
      rw [hw]
      refine Prod.ext (funext fun j => ?_) (funext fun j => ?_)
      · by_cases e : j = 15
        · subst e; simp [zS, zA, upd]
        · simp [zS, zA, upd, e]
      · by_cases e : j = 1
        · subst e; simp [zS, zA, zdrop, zbi]
        · by_cases e2 : j = 2
          · subst e2; simp [zS, zA]
          · simp [zS, zA, e, e2]
def zhaz (c : zCV) (g : Nat → Bool) : Nat → Int32
  | 0 => c.1 7
  | i + 1 => if (g i && zen c i) = true then zhaz c g i ||| zbi i else zhaz c g i
def zrow (c : zCV) (r : Nat) (g : Nat → Bool) : Nat → Int32
  | 0 => c.2 1 r
  | i + 1 => if (g i && zwo c r i) = true then zdrop (zrow c r g i) i else zrow c r g i
def zcn (b : Nat → Bool) (i : Nat) : Int32 := zsum (fun k => if b k = true then (1 : Int32) else 0) i
/-- the clerk behind the falls of the places below i -/
def zLo (c : zCV) (r : Nat) (g : Nat → Bool) (i : Nat) : zCV :=
  (fun j => if j = 7 then zhaz c g i else if j = 8 then (if zany (fun k => g k && zhs c k) i = true then (1 : Int32) else c.1 8) else if j = 15 then c.1 15 + zcn (fun k => g k && zwo c r k) i else c.1 j,
   fun j => if j = 1 then upd (c.2 1) r (zrow c r g i)
     else if j = 2 then (fun x => if 6 * r ≤ x ∧ x < 6 * r + i ∧ g (x - 6 * r) = true then c.2 2 x + (1 : Int32) else c.2 2 x)
     else if j = 3 then (fun s => if s < i ∧ (g s && zen c s) = true then c.2 3 s - c.2 0 1 else c.2 3 s)
     else if j = 4 then (fun s => if s < i ∧ (g s && zen c s) = true then c.2 4 s + (1 : Int32) else c.2 4 s)
     else if j = 5 then (fun s => if s < i ∧ (g s && !zen c s) = true then c.2 5 s + (1 : Int32) else c.2 5 s)
     else if j = 6 then (fun s => if s < i ∧ (g s && zhs c s) = true then c.2 6 s + (1 : Int32) else c.2 6 s) else c.2 j)
theorem zhaz_bt {c : zCV} (h : vp_in (c.1 7) 64) (g : Nat → Bool) : ∀ i, i ≤ 6 → vp_in (zhaz c g i) 64 ∧ ∀ q, q < 6 → zbt (zhaz c g i) q = if q < i ∧ (g q && zen c q) = true then 1 else zbt (c.1 7) q
  | 0, _ => ⟨h, fun q _ => by rw [if_neg (by omega)]; rfl⟩
  | i + 1, hi => by
    obtain ⟨h1, h2⟩ := zhaz_bt h g i (by omega)
    unfold zhaz
    by_cases b : (g i && zen c i) = true
    · rw [if_pos b]
      obtain ⟨h3, h4⟩ := zb_or h1 (p := i) (by omega)
      refine ⟨h3, fun q hq => ?_⟩
      rw [h4 q hq, h2 q hq]
      by_cases e : q = i
      · subst e; rw [if_pos rfl, if_pos ⟨by omega, b⟩]
      · rw [if_neg e]
        by_cases e2 : q < i ∧ (g q && zen c q) = true
        · rw [if_pos e2, if_pos ⟨by omega, e2.2⟩]
        · rw [if_neg e2, if_neg (fun h => e2 ⟨by omega, h.2⟩)]
    · rw [if_neg b]
      refine ⟨h1, fun q hq => ?_⟩
      rw [h2 q hq]
      by_cases e2 : q < i ∧ (g q && zen c q) = true
      · rw [if_pos e2, if_pos ⟨by omega, e2.2⟩]
      · rw [if_neg e2, if_neg (fun h => e2 ⟨by have : q ≠ i := fun e => b (e ▸ h.2); omega, h.2⟩)]
theorem zrow_bt {c : zCV} {r : Nat} (h : vp_in (c.2 1 r) 64) (g : Nat → Bool) : ∀ i, i ≤ 6 → vp_in (zrow c r g i) 64 ∧ ∀ q, q < 6 → zbt (zrow c r g i) q = if q < i ∧ (g q && zwo c r q) = true then 0 else zbt (c.2 1 r) q
  | 0, _ => ⟨h, fun q _ => by rw [if_neg (by omega)]; rfl⟩
  | i + 1, hi => by
    obtain ⟨h1, h2⟩ := zrow_bt h g i (by omega)
    unfold zrow
    by_cases b : (g i && zwo c r i) = true
    · rw [if_pos b]
      obtain ⟨h3, h4⟩ := zb_drop h1 (p := i) (by omega)
      refine ⟨h3, fun q hq => ?_⟩
      rw [h4 q hq, h2 q hq]
      by_cases e : q = i
      · subst e; rw [if_pos rfl, if_pos ⟨by omega, b⟩]
      · rw [if_neg e]
        by_cases e2 : q < i ∧ (g q && zwo c r q) = true
        · rw [if_pos e2, if_pos ⟨by omega, e2.2⟩]
        · rw [if_neg e2, if_neg (fun h => e2 ⟨by omega, h.2⟩)]
    · rw [if_neg b]
      refine ⟨h1, fun q hq => ?_⟩
      rw [h2 q hq]
      by_cases e2 : q < i ∧ (g q && zwo c r q) = true
      · rw [if_pos e2, if_pos ⟨by omega, e2.2⟩]
      · rw [if_neg e2, if_neg (fun h => e2 ⟨by have : q ≠ i := fun e => b (e ▸ h.2); omega, h.2⟩)]
theorem zLo_0 (c : zCV) (r : Nat) (g : Nat → Bool) : zLo c r g 0 = c := by
  refine Prod.ext (funext fun j => ?_) (funext fun j => ?_)
  · show (if j = 7 then c.1 7 else if j = 8 then (if false = true then (1 : Int32) else c.1 8) else if j = 15 then c.1 15 + (0 : Int32) else c.1 j) = c.1 j
    rw [Int32.add_zero]
    split
    · rename_i e; rw [e]
    · split
      · rename_i e; rw [e]; rfl
      · split
        · rename_i e; rw [e]
        · rfl
  · by_cases e1 : j = 1
    · subst e1
      show upd (c.2 1) r (c.2 1 r) = c.2 1
      funext x
      by_cases e : x = r
      · subst e; rw [zupd_eq]
      · rw [zupd_ne _ _ e]
    · by_cases e2 : j = 2
      · subst e2; funext x; simp [zLo]; intro h1 h2; omega
      · by_cases e3 : j = 3
        · subst e3; funext x; simp [zLo]
        · by_cases e4 : j = 4
          · subst e4; funext x; simp [zLo]
          · by_cases e5 : j = 5
            · subst e5; funext x; simp [zLo]
            · by_cases e6 : j = 6
              · subst e6; funext x; simp [zLo]
              · simp [zLo, e1, e2, e3, e4, e5, e6]
