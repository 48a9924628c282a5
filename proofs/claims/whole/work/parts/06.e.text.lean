/-- the tail of readsRow, behind the number -/
def zRT (u : zCV) (row : Int32) : Int32 × zCV :=
  if (f_X6_takesOne u (58 : Int32)).1 = (0 : Int32) then ((0 : Int32), (f_X6_takesOne u (58 : Int32)).2)
  else ((1 : Int32), zS (zA (zA (f_X6_readsRow_L93 (zfu 7) 0 0 (f_X6_takesOne u (58 : Int32)).2).2.2 6 (upd ((f_X6_readsRow_L93 (zfu 7) 0 0 (f_X6_takesOne u (58 : Int32)).2).2.2.2 6) ((f_X6_readsRow_L93 (zfu 7) 0 0 (f_X6_takesOne u (58 : Int32)).2).2.2.1 3).toNatClampNeg row)) 7
    (upd ((zA (f_X6_readsRow_L93 (zfu 7) 0 0 (f_X6_takesOne u (58 : Int32)).2).2.2 6 (upd ((f_X6_readsRow_L93 (zfu 7) 0 0 (f_X6_takesOne u (58 : Int32)).2).2.2.2 6) ((f_X6_readsRow_L93 (zfu 7) 0 0 (f_X6_takesOne u (58 : Int32)).2).2.2.1 3).toNatClampNeg row)).2 7) ((f_X6_readsRow_L93 (zfu 7) 0 0 (f_X6_takesOne u (58 : Int32)).2).2.2.1 3).toNatClampNeg (f_X6_readsRow_L93 (zfu 7) 0 0 (f_X6_takesOne u (58 : Int32)).2).1)) 3
    (((f_X6_readsRow_L93 (zfu 7) 0 0 (f_X6_takesOne u (58 : Int32)).2).2.2.1 3) + (1 : Int32)))
theorem zrr_cut (v : zCV) : f_X6_readsRow v = if (f_X6_isHere v (48 : Int32) (57 : Int32)) = (0 : Int32) then ((0 : Int32), v) else
    if (((v.2 5) (v.1 2).toNatClampNeg) - (48 : Int32)) = (1 : Int32) then
      (if (f_X6_isHere (zS v 2 ((v.1 2) + (1 : Int32))) (48 : Int32) (53 : Int32)) = (0 : Int32) then zRT (zS v 2 ((v.1 2) + (1 : Int32))) (((v.2 5) (v.1 2).toNatClampNeg) - (48 : Int32))
       else zRT (zS (zS v 2 ((v.1 2) + (1 : Int32))) 2 (((zS v 2 ((v.1 2) + (1 : Int32))).1 2) + (1 : Int32))) (((10 : Int32) + ((v.2 5) ((zS v 2 ((v.1 2) + (1 : Int32))).1 2).toNatClampNeg)) - (48 : Int32)))
    else zRT (zS v 2 ((v.1 2) + (1 : Int32))) (((v.2 5) (v.1 2).toNatClampNeg) - (48 : Int32)) := rfl
/-- what the tail says: refused, or one more row told -/
def zRR (v : zCV) (m : Nat) (r : Int32 × zCV) : Prop := vp_in (r.2.1 2) 61 ∧ r.2.1 1 = v.1 1 ∧ r.2.1 0 = v.1 0 ∧ ((r.1 = (0 : Int32) ∧ r.2.1 3 = v.1 3 ∧ r.2.2 = v.2) ∨ (r.1 = (1 : Int32) ∧ r.2.1 3 = v.1 3 + (1 : Int32) ∧ (v.1 2).toNatClampNeg + m ≤ (r.2.1 2).toNatClampNeg ∧ ∃ row st : Int32, vp_in row 16 ∧ r.2.2 = (zA (zA v 6 (upd (v.2 6) (v.1 3).toNatClampNeg row)) 7 (upd (v.2 7) (v.1 3).toNatClampNeg st)).2))
theorem zRT_spec {u : zCV} {row : Int32} (hs : vp_in (u.1 2) 61) (ht : vp_in (u.1 1) 61) (hrow : vp_in row 16) : zRR u 1 (zRT u row) := by
  have k1 := e1_takes u (58 : Int32)
  have k2 := e2_takes u (58 : Int32)
  have k3 := es_takes u (58 : Int32)
  have k4 := zspot_take (c := (58 : Int32)) hs ht
  have k5 := zht_take (c := (58 : Int32)) ht
  have k6 := e0_takes u (58 : Int32)
  unfold zRT
  generalize ht9 : f_X6_takesOne u (58 : Int32) = t at k1 k2 k3 k4 k5 k6 ⊢
  split
  · rename_i c
    exact ⟨k4, k1 1 (by omega), k1 0 (by omega), Or.inl ⟨rfl, k1 3 (by omega), k2⟩⟩
  · rename_i c
    obtain ⟨g1, g2, g3, g4⟩ := zL93 (zfu 7) 0 0 t.2 k4 k5
    generalize f_X6_readsRow_L93 (zfu 7) 0 0 t.2 = L at g1 g2 g3 g4 ⊢
    have e3 : L.2.2.1 3 = u.1 3 := (g3 3 (by omega)).trans (k1 3 (by omega))
    have e2 : t.2.1 2 = u.1 2 + (1 : Int32) := by
      rcases k3 with ⟨h, -⟩ | ⟨-, h⟩
      · exact absurd h c
      · exact h
    have h60 : vp_in (u.1 2) 60 := zhere hs ht (by rw [← k6]; exact c)
    refine ⟨g1, (g3 1 (by omega)).trans (k1 1 (by omega)), (g3 0 (by omega)).trans (k1 0 (by omega)), Or.inr ⟨rfl, ?_, ?_, row, L.1, hrow, ?_⟩⟩
    · show L.2.2.1 3 + (1 : Int32) = _
      rw [e3]
    · show _ ≤ (L.2.2.1 2).toNatClampNeg
      rw [e2, zlen1 h60 (by omega)] at g2
      omega
    · show (zA (zA L.2.2 6 _) 7 _).2 = _
      rw [e3]
      unfold zA
      rw [g4, k2]
      funext i
      by_cases h7 : i = 7
      · subst h7; simp
      · simp [h7]
theorem zRR_up {u v : zCV} {m : Nat} {r : Int32 × zCV} (h : zRR u 1 r) (h1 : ∀ k, k ≠ 2 → u.1 k = v.1 k) (h2 : u.2 = v.2) (h3 : (v.1 2).toNatClampNeg + m ≤ (u.1 2).toNatClampNeg) : zRR v (m + 1) r := by
  obtain ⟨a, b, c, d⟩ := h
  refine ⟨a, b.trans (h1 1 (by omega)), c.trans (h1 0 (by omega)), ?_⟩
  rcases d with ⟨d1, d2, d3⟩ | ⟨d1, d2, d3, row, st, d4, d5⟩
  · exact Or.inl ⟨d1, d2.trans (h1 3 (by omega)), d3.trans h2⟩
  · refine Or.inr ⟨d1, by rw [d2, h1 3 (by omega)], by omega, row, st, d4, ?_⟩
    rw [d5, h1 3 (by omega)]
    unfold zA
    rw [h2]
theorem zrr_spec {v : zCV} (hs : vp_in (v.1 2) 61) (ht : vp_in (v.1 1) 61) : zRR v 2 (f_X6_readsRow v) := by
  rw [zrr_cut]
  split
  · exact ⟨hs, rfl, rfl, Or.inl ⟨rfl, rfl, rfl⟩⟩
  · rename_i c
    have h60 := zhere hs ht c
    have hv := zhere_val c
    have hrow : vp_in (((v.2 5) (v.1 2).toNatClampNeg) - (48 : Int32)) 10 := by
      have h2 : ((57 : Int32)).toInt = 57 := rfl
      have h4 : ((48 : Int32)).toInt = 48 := rfl
      have h3 : vp_in ((v.2 5) (v.1 2).toNatClampNeg) 58 := vp_in_iff.mpr (by omega)
      generalize (v.2 5) (v.1 2).toNatClampNeg = x at hv h3 ⊢
      obtain ⟨j, hj, rfl⟩ := vp_in_of h3 (by omega)
      rw [nI_toInt (by omega)] at hv
      rw [show (48 : Int32) = nI 48 from rfl, pk_sub (by omega)]
      exact vp_in_nI (by omega) (by omega)
    have hu : zRR v 2 (zRT (zS v 2 ((v.1 2) + (1 : Int32))) (((v.2 5) (v.1 2).toNatClampNeg) - (48 : Int32))) := by
      refine zRR_up (m := 1) (zRT_spec (u := zS v 2 ((v.1 2) + (1 : Int32))) (zspot1 h60) ht (zin_mono hrow (by omega))) (fun k hk => pk_un hk) rfl ?_
      show _ ≤ ((v.1 2) + (1 : Int32)).toNatClampNeg
      rw [zlen1 h60 (by omega)]
      exact Nat.le_refl _
    split
    · split
      · exact hu
      · rename_i c2
        have h61 : vp_in ((zS v 2 ((v.1 2) + (1 : Int32))).1 2) 60 := zhere (zspot1 h60) ht c2
        have hv2 := zhere_val c2
        have hrow2 : vp_in (((10 : Int32) + ((v.2 5) ((zS v 2 ((v.1 2) + (1 : Int32))).1 2).toNatClampNeg)) - (48 : Int32)) 16 := by
          change (48 : Int32).toInt ≤ ((v.2 5) ((zS v 2 ((v.1 2) + (1 : Int32))).1 2).toNatClampNeg).toInt ∧ ((v.2 5) ((zS v 2 ((v.1 2) + (1 : Int32))).1 2).toNatClampNeg).toInt ≤ (53 : Int32).toInt at hv2
          have h2 : ((53 : Int32)).toInt = 53 := rfl
          have h4 : ((48 : Int32)).toInt = 48 := rfl
          have h3 : vp_in ((v.2 5) ((zS v 2 ((v.1 2) + (1 : Int32))).1 2).toNatClampNeg) 58 := vp_in_iff.mpr (by omega)
          generalize (v.2 5) ((zS v 2 ((v.1 2) + (1 : Int32))).1 2).toNatClampNeg = x at hv2 h3 ⊢
          obtain ⟨j, hj, rfl⟩ := vp_in_of h3 (by omega)
          rw [nI_toInt (by omega)] at hv2
          rw [show (48 : Int32) = nI 48 from rfl, show (10 : Int32) = nI 10 from rfl, nI_add, pk_sub (by omega)]
          exact vp_in_nI (by omega) (by omega)
        have h7 := zRR_up (v := zS v 2 ((v.1 2) + (1 : Int32))) (m := 0) (zRT_spec (u := zS (zS v 2 ((v.1 2) + (1 : Int32))) 2 (((zS v 2 ((v.1 2) + (1 : Int32))).1 2) + (1 : Int32))) (zspot1 h61) ht hrow2) (fun k hk => pk_un hk) rfl (by
          show _ ≤ (((zS v 2 ((v.1 2) + (1 : Int32))).1 2) + (1 : Int32)).toNatClampNeg
          rw [zlen1 h61 (by omega)]; omega)
        refine zRR_up (m := 1) h7 (fun k hk => pk_un hk) rfl ?_
        show _ ≤ ((v.1 2) + (1 : Int32)).toNatClampNeg
        rw [zlen1 h60 (by omega)]
        exact Nat.le_refl _
    · exact hu
/-- at the head of fault's loop -/
def zFI (x : Int32) (w : zCV) : Prop := vp_in (w.1 2) 61 ∧ vp_in (w.1 1) 61 ∧ (∀ k : Nat, k < (w.1 3).toNatClampNeg → vp_in ((w.2 6) k) 16) ∧ vp_in (w.1 3) 22 ∧ (x = (0 : Int32) ∨ 3 * (w.1 3).toNatClampNeg ≤ (w.1 2).toNatClampNeg)
theorem zFI_31 {x : Int32} {w : zCV} (h : zFI x w) : vp_in (w.1 3) 31 := zin_mono h.2.2.2.1 (by omega)
theorem zFI_step {x : Int32} {w : zCV} (h : zFI x w) (hx : ¬ x = (0 : Int32)) (c : ¬ (f_X6_readsRow w).1 = (0 : Int32)) : zFI (f_X6_takesOne (f_X6_readsRow w).2 (59 : Int32)).1 (f_X6_takesOne (f_X6_readsRow w).2 (59 : Int32)).2 ∧ (w.1 2).toNatClampNeg + 1 ≤ ((f_X6_takesOne (f_X6_readsRow w).2 (59 : Int32)).2.1 2).toNatClampNeg := by
  obtain ⟨hs, ht, hr, hd, ho⟩ := h
  obtain ⟨a, b, -, d⟩ := zrr_spec hs ht
  generalize f_X6_readsRow w = r at a b c d ⊢
  rcases d with ⟨d1, -⟩ | ⟨-, d2, d3, row, st, d4, d5⟩
  · exact absurd d1 c
  have ho' : 3 * (w.1 3).toNatClampNeg ≤ (w.1 2).toNatClampNeg := ho.resolve_left hx
  have hs' := vp_in_iff.mp hs
  have hsc := zclamp (w.1 2)
  have hd' := vp_in_iff.mp hd
  have hdc := zclamp (w.1 3)
  have ha' := vp_in_iff.mp a
  have hac := zclamp (r.2.1 2)
  have h20 : (w.1 3).toNatClampNeg ≤ 20 := by omega
  have hd21 : vp_in (w.1 3) 21 := vp_in_iff.mpr (by omega)
  have ht' : vp_in (r.2.1 1) 61 := by rw [b]; exact ht
  have k4 := zspot_take (c := (59 : Int32)) a ht'
  have k5 := zht_take (c := (59 : Int32)) ht'
  have e3 := e1_takes r.2 (59 : Int32) 3 (by omega)
  have k2 := e2_takes r.2 (59 : Int32)
  have k3 := es_takes r.2 (59 : Int32)
  have k6 := e0_takes r.2 (59 : Int32)
  have e3' : ((f_X6_takesOne r.2 (59 : Int32)).2.1 3).toNatClampNeg = (w.1 3).toNatClampNeg + 1 := by
    rw [e3, d2, zlen1 hd (by omega)]
  generalize f_X6_takesOne r.2 (59 : Int32) = t at k2 k3 k4 k5 e3 e3' k6 ⊢
  have hsp : (w.1 2).toNatClampNeg + 2 ≤ (t.2.1 2).toNatClampNeg ∧ (t.1 = (0 : Int32) ∨ (w.1 2).toNatClampNeg + 3 ≤ (t.2.1 2).toNatClampNeg) := by
    rcases k3 with ⟨q1, q2⟩ | ⟨q1, q2⟩
    · rw [q2]; exact ⟨d3, Or.inl q1⟩
    · have h60 : vp_in (r.2.1 2) 60 := zhere (a := (59 : Int32)) (b := (59 : Int32)) a ht' (by rw [← k6, q1]; decide)
      rw [q2, zlen1 h60 (by omega)]
      exact ⟨by omega, Or.inr (by omega)⟩
  refine ⟨⟨k4, k5, ?_, ?_, ?_⟩, by omega⟩
  · intro k hk
    rw [e3'] at hk
    rw [k2, d5]
    show vp_in ((zA (zA w 6 _) 7 _).2 6 k) 16
    rw [zA_ne _ _ (by decide), zA_eq]
    by_cases hkk : k = (w.1 3).toNatClampNeg
    · rw [hkk, pk_us]; exact d4
    · rw [pk_un hkk]; exact hr k (by omega)
  · have := zclamp (t.2.1 3)
    rw [e3, d2]
    exact zin_1 hd21 (by omega)
  · rcases hsp.2 with q | q
    · exact Or.inl q
    · right; rw [e3']; omega
abbrev rm_X6_fault : Room := { frames := 4, cells := 0, slots := 0, locals := 92 }
set_option maxRecDepth 20000 in
theorem zin_X6_fault_X6 : ∀ w ∈ wsX60, w ∈ wsX6_fault := by decide +kernel
def s_X6_fault_2 (v : zCV) : zCV := zS v 2 (0 : Int32)
def s_X6_fault_7 (v : zCV) : zCV := zS (s_X6_fault_2 v) 3 (0 : Int32)
def r_X6_fault_17 (w12_0 : zCV) : Int32 × zCV := (f_X6_readsRow w12_0)
def r_X6_fault_31 (w12_0 : zCV) : Int32 × zCV := (f_X6_takesOne (r_X6_fault_17 w12_0).2 (59 : Int32))
def f_X6_fault_L12 (v : zCV) : Nat → Int32 → zCV → Int32 × zCV
  | 0, x12_1, w12_0 => ((0 : Int32), v)
  | n12 + 1, x12_1, w12_0 => if x12_1 = (0 : Int32) then (if (w12_0.1 2) = (w12_0.1 1) then (((-6 : Int32), w12_0)) else (((w12_0.1 2), w12_0))) else (if ((r_X6_fault_17 w12_0).1) = (0 : Int32) then ((((r_X6_fault_17 w12_0).2.1 2), (r_X6_fault_17 w12_0).2)) else ((f_X6_fault_L12 v n12 ((r_X6_fault_31 w12_0).1) (r_X6_fault_31 w12_0).2)))
def f_X6_fault (v : zCV) : Int32 × zCV := (f_X6_fault_L12 v (zfu 62) (1 : Int32) (s_X6_fault_7 v))
theorem zFI_0 {v : zCV} (ht : vp_in (v.1 1) 61) : zFI (1 : Int32) (s_X6_fault_7 v) := by
  have e2 : (s_X6_fault_7 v).1 2 = (0 : Int32) := rfl
  have e3 : (s_X6_fault_7 v).1 3 = (0 : Int32) := rfl
  have e1 : (s_X6_fault_7 v).1 1 = v.1 1 := rfl
  unfold zFI
  rw [e2, e3, e1]
  exact ⟨zlit _ 61 (by decide +kernel), ht, fun k hk => absurd hk (Nat.not_lt_zero k), zlit _ 22 (by decide +kernel), Or.inr (by decide)⟩
set_option maxRecDepth 100000 in
set_option maxHeartbeats 4000000 in
theorem m_X6_fault (l : Launch) (g : zG) (q : Nat → Nat) (v : zCV) (ht : vp_in (v.1 1) 61) : ZI l yX6_fault wsX6_fault rm_X6_fault g (mo g q v) [.ref (q 0)] (f_X6_fault v).1 (mo g q (f_X6_fault v).2) := by
  refine zopenI (cc := cX6_fault) (maxL := 2) (ret := .int) (by decide +kernel) rfl (Nat.le_of_ble_eq_true rfl) ?_
  intro p e s m below meth c A Q ls hx hb hml hown hts hP hK hD hA hN hl hret
  have hS : va_S A s.heap s.heap [] := va_S.rf
  have hl : lv_has ls 2 [(0, .ref (q 0))] := hl
  have hown : s.vm.findClass RX6 = some m.cls := hown
  refine lv_aload_n hx hb dX6_fault_0 rfl (lv_at hl 0 rfl) ?_
  refine lv_iconst (v := (0 : Int32)) hx hb dX6_fault_1 (by decide) ?_
  refine va_put (D := g.1) (ci := 6) (v := .int (0 : Int32)) (ty := .int) (C := RX6) (T := TX6) (N := 12) hx hb hts (zin_X6_fault_X6) tyX6 tyX6_ok nmX6 hown hK hP hD hS 0 rfl rfl 8 (by decide) (hts (.fieldLink RX6 147 "PegClerksModel" "spot" "I") (by decide +kernel)) (fun _ h9 => h9) rfl (by decide +kernel) rfl rfl (Nat.le_of_ble_eq_true rfl) dX6_fault_2 (fun H locs hP hD hS => ?_)
  have hP : va_P g.1 vwCl (mo g q (s_X6_fault_2 v)) H := (congrArg (fun z => va_P g.1 vwCl z H) (mo_S2 g q v (0 : Int32))).mp hP
  have hD : va_D A (mo g q (s_X6_fault_2 v)) := (congrArg (fun z => va_D A z) (mo_S2 g q v (0 : Int32))).mp hD
  refine lv_aload_n hx hb dX6_fault_5 rfl (lv_at hl 0 rfl) ?_
  refine lv_iconst (v := (0 : Int32)) hx hb dX6_fault_6 (by decide) ?_
  refine va_put (D := g.1) (ci := 6) (v := .int (0 : Int32)) (ty := .int) (C := RX6) (T := TX6) (N := 12) hx hb hts (zin_X6_fault_X6) tyX6 tyX6_ok nmX6 hown hK hP hD hS 0 rfl rfl 11 (by decide) (hts (.fieldLink RX6 156 "PegClerksModel" "told" "I") (by decide +kernel)) (fun _ h9 => h9) rfl (by decide +kernel) rfl rfl (Nat.le_of_ble_eq_true rfl) dX6_fault_7 (fun H locs hP hD hS => ?_)
  have hP : va_P g.1 vwCl (mo g q (s_X6_fault_7 v)) H := (congrArg (fun z => va_P g.1 vwCl z H) (mo_S3 g q (s_X6_fault_2 v) (0 : Int32))).mp hP
  have hD : va_D A (mo g q (s_X6_fault_7 v)) := (congrArg (fun z => va_D A z) (mo_S3 g q (s_X6_fault_2 v) (0 : Int32))).mp hD
  refine lv_iconst (v := (1 : Int32)) hx hb dX6_fault_10 (by decide) ?_
  refine lv_istore_n (lv' := [(1, .int (1 : Int32)), (0, .ref (q 0))]) hx hb dX6_fault_11 rfl hl (by decide) rfl (fun ls hl => ?_)
  have L12 : ∀ (n12 : Nat) (x12_1 : Int32) (w12_0 : zCV) (H : Heap) (locs : List Loc) (ls : Array Slot), zFI x12_1 w12_0 → 62 ≤ n12 + (w12_0.1 2).toNatClampNeg → va_P g.1 vwCl (mo g q w12_0) H → va_D A (mo g q w12_0) → va_S A s.heap H locs → lv_has ls 2 [(1, .int x12_1), (0, .ref (q 0))] → ((f_X6_fault v) = (f_X6_fault_L12 v n12 x12_1 w12_0)) → W p l e rm_X6_fault s m ([.ref (q 0)] : List Value).toArray below meth c H locs 0 0 Q (F0 m 12 ls []) := by
    intro n12
    induction n12 with
    | zero =>
      intro x12_1 w12_0 H locs ls hfi hfu hP hD hS hl kx
      exact absurd hfu (by have h7 := vp_in_iff.mp hfi.1; have h8 := zclamp (w12_0.1 2); omega)
    | succ n12 ih12 =>
      intro x12_1 w12_0 H locs ls hfi hfu hP hD hS hl kx
      refine lv_iload_n hx hb dX6_fault_12 rfl (lv_at hl 0 rfl) ?_
      refine lv_if_eq (tgt := 38) hx hb dX6_fault_13 (by decide) (fun c_13 => ?_) (fun c_13 => ?_)
      · refine lv_aload_n hx hb dX6_fault_38 rfl (lv_at hl 1 rfl) ?_
        refine va_get (D := g.1) (ci := 6) (v := .int (w12_0.1 2)) (C := RX6) (T := TX6) (N := 12) hx hb hts (zin_X6_fault_X6) hown hK hP 0 rfl rfl 8 (by decide) (hts (.fieldLink RX6 147 "PegClerksModel" "spot" "I") (by decide +kernel)) (fun _ h9 => h9) rfl dX6_fault_39 ?_
        refine lv_aload_n hx hb dX6_fault_42 rfl (lv_at hl 1 rfl) ?_
        refine va_get (D := g.1) (ci := 6) (v := .int (w12_0.1 1)) (C := RX6) (T := TX6) (N := 12) hx hb hts (zin_X6_fault_X6) hown hK hP 0 rfl rfl 7 (by decide) (hts (.fieldLink RX6 121 "PegClerksModel" "textLong" "I") (by decide +kernel)) (fun _ h9 => h9) rfl dX6_fault_43 ?_
        refine lv_icmp_ne (tgt := 54) hx hb dX6_fault_46 (by decide) (fun c_46 => ?_) (fun c_46 => ?_)
        · refine lv_aload_n hx hb dX6_fault_54 rfl (lv_at hl 1 rfl) ?_
          refine va_get (D := g.1) (ci := 6) (v := .int (w12_0.1 2)) (C := RX6) (T := TX6) (N := 12) hx hb hts (zin_X6_fault_X6) hown hK hP 0 rfl rfl 8 (by decide) (hts (.fieldLink RX6 147 "PegClerksModel" "spot" "I") (by decide +kernel)) (fun _ h9 => h9) rfl dX6_fault_55 ?_
          have E : (f_X6_fault v) = ((w12_0.1 2), w12_0) := kx.trans ((if_pos c_13).trans ((if_neg c_46).trans rfl))
          have e1 : (w12_0.1 2) = (f_X6_fault v).1 := by rw [E]
          have e2 : (mo g q w12_0) = (mo g q (f_X6_fault v).2) := by rw [E]
          exact hret (w12_0.1 2) (mo g q w12_0) _ _ _ _ dX6_fault_58 e1 (rfl) e2 hP hD hS
        · refine lv_bipush (v := (-6 : Int32)) hx hb dX6_fault_49 (by decide) ?_
          refine lv_goto (tgt := 58) hx hb dX6_fault_51 (by decide) ?_
          have E : (f_X6_fault v) = ((-6 : Int32), w12_0) := kx.trans ((if_pos c_13).trans ((if_pos c_46).trans rfl))
          have e1 : (-6 : Int32) = (f_X6_fault v).1 := by rw [E]
          have e2 : (mo g q w12_0) = (mo g q (f_X6_fault v).2) := by rw [E]
          exact hret (-6 : Int32) (mo g q w12_0) _ _ _ _ dX6_fault_58 e1 (rfl) e2 hP hD hS
      · refine lv_aload_n hx hb dX6_fault_16 rfl (lv_at hl 1 rfl) ?_
        refine zcVi (n := 0) (As := []) (rest := []) (Xr := []) (Xn := (mo g q (r_X6_fault_17 w12_0).2)) (ci := 6) (C := RX6) (T := TX6) (N := 12) (q0 := 0) hx hb hml hown hts hN (m_X6_readsRow l g q w12_0 hfi.1 hfi.2.1 (zFI_31 hfi)) gX6_fault_X6_readsRow rfl (by decide +kernel) ⟨rfl, rfl⟩ ⟨Nat.le_of_ble_eq_true rfl, Nat.le_of_ble_eq_true rfl⟩ hK hP hD hS hA (zpn _) rfl rfl rfl hl.1 rfl (Nat.le_of_ble_eq_true rfl) dX6_fault_17 ⟨Nat.zero_le _, Nat.zero_le _⟩ (zpn' _) (fun H locs hP hD hS => ?_)
        refine lv_if_ne (tgt := 28) hx hb dX6_fault_20 (by decide) (fun c_20 => ?_) (fun c_20 => ?_)
        · refine lv_aload_n hx hb dX6_fault_28 rfl (lv_at hl 1 rfl) ?_
          refine lv_bipush (v := (59 : Int32)) hx hb dX6_fault_29 (by decide) ?_
          refine zcVi (n := 1) (As := [.int (59 : Int32)]) (rest := []) (Xr := []) (Xn := (mo g q (r_X6_fault_31 w12_0).2)) (ci := 6) (C := RX6) (T := TX6) (N := 12) (q0 := 0) hx hb hml hown hts hN (m_X6_takesOne l g q (r_X6_fault_17 w12_0).2 (59 : Int32) (zrr_spec hfi.1 hfi.2.1).1 (by rw [show (r_X6_fault_17 w12_0).2.1 1 = w12_0.1 1 from (zrr_spec hfi.1 hfi.2.1).2.1]; exact hfi.2.1)) gX6_fault_X6_takesOne rfl (by decide +kernel) ⟨rfl, rfl⟩ ⟨Nat.le_of_ble_eq_true rfl, Nat.le_of_ble_eq_true rfl⟩ hK hP hD hS hA (zpn _) rfl rfl rfl hl.1 rfl (Nat.le_of_ble_eq_true rfl) dX6_fault_31 ⟨Nat.zero_le _, Nat.zero_le _⟩ (zpn' _) (fun H locs hP hD hS => ?_)
          refine lv_istore_n (lv' := [(1, .int ((r_X6_fault_31 w12_0).1)), (0, .ref (q 0))]) hx hb dX6_fault_34 rfl hl (by decide) rfl (fun ls hl => ?_)
          refine lv_goto (tgt := 12) hx hb dX6_fault_35 (by decide) ?_
          have E : (f_X6_fault_L12 v (n12 + 1) x12_1 w12_0) = (f_X6_fault_L12 v n12 ((r_X6_fault_31 w12_0).1) (r_X6_fault_31 w12_0).2) := (if_neg c_13).trans ((if_neg c_20).trans rfl)
          exact ih12 ((r_X6_fault_31 w12_0).1) (r_X6_fault_31 w12_0).2 _ _ _ (zFI_step hfi c_13 c_20).1 (by have h8 := (zFI_step hfi c_13 c_20).2; have h9 : 62 ≤ (n12 + 1) + (w12_0.1 2).toNatClampNeg := hfu; show 62 ≤ n12 + ((f_X6_takesOne (f_X6_readsRow w12_0).2 (59 : Int32)).2.1 2).toNatClampNeg; omega) hP hD hS (lv_sub hl [0, 1] rfl) (kx.trans E)
        · refine lv_aload_n hx hb dX6_fault_23 rfl (lv_at hl 1 rfl) ?_
          refine va_get (D := g.1) (ci := 6) (v := .int ((r_X6_fault_17 w12_0).2.1 2)) (C := RX6) (T := TX6) (N := 12) hx hb hts (zin_X6_fault_X6) hown hK hP 0 rfl rfl 8 (by decide) (hts (.fieldLink RX6 147 "PegClerksModel" "spot" "I") (by decide +kernel)) (fun _ h9 => h9) rfl dX6_fault_24 ?_
          have E : (f_X6_fault v) = (((r_X6_fault_17 w12_0).2.1 2), (r_X6_fault_17 w12_0).2) := kx.trans ((if_neg c_13).trans ((if_pos c_20).trans rfl))
          have e1 : ((r_X6_fault_17 w12_0).2.1 2) = (f_X6_fault v).1 := by rw [E]
          have e2 : (mo g q (r_X6_fault_17 w12_0).2) = (mo g q (f_X6_fault v).2) := by rw [E]
          exact hret ((r_X6_fault_17 w12_0).2.1 2) (mo g q (r_X6_fault_17 w12_0).2) _ _ _ _ dX6_fault_27 e1 (rfl) e2 hP hD hS
  exact L12 (zfu 62) (1 : Int32) (s_X6_fault_7 v) _ _ _ (zFI_0 ht) (by rw [zfu_eq]; omega) hP hD hS (lv_sub hl [0, 1] rfl) (rfl)
