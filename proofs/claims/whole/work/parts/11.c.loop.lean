theorem zsw22 {x : Int32} (h0 : ¬ x.toInt = 0) (h1 : ¬ x.toInt = 1) (h2 : ¬ x.toInt = 2) (h3 : ¬ x.toInt = 3) (h4 : ¬ x.toInt = 4) (h5 : ¬ x.toInt = 5) (h6 : ¬ x.toInt = 6) (h7 : ¬ x.toInt = 7) (h8 : ¬ x.toInt = 8) (h9 : ¬ x.toInt = 9) (h10 : ¬ x.toInt = 10) (h11 : ¬ x.toInt = 11) (h12 : ¬ x.toInt = 12) (h13 : ¬ x.toInt = 13) (h14 : ¬ x.toInt = 14) (h15 : ¬ x.toInt = 15) (h16 : ¬ x.toInt = 16) (h17 : ¬ x.toInt = 17) (h18 : ¬ x.toInt = 18) (h19 : ¬ x.toInt = 19) (h20 : ¬ x.toInt = 20) (h21 : ¬ x.toInt = 21) : x.toInt < 0 ∨ 21 < x.toInt := by omega
set_option maxRecDepth 100000 in
set_option maxHeartbeats 4000000 in
theorem zlaw_iter {p : Program} {l : Launch} {e : Env} {s : State} {m : MethodId} {below : List Frame} {meth : Method} {c : Code} {Q : State → Prop} {b L : Nat} {xs : Nat → Int32} {g : zG} {A : Nat → Prop} {a : Nat} {qc qh qp qs qt : Nat → Nat} {QH QS : Nat → Nat → Nat} {qm : Nat → Nat} {I : zRel} (hx : p.tables.exec = Jvm.exec) (hb : c.code = cL_law) (hml : c.maxLocals = 4) (hown : s.vm.findClass RL = some m.cls) (hts : ∀ w ∈ wsL_law, w.before #[Value.ref b] s = true) (hX : va_X b L xs s s.heap) (hbl : b < s.heap.size) (hbA : ¬ A b) (hA : ∀ q : Nat, s.heap.size ≤ q → A q) (hN : zN s) (hK : va_K g.1 vwCl (zTy g) s) (hGS : zGS A s s.heap) (hI : zSim I) (hL : L ≤ 1536) {i : Nat} (hi2 : i + 2 < L) (kx : ∀ (vc vh vp vs vt : zCV) (VH VS : Nat → zCV) (v : zCV) (H : Heap) (locs : List Loc) (ls : Array Slot), I vc vh vp vs vt VH VS v → va_P g.1 vwCl ((po a (qc 0) (qt 0) (qh 0) (qp 0) (qs 0) (qs 1)) ++ ((ck g qc vc) ++ ((hi g qh (fun j => some (QH j 0)) vh) ++ ((pd g qp vp) ++ ((sl g qs (fun j => some (QS j 0)) vs) ++ ((ck g qt vt) ++ ((hs g QH VH) ++ ((ss g QS VS) ++ ((mo g qm v)))))))))) H → va_D A ((po a (qc 0) (qt 0) (qh 0) (qp 0) (qs 0) (qs 1)) ++ ((ck g qc vc) ++ ((hi g qh (fun j => some (QH j 0)) vh) ++ ((pd g qp vp) ++ ((sl g qs (fun j => some (QS j 0)) vs) ++ ((ck g qt vt) ++ ((hs g QH VH) ++ ((ss g QS VS) ++ ((mo g qm v)))))))))) → va_S A s.heap H locs → lv_has ls 4 [(0, .ref b), (1, .ref a), (2, .ref (qm 0)), (3, .int (nI i))] → W p l e room_1 s m #[Value.ref b] below meth c H locs 116 3187 Q (F0 m 652 ls [])) : ∀ (vc vh vp vs vt : zCV) (VH VS : Nat → zCV) (v : zCV) (H : Heap) (locs : List Loc) (ls : Array Slot), I vc vh vp vs vt VH VS v → va_P g.1 vwCl ((po a (qc 0) (qt 0) (qh 0) (qp 0) (qs 0) (qs 1)) ++ ((ck g qc vc) ++ ((hi g qh (fun j => some (QH j 0)) vh) ++ ((pd g qp vp) ++ ((sl g qs (fun j => some (QS j 0)) vs) ++ ((ck g qt vt) ++ ((hs g QH VH) ++ ((ss g QS VS) ++ ((mo g qm v)))))))))) H → va_D A ((po a (qc 0) (qt 0) (qh 0) (qp 0) (qs 0) (qs 1)) ++ ((ck g qc vc) ++ ((hi g qh (fun j => some (QH j 0)) vh) ++ ((pd g qp vp) ++ ((sl g qs (fun j => some (QS j 0)) vs) ++ ((ck g qt vt) ++ ((hs g QH VH) ++ ((ss g QS VS) ++ ((mo g qm v)))))))))) → va_S A s.heap H locs → lv_has ls 4 [(0, .ref b), (1, .ref a), (2, .ref (qm 0)), (3, .int (nI i))] → W p l e room_1 s m #[Value.ref b] below meth c H locs 116 3187 Q (F0 m 26 ls []) := by
  intro vc vh vp vs vt VH VS v H locs ls hR hP hD hS hl
  refine lv_aload_n hx hb dL_law_26 rfl (lv_at hl 0 rfl) ?_
  refine lv_iload_n hx hb dL_law_27 rfl (lv_at hl 3 rfl) ?_
  refine va_sld hx hb hX hbl hbA hS (vp_in_nI (n := i) (by omega) (by omega)) dL_law_28 ?_
  refine lv_bipush (v := (31 : Int32)) hx hb dL_law_29 (by decide) ?_
  refine lv_iand hx hb dL_law_31 ?_
  refine lv_topi (fun x ex => ?_)
  by_cases c0 : x = (0 : Int32)
  · refine lv_tableIn (off := 104) (tgt := 136) hx hb dL_law_32 (by rw [c0]; decide) (by rw [c0]; decide) (by rw [c0]; rfl) (by decide) ?_
    exact zop_set hx hb hml hown hts hX hbl hbA hA hN hK hGS hI hL hi2 kx vc vh vp vs vt VH VS v H locs ls hR hP hD hS hl
  by_cases c1 : x = (1 : Int32)
  · refine lv_tableIn (off := 137) (tgt := 169) hx hb dL_law_32 (by rw [c1]; decide) (by rw [c1]; decide) (by rw [c1]; rfl) (by decide) ?_
    exact zop_peg hx hb hml hown hts hX hbl hbA hA hN hK hGS hI hL hi2 kx vc vh vp vs vt VH VS v H locs ls hR hP hD hS hl
  by_cases c2 : x = (2 : Int32)
  · refine lv_tableIn (off := 170) (tgt := 202) hx hb dL_law_32 (by rw [c2]; decide) (by rw [c2]; decide) (by rw [c2]; rfl) (by decide) ?_
    exact zop_order hx hb hml hown hts hX hbl hbA hA hN hK hGS hI hL hi2 kx vc vh vp vs vt VH VS v H locs ls hR hP hD hS hl
  by_cases c3 : x = (3 : Int32)
  · refine lv_tableIn (off := 193) (tgt := 225) hx hb dL_law_32 (by rw [c3]; decide) (by rw [c3]; decide) (by rw [c3]; rfl) (by decide) ?_
    exact zop_ink hx hb hml hown hts hX hbl hbA hA hN hK hGS hI hL hi2 kx vc vh vp vs vt VH VS v H locs ls hR hP hD hS hl
  by_cases c4 : x = (4 : Int32)
  · refine lv_tableIn (off := 216) (tgt := 248) hx hb dL_law_32 (by rw [c4]; decide) (by rw [c4]; decide) (by rw [c4]; rfl) (by decide) ?_
    exact zop_step hx hb hml hown hts hX hbl hbA hA hN hK hGS hI hL hi2 kx vc vh vp vs vt VH VS v H locs ls hR hP hD hS hl
  by_cases c5 : x = (5 : Int32)
  · refine lv_tableIn (off := 239) (tgt := 271) hx hb dL_law_32 (by rw [c5]; decide) (by rw [c5]; decide) (by rw [c5]; rfl) (by decide) ?_
    exact zop_free hx hb hml hown hts hX hbl hbA hA hN hK hGS hI hL hi2 kx vc vh vp vs vt VH VS v H locs ls hR hP hD hS hl
  by_cases c6 : x = (6 : Int32)
  · refine lv_tableIn (off := 252) (tgt := 284) hx hb dL_law_32 (by rw [c6]; decide) (by rw [c6]; decide) (by rw [c6]; rfl) (by decide) ?_
    exact zop_newForm hx hb hml hown hts hX hbl hbA hA hN hK hGS hI hL hi2 kx vc vh vp vs vt VH VS v H locs ls hR hP hD hS hl
  by_cases c7 : x = (7 : Int32)
  · refine lv_tableIn (off := 265) (tgt := 297) hx hb dL_law_32 (by rw [c7]; decide) (by rw [c7]; decide) (by rw [c7]; rfl) (by decide) ?_
    exact zop_read hx hb hml hown hts hX hbl hbA hA hN hK hGS hI hL hi2 kx vc vh vp vs vt VH VS v H locs ls hR hP hD hS hl
  by_cases c8 : x = (8 : Int32)
  · refine lv_tableIn (off := 278) (tgt := 310) hx hb dL_law_32 (by rw [c8]; decide) (by rw [c8]; decide) (by rw [c8]; rfl) (by decide) ?_
    exact zop_row hx hb hml hown hts hX hbl hbA hA hN hK hGS hI hL hi2 kx vc vh vp vs vt VH VS v H locs ls hR hP hD hS hl
  by_cases c9 : x = (9 : Int32)
  · refine lv_tableIn (off := 311) (tgt := 343) hx hb dL_law_32 (by rw [c9]; decide) (by rw [c9]; decide) (by rw [c9]; rfl) (by decide) ?_
    exact zop_stamped hx hb hml hown hts hX hbl hbA hA hN hK hGS hI hL hi2 kx vc vh vp vs vt VH VS v H locs ls hR hP hD hS hl
  by_cases c10 : x = (10 : Int32)
  · refine lv_tableIn (off := 344) (tgt := 376) hx hb dL_law_32 (by rw [c10]; decide) (by rw [c10]; decide) (by rw [c10]; rfl) (by decide) ?_
    exact zop_stamp hx hb hml hown hts hX hbl hbA hA hN hK hGS hI hL hi2 kx vc vh vp vs vt VH VS v H locs ls hR hP hD hS hl
  by_cases c11 : x = (11 : Int32)
  · refine lv_tableIn (off := 377) (tgt := 409) hx hb dL_law_32 (by rw [c11]; decide) (by rw [c11]; decide) (by rw [c11]; rfl) (by decide) ?_
    exact zop_count hx hb hml hown hts hX hbl hbA hA hN hK hGS hI hL hi2 kx vc vh vp vs vt VH VS v H locs ls hR hP hD hS hl
  by_cases c12 : x = (12 : Int32)
  · refine lv_tableIn (off := 400) (tgt := 432) hx hb dL_law_32 (by rw [c12]; decide) (by rw [c12]; decide) (by rw [c12]; rfl) (by decide) ?_
    exact zop_untilJam hx hb hml hown hts hX hbl hbA hA hN hK hGS hI hL hi2 kx vc vh vp vs vt VH VS v H locs ls hR hP hD hS hl
  by_cases c13 : x = (13 : Int32)
  · refine lv_tableIn (off := 413) (tgt := 445) hx hb dL_law_32 (by rw [c13]; decide) (by rw [c13]; decide) (by rw [c13]; rfl) (by decide) ?_
    exact zop_ifStepped hx hb hml hown hts hX hbl hbA hA hN hK hGS hI hL hi2 kx vc vh vp vs vt VH VS v H locs ls hR hP hD hS hl
  by_cases c14 : x = (14 : Int32)
  · refine lv_tableIn (off := 446) (tgt := 478) hx hb dL_law_32 (by rw [c14]; decide) (by rw [c14]; decide) (by rw [c14]; rfl) (by decide) ?_
    exact zop_bestOut hx hb hml hown hts hX hbl hbA hA hN hK hGS hI hL hi2 kx vc vh vp vs vt VH VS v H locs ls hR hP hD hS hl
  by_cases c15 : x = (15 : Int32)
  · refine lv_tableIn (off := 459) (tgt := 491) hx hb dL_law_32 (by rw [c15]; decide) (by rw [c15]; decide) (by rw [c15]; rfl) (by decide) ?_
    exact zop_nextStamps hx hb hml hown hts hX hbl hbA hA hN hK hGS hI hL hi2 kx vc vh vp vs vt VH VS v H locs ls hR hP hD hS hl
  by_cases c16 : x = (16 : Int32)
  · refine lv_tableIn (off := 482) (tgt := 514) hx hb dL_law_32 (by rw [c16]; decide) (by rw [c16]; decide) (by rw [c16]; rfl) (by decide) ?_
    exact zop_put hx hb hml hown hts hX hbl hbA hA hN hK hGS hI hL hi2 kx vc vh vp vs vt VH VS v H locs ls hR hP hD hS hl
  by_cases c17 : x = (17 : Int32)
  · refine lv_tableIn (off := 535) (tgt := 567) hx hb dL_law_32 (by rw [c17]; decide) (by rw [c17]; decide) (by rw [c17]; rfl) (by decide) ?_
    exact zop_wipe hx hb hml hown hts hX hbl hbA hA hN hK hGS hI hL hi2 kx vc vh vp vs vt VH VS v H locs ls hR hP hD hS hl
  by_cases c18 : x = (18 : Int32)
  · refine lv_tableIn (off := 548) (tgt := 580) hx hb dL_law_32 (by rw [c18]; decide) (by rw [c18]; decide) (by rw [c18]; rfl) (by decide) ?_
    exact zop_fault hx hb hml hown hts hX hbl hbA hA hN hK hGS hI hL hi2 kx vc vh vp vs vt VH VS v H locs ls hR hP hD hS hl
  by_cases c19 : x = (19 : Int32)
  · refine lv_tableIn (off := 561) (tgt := 593) hx hb dL_law_32 (by rw [c19]; decide) (by rw [c19]; decide) (by rw [c19]; rfl) (by decide) ?_
    exact zop_undo hx hb hml hown hts hX hbl hbA hA hN hK hGS hI hL hi2 kx vc vh vp vs vt VH VS v H locs ls hR hP hD hS hl
  by_cases c20 : x = (20 : Int32)
  · refine lv_tableIn (off := 574) (tgt := 606) hx hb dL_law_32 (by rw [c20]; decide) (by rw [c20]; decide) (by rw [c20]; rfl) (by decide) ?_
    exact zop_save hx hb hml hown hts hX hbl hbA hA hN hK hGS hI hL hi2 kx vc vh vp vs vt VH VS v H locs ls hR hP hD hS hl
  by_cases c21 : x = (21 : Int32)
  · refine lv_tableIn (off := 597) (tgt := 629) hx hb dL_law_32 (by rw [c21]; decide) (by rw [c21]; decide) (by rw [c21]; rfl) (by decide) ?_
    exact zop_restore hx hb hml hown hts hX hbl hbA hA hN hK hGS hI hL hi2 kx vc vh vp vs vt VH VS v H locs ls hR hP hD hS hl
  refine lv_tableOut (tgt := 652) hx hb dL_law_32 (zsw22 (lv_neT c0 (a := 0) (by decide)) (lv_neT c1 (a := 1) (by decide)) (lv_neT c2 (a := 2) (by decide)) (lv_neT c3 (a := 3) (by decide)) (lv_neT c4 (a := 4) (by decide)) (lv_neT c5 (a := 5) (by decide)) (lv_neT c6 (a := 6) (by decide)) (lv_neT c7 (a := 7) (by decide)) (lv_neT c8 (a := 8) (by decide)) (lv_neT c9 (a := 9) (by decide)) (lv_neT c10 (a := 10) (by decide)) (lv_neT c11 (a := 11) (by decide)) (lv_neT c12 (a := 12) (by decide)) (lv_neT c13 (a := 13) (by decide)) (lv_neT c14 (a := 14) (by decide)) (lv_neT c15 (a := 15) (by decide)) (lv_neT c16 (a := 16) (by decide)) (lv_neT c17 (a := 17) (by decide)) (lv_neT c18 (a := 18) (by decide)) (lv_neT c19 (a := 19) (by decide)) (lv_neT c20 (a := 20) (by decide)) (lv_neT c21 (a := 21) (by decide))) (by decide) ?_
  exact kx vc vh vp vs vt VH VS v H locs ls hR hP hD hS hl
theorem zlaw_test {L i : Nat} (hL : L ≤ 1536) (hi : i ≤ 1540) : (Int32.ofNat L - (3 : Int32) < nI i) ↔ L < i + 3 := by
  have e1 : (Int32.ofNat L - (3 : Int32)).toInt = (L : Int) - 3 := by
    have h1 : (Int32.ofNat L).toInt = (L : Int) := nI_toInt (n := L) (by omega)
    have h3 : (3 : Int32).toInt = 3 := by decide
    rw [Int32.toInt_sub, h1, h3]
    exact Int.bmod_eq_of_le (by omega) (by omega)
  rw [Int32.lt_iff_toInt_lt, e1, nI_toInt (by omega)]
  omega
set_option maxRecDepth 100000 in
set_option maxHeartbeats 4000000 in
theorem zlaw_loop {p : Program} {l : Launch} {e : Env} {s : State} {m : MethodId} {below : List Frame} {meth : Method} {c : Code} {Q : State → Prop} {b L : Nat} {xs : Nat → Int32} {g : zG} {A : Nat → Prop} {a : Nat} {qc qh qp qs qt : Nat → Nat} {QH QS : Nat → Nat → Nat} {qm : Nat → Nat} {I : zRel} (hx : p.tables.exec = Jvm.exec) (hb : c.code = cL_law) (hml : c.maxLocals = 4) (hown : s.vm.findClass RL = some m.cls) (hts : ∀ w ∈ wsL_law, w.before #[Value.ref b] s = true) (hX : va_X b L xs s s.heap) (hbl : b < s.heap.size) (hbA : ¬ A b) (hA : ∀ q : Nat, s.heap.size ≤ q → A q) (hN : zN s) (hK : va_K g.1 vwCl (zTy g) s) (hGS : zGS A s s.heap) (hI : zSim I) (hL : L ≤ 1536) (hfin : ∀ (H : Heap) (locs : List Loc) (ls : Array Slot), va_S A s.heap H locs → W p l e room_1 s m #[Value.ref b] below meth c H locs 116 3187 Q (F0 m 659 ls [.int 1])) : ∀ (n i : Nat), i ≤ L + 3 → L ≤ i + n → ∀ (vc vh vp vs vt : zCV) (VH VS : Nat → zCV) (v : zCV) (H : Heap) (locs : List Loc) (ls : Array Slot), I vc vh vp vs vt VH VS v → va_P g.1 vwCl ((po a (qc 0) (qt 0) (qh 0) (qp 0) (qs 0) (qs 1)) ++ ((ck g qc vc) ++ ((hi g qh (fun j => some (QH j 0)) vh) ++ ((pd g qp vp) ++ ((sl g qs (fun j => some (QS j 0)) vs) ++ ((ck g qt vt) ++ ((hs g QH VH) ++ ((ss g QS VS) ++ ((mo g qm v)))))))))) H → va_D A ((po a (qc 0) (qt 0) (qh 0) (qp 0) (qs 0) (qs 1)) ++ ((ck g qc vc) ++ ((hi g qh (fun j => some (QH j 0)) vh) ++ ((pd g qp vp) ++ ((sl g qs (fun j => some (QS j 0)) vs) ++ ((ck g qt vt) ++ ((hs g QH VH) ++ ((ss g QS VS) ++ ((mo g qm v)))))))))) → va_S A s.heap H locs → lv_has ls 4 [(0, .ref b), (1, .ref a), (2, .ref (qm 0)), (3, .int (nI i))] → W p l e room_1 s m #[Value.ref b] below meth c H locs 116 3187 Q (F0 m 18 ls []) := by
  intro n
  induction n with
  | zero =>
    intro i hi hn vc vh vp vs vt VH VS v H locs ls hR hP hD hS hl
    refine lv_iload_n hx hb dL_law_18 rfl (lv_at hl 3 rfl) ?_
    refine lv_aload_n hx hb dL_law_19 rfl (lv_at hl 0 rfl) ?_
    refine va_slen hx hb hX hbl hbA hS dL_law_20 ?_
    refine lv_iconst (v := (3 : Int32)) hx hb dL_law_21 (by decide) ?_
    refine lv_isub hx hb dL_law_22 ?_
    refine lv_icmp_gt (tgt := 658) hx hb dL_law_23 (by decide) (fun _ => ?_) (fun c_23 => absurd ((zlaw_test hL (by omega)).mpr (by omega)) c_23)
    refine lv_iconst (v := (1 : Int32)) hx hb dL_law_658 (by decide) ?_
    exact hfin H locs ls hS
  | succ n ih =>
    intro i hi hn vc vh vp vs vt VH VS v H locs ls hR hP hD hS hl
    refine lv_iload_n hx hb dL_law_18 rfl (lv_at hl 3 rfl) ?_
    refine lv_aload_n hx hb dL_law_19 rfl (lv_at hl 0 rfl) ?_
    refine va_slen hx hb hX hbl hbA hS dL_law_20 ?_
    refine lv_iconst (v := (3 : Int32)) hx hb dL_law_21 (by decide) ?_
    refine lv_isub hx hb dL_law_22 ?_
    refine lv_icmp_gt (tgt := 658) hx hb dL_law_23 (by decide) (fun _ => ?_) (fun c_23 => ?_)
    · refine lv_iconst (v := (1 : Int32)) hx hb dL_law_658 (by decide) ?_
      exact hfin H locs ls hS
    · have h2 : i + 2 < L := by
        rcases Nat.lt_or_ge (i + 2) L with q | q
        · exact q
        · exact absurd ((zlaw_test hL (by omega)).mpr (by omega)) c_23
      refine zlaw_iter hx hb hml hown hts hX hbl hbA hA hN hK hGS hI hL h2 ?_ vc vh vp vs vt VH VS v H locs ls hR hP hD hS hl
      intro vc vh vp vs vt VH VS v H locs ls hR hP hD hS hl
      refine lv_iinc (v := nI (i + 3)) (lv' := [(3, .int (nI (i + 3))), (0, .ref b), (1, .ref a), (2, .ref (qm 0))]) hx hb dL_law_652 hl (k := 3) rfl (nI_add i 3) (by decide) rfl (fun ls hl => ?_)
      refine lv_goto (tgt := 18) hx hb dL_law_655 (by decide) ?_
      exact ih (i + 3) (by omega) (by omega) vc vh vp vs vt VH VS v H locs ls hR hP hD hS (lv_sub hl [1, 2, 3, 0] rfl)
