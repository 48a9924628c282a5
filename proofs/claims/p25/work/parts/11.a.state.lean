/-! An object's state as one value, its calls over it; methods that answer by a relation. -/
abbrev zPV : Type := zCV × zCV × zCV × zCV × zCV × (Nat → zCV) × (Nat → zCV)
abbrev zAd : Type := (Nat → Nat → Nat) × (Nat → Nat → Nat) × (Nat → Nat → Nat)
def zW (g : zG) (a : Nat) (q : zAd) (V : zPV) : va_W := (po a ((q.1 0) 0) ((q.1 4) 0) ((q.1 1) 0) ((q.1 2) 0) ((q.1 3) 0) ((q.1 3) 1)) ++ ((ck g (q.1 0) V.1) ++ ((hi g (q.1 1) (fun j => some (q.2.1 j 0)) V.2.1) ++ ((pd g (q.1 2) V.2.2.1) ++ ((sl g (q.1 3) (fun j => some (q.2.2 j 0)) V.2.2.2.1) ++ ((ck g (q.1 4) V.2.2.2.2.1) ++ ((hs g q.2.1 V.2.2.2.2.2.1) ++ (ss g q.2.2 V.2.2.2.2.2.2)))))))
/-- the copy that what-ifs run on is another -/
def zTr (V : zPV) (t : zCV) : zPV := (V.1, V.2.1, V.2.2.1, V.2.2.2.1, t, V.2.2.2.2.2.1, V.2.2.2.2.2.2)
def zOK (V : zPV) : Prop := (V.1.1 5 = 0 ∨ V.1.1 5 = 1) ∧ (V.1.1 8 = 0 ∨ V.1.1 8 = 1) ∧ vp_in (V.2.1.1 0) 6 ∧ vp_in (V.1.1 4) 16 ∧ vp_in (V.2.2.1.1 0) 61 ∧ vp_in (V.1.2 0 0) 9 ∧ (∀ k : Nat, k < 2 → ((V.2.2.2.2.2.2 k).1 5 = 0 ∨ (V.2.2.2.2.2.2 k).1 5 = 1)) ∧ (∀ k : Nat, k < 2 → ((V.2.2.2.2.2.2 k).1 8 = 0 ∨ (V.2.2.2.2.2.2 k).1 8 = 1))
def kF_set (V : zPV) (p0 : Int32) (p1 : Int32) : Int32 := (f_X5_set V.1 V.2.1 V.2.2.1 V.2.2.2.1 V.2.2.2.2.1 V.2.2.2.2.2.1 V.2.2.2.2.2.2 p0 p1).1
def kG_set (V : zPV) (p0 : Int32) (p1 : Int32) : zPV := ((f_X5_set V.1 V.2.1 V.2.2.1 V.2.2.2.1 V.2.2.2.2.1 V.2.2.2.2.2.1 V.2.2.2.2.2.2 p0 p1).2.1, (f_X5_set V.1 V.2.1 V.2.2.1 V.2.2.2.1 V.2.2.2.2.1 V.2.2.2.2.2.1 V.2.2.2.2.2.2 p0 p1).2.2.1, V.2.2.1, V.2.2.2.1, V.2.2.2.2.1, (f_X5_set V.1 V.2.1 V.2.2.1 V.2.2.2.1 V.2.2.2.2.1 V.2.2.2.2.2.1 V.2.2.2.2.2.2 p0 p1).2.2.2, V.2.2.2.2.2.2)
theorem kM_set (l : Launch) (g : zG) (a : Nat) (q : zAd) (V : zPV) (p0 : Int32) (p1 : Int32) (ok : zOK V) : ZIs l yX5_set wsX5_set rm_X5_set g (zW g a q V) [.ref a, .int p0, .int p1] (kF_set V p0 p1) (zW g a q (kG_set V p0 p1)) := m_X5_set l g a (q.1 0) (q.1 1) (q.1 2) (q.1 3) (q.1 4) q.2.1 q.2.2 V.1 V.2.1 V.2.2.1 V.2.2.2.1 V.2.2.2.2.1 V.2.2.2.2.2.1 V.2.2.2.2.2.2 p0 p1 ok.1 ok.2.1 ok.2.2.1
def kF_peg (V : zPV) (p0 : Int32) (p1 : Int32) : Int32 := (f_X5_peg V.1 V.2.1 V.2.2.1 V.2.2.2.1 V.2.2.2.2.1 V.2.2.2.2.2.1 V.2.2.2.2.2.2 p0 p1).1
def kG_peg (V : zPV) (p0 : Int32) (p1 : Int32) : zPV := ((f_X5_peg V.1 V.2.1 V.2.2.1 V.2.2.2.1 V.2.2.2.2.1 V.2.2.2.2.2.1 V.2.2.2.2.2.2 p0 p1).2.1, (f_X5_peg V.1 V.2.1 V.2.2.1 V.2.2.2.1 V.2.2.2.2.1 V.2.2.2.2.2.1 V.2.2.2.2.2.2 p0 p1).2.2.1, V.2.2.1, V.2.2.2.1, V.2.2.2.2.1, (f_X5_peg V.1 V.2.1 V.2.2.1 V.2.2.2.1 V.2.2.2.2.1 V.2.2.2.2.2.1 V.2.2.2.2.2.2 p0 p1).2.2.2, V.2.2.2.2.2.2)
theorem kM_peg (l : Launch) (g : zG) (a : Nat) (q : zAd) (V : zPV) (p0 : Int32) (p1 : Int32) (ok : zOK V) : ZI l yX5_peg wsX5_peg rm_X5_peg g (zW g a q V) [.ref a, .int p0, .int p1] (kF_peg V p0 p1) (zW g a q (kG_peg V p0 p1)) := m_X5_peg l g a (q.1 0) (q.1 1) (q.1 2) (q.1 3) (q.1 4) q.2.1 q.2.2 V.1 V.2.1 V.2.2.1 V.2.2.2.1 V.2.2.2.2.1 V.2.2.2.2.2.1 V.2.2.2.2.2.2 p0 p1 ok.1 ok.2.1 ok.2.2.1
def kF_order (V : zPV) (p0 : Int32) : Int32 := (f_X5_order V.1 V.2.1 V.2.2.1 V.2.2.2.1 V.2.2.2.2.1 V.2.2.2.2.2.1 V.2.2.2.2.2.2 p0).1
def kG_order (V : zPV) (p0 : Int32) : zPV := ((f_X5_order V.1 V.2.1 V.2.2.1 V.2.2.2.1 V.2.2.2.2.1 V.2.2.2.2.2.1 V.2.2.2.2.2.2 p0).2.1, (f_X5_order V.1 V.2.1 V.2.2.1 V.2.2.2.1 V.2.2.2.2.1 V.2.2.2.2.2.1 V.2.2.2.2.2.2 p0).2.2.1, V.2.2.1, V.2.2.2.1, V.2.2.2.2.1, (f_X5_order V.1 V.2.1 V.2.2.1 V.2.2.2.1 V.2.2.2.2.1 V.2.2.2.2.2.1 V.2.2.2.2.2.2 p0).2.2.2, V.2.2.2.2.2.2)
theorem kM_order (l : Launch) (g : zG) (a : Nat) (q : zAd) (V : zPV) (p0 : Int32) (ok : zOK V) : ZI l yX5_order wsX5_order rm_X5_order g (zW g a q V) [.ref a, .int p0] (kF_order V p0) (zW g a q (kG_order V p0)) := m_X5_order l g a (q.1 0) (q.1 1) (q.1 2) (q.1 3) (q.1 4) q.2.1 q.2.2 V.1 V.2.1 V.2.2.1 V.2.2.2.1 V.2.2.2.2.1 V.2.2.2.2.2.1 V.2.2.2.2.2.2 p0 ok.1 ok.2.1 ok.2.2.1
def kF_ink (V : zPV) (p0 : Int32) : Int32 := (f_X5_ink V.1 V.2.1 V.2.2.1 V.2.2.2.1 V.2.2.2.2.1 V.2.2.2.2.2.1 V.2.2.2.2.2.2 p0).1
def kG_ink (V : zPV) (p0 : Int32) : zPV := ((f_X5_ink V.1 V.2.1 V.2.2.1 V.2.2.2.1 V.2.2.2.2.1 V.2.2.2.2.2.1 V.2.2.2.2.2.2 p0).2.1, (f_X5_ink V.1 V.2.1 V.2.2.1 V.2.2.2.1 V.2.2.2.2.1 V.2.2.2.2.2.1 V.2.2.2.2.2.2 p0).2.2.1, V.2.2.1, V.2.2.2.1, V.2.2.2.2.1, (f_X5_ink V.1 V.2.1 V.2.2.1 V.2.2.2.1 V.2.2.2.2.1 V.2.2.2.2.2.1 V.2.2.2.2.2.2 p0).2.2.2, V.2.2.2.2.2.2)
theorem kM_ink (l : Launch) (g : zG) (a : Nat) (q : zAd) (V : zPV) (p0 : Int32) (ok : zOK V) : ZI l yX5_ink wsX5_ink rm_X5_ink g (zW g a q V) [.ref a, .int p0] (kF_ink V p0) (zW g a q (kG_ink V p0)) := m_X5_ink l g a (q.1 0) (q.1 1) (q.1 2) (q.1 3) (q.1 4) q.2.1 q.2.2 V.1 V.2.1 V.2.2.1 V.2.2.2.1 V.2.2.2.2.1 V.2.2.2.2.2.1 V.2.2.2.2.2.2 p0 ok.1 ok.2.1 ok.2.2.1
def kF_step (V : zPV) (p0 : Int32) : Int32 := (f_X5_step V.1 V.2.1 V.2.2.1 V.2.2.2.1 V.2.2.2.2.1 V.2.2.2.2.2.1 V.2.2.2.2.2.2 p0).1
def kG_step (V : zPV) (p0 : Int32) : zPV := ((f_X5_step V.1 V.2.1 V.2.2.1 V.2.2.2.1 V.2.2.2.2.1 V.2.2.2.2.2.1 V.2.2.2.2.2.2 p0).2.1, (f_X5_step V.1 V.2.1 V.2.2.1 V.2.2.2.1 V.2.2.2.2.1 V.2.2.2.2.2.1 V.2.2.2.2.2.2 p0).2.2.1, V.2.2.1, V.2.2.2.1, V.2.2.2.2.1, (f_X5_step V.1 V.2.1 V.2.2.1 V.2.2.2.1 V.2.2.2.2.1 V.2.2.2.2.2.1 V.2.2.2.2.2.2 p0).2.2.2, V.2.2.2.2.2.2)
theorem kM_step (l : Launch) (g : zG) (a : Nat) (q : zAd) (V : zPV) (p0 : Int32) (ok : zOK V) : ZI l yX5_step wsX5_step rm_X5_step g (zW g a q V) [.ref a, .int p0] (kF_step V p0) (zW g a q (kG_step V p0)) := m_X5_step l g a (q.1 0) (q.1 1) (q.1 2) (q.1 3) (q.1 4) q.2.1 q.2.2 V.1 V.2.1 V.2.2.1 V.2.2.2.1 V.2.2.2.2.1 V.2.2.2.2.2.1 V.2.2.2.2.2.2 p0 ok.1 ok.2.1 ok.2.2.1 ok.2.2.2.1
def kF_free (V : zPV) : Int32 := (f_X5_free V.1 V.2.1 V.2.2.1 V.2.2.2.1 V.2.2.2.2.1 V.2.2.2.2.2.1 V.2.2.2.2.2.2).1
def kG_free (V : zPV) : zPV := ((f_X5_free V.1 V.2.1 V.2.2.1 V.2.2.2.1 V.2.2.2.2.1 V.2.2.2.2.2.1 V.2.2.2.2.2.2).2.1, (f_X5_free V.1 V.2.1 V.2.2.1 V.2.2.2.1 V.2.2.2.2.1 V.2.2.2.2.2.1 V.2.2.2.2.2.2).2.2.1, V.2.2.1, V.2.2.2.1, V.2.2.2.2.1, (f_X5_free V.1 V.2.1 V.2.2.1 V.2.2.2.1 V.2.2.2.2.1 V.2.2.2.2.2.1 V.2.2.2.2.2.2).2.2.2, V.2.2.2.2.2.2)
theorem kM_free (l : Launch) (g : zG) (a : Nat) (q : zAd) (V : zPV) (ok : zOK V) : ZI l yX5_free wsX5_free rm_X5_free g (zW g a q V) [.ref a] (kF_free V) (zW g a q (kG_free V)) := m_X5_free l g a (q.1 0) (q.1 1) (q.1 2) (q.1 3) (q.1 4) q.2.1 q.2.2 V.1 V.2.1 V.2.2.1 V.2.2.2.1 V.2.2.2.2.1 V.2.2.2.2.2.1 V.2.2.2.2.2.2 ok.1 ok.2.1 ok.2.2.1
def kF_newForm (V : zPV) : Int32 := (f_X5_newForm V.1 V.2.1 V.2.2.1 V.2.2.2.1 V.2.2.2.2.1 V.2.2.2.2.2.1 V.2.2.2.2.2.2).1
def kG_newForm (V : zPV) : zPV := ((f_X5_newForm V.1 V.2.1 V.2.2.1 V.2.2.2.1 V.2.2.2.2.1 V.2.2.2.2.2.1 V.2.2.2.2.2.2).2.1, (f_X5_newForm V.1 V.2.1 V.2.2.1 V.2.2.2.1 V.2.2.2.2.1 V.2.2.2.2.2.1 V.2.2.2.2.2.2).2.2.1, V.2.2.1, V.2.2.2.1, V.2.2.2.2.1, (f_X5_newForm V.1 V.2.1 V.2.2.1 V.2.2.2.1 V.2.2.2.2.1 V.2.2.2.2.2.1 V.2.2.2.2.2.2).2.2.2, V.2.2.2.2.2.2)
theorem kM_newForm (l : Launch) (g : zG) (a : Nat) (q : zAd) (V : zPV) (ok : zOK V) : ZI l yX5_newForm wsX5_newForm rm_X5_newForm g (zW g a q V) [.ref a] (kF_newForm V) (zW g a q (kG_newForm V)) := m_X5_newForm l g a (q.1 0) (q.1 1) (q.1 2) (q.1 3) (q.1 4) q.2.1 q.2.2 V.1 V.2.1 V.2.2.1 V.2.2.2.1 V.2.2.2.2.1 V.2.2.2.2.2.1 V.2.2.2.2.2.2 ok.1 ok.2.1 ok.2.2.1
def kF_read (V : zPV) : Int32 := (f_X5_read V.1 V.2.1 V.2.2.1 V.2.2.2.1 V.2.2.2.2.1 V.2.2.2.2.2.1 V.2.2.2.2.2.2).1
def kG_read (V : zPV) : zPV := ((f_X5_read V.1 V.2.1 V.2.2.1 V.2.2.2.1 V.2.2.2.2.1 V.2.2.2.2.2.1 V.2.2.2.2.2.2).2.1, (f_X5_read V.1 V.2.1 V.2.2.1 V.2.2.2.1 V.2.2.2.2.1 V.2.2.2.2.2.1 V.2.2.2.2.2.2).2.2.1, (f_X5_read V.1 V.2.1 V.2.2.1 V.2.2.2.1 V.2.2.2.2.1 V.2.2.2.2.2.1 V.2.2.2.2.2.2).2.2.2.1, V.2.2.2.1, V.2.2.2.2.1, (f_X5_read V.1 V.2.1 V.2.2.1 V.2.2.2.1 V.2.2.2.2.1 V.2.2.2.2.2.1 V.2.2.2.2.2.2).2.2.2.2, V.2.2.2.2.2.2)
theorem kM_read (l : Launch) (g : zG) (a : Nat) (q : zAd) (V : zPV) (ok : zOK V) : ZI l yX5_read wsX5_read rm_X5_read g (zW g a q V) [.ref a] (kF_read V) (zW g a q (kG_read V)) := m_X5_read l g a (q.1 0) (q.1 1) (q.1 2) (q.1 3) (q.1 4) q.2.1 q.2.2 V.1 V.2.1 V.2.2.1 V.2.2.2.1 V.2.2.2.2.1 V.2.2.2.2.2.1 V.2.2.2.2.2.2 ok.1 ok.2.1 ok.2.2.1 ok.2.2.2.2.1
def kF_row (V : zPV) (p0 : Int32) (p1 : Int32) : Int32 := (f_X5_row V.1 V.2.1 V.2.2.1 V.2.2.2.1 V.2.2.2.2.1 V.2.2.2.2.2.1 V.2.2.2.2.2.2 p0 p1)
theorem kM_row (l : Launch) (g : zG) (a : Nat) (q : zAd) (V : zPV) (p0 : Int32) (p1 : Int32) : ZI l yX5_row wsX5_row rm_X5_row g (zW g a q V) [.ref a, .int p0, .int p1] (kF_row V p0 p1) (zW g a q V) := m_X5_row l g a (q.1 0) (q.1 1) (q.1 2) (q.1 3) (q.1 4) q.2.1 q.2.2 V.1 V.2.1 V.2.2.1 V.2.2.2.1 V.2.2.2.2.1 V.2.2.2.2.2.1 V.2.2.2.2.2.2 p0 p1
def kF_stamped (V : zPV) (p0 : Int32) (p1 : Int32) : Int32 := (f_X5_stamped V.1 V.2.1 V.2.2.1 V.2.2.2.1 V.2.2.2.2.1 V.2.2.2.2.2.1 V.2.2.2.2.2.2 p0 p1)
theorem kM_stamped (l : Launch) (g : zG) (a : Nat) (q : zAd) (V : zPV) (p0 : Int32) (p1 : Int32) : ZI l yX5_stamped wsX5_stamped rm_X5_stamped g (zW g a q V) [.ref a, .int p0, .int p1] (kF_stamped V p0 p1) (zW g a q V) := m_X5_stamped l g a (q.1 0) (q.1 1) (q.1 2) (q.1 3) (q.1 4) q.2.1 q.2.2 V.1 V.2.1 V.2.2.1 V.2.2.2.1 V.2.2.2.2.1 V.2.2.2.2.2.1 V.2.2.2.2.2.2 p0 p1
def kF_stamp (V : zPV) (p0 : Int32) (p1 : Int32) : Int32 := (f_X5_stamp V.1 V.2.1 V.2.2.1 V.2.2.2.1 V.2.2.2.2.1 V.2.2.2.2.2.1 V.2.2.2.2.2.2 p0 p1)
theorem kM_stamp (l : Launch) (g : zG) (a : Nat) (q : zAd) (V : zPV) (p0 : Int32) (p1 : Int32) : ZI l yX5_stamp wsX5_stamp rm_X5_stamp g (zW g a q V) [.ref a, .int p0, .int p1] (kF_stamp V p0 p1) (zW g a q V) := m_X5_stamp l g a (q.1 0) (q.1 1) (q.1 2) (q.1 3) (q.1 4) q.2.1 q.2.2 V.1 V.2.1 V.2.2.1 V.2.2.2.1 V.2.2.2.2.1 V.2.2.2.2.2.1 V.2.2.2.2.2.2 p0 p1
def kF_count (V : zPV) (p0 : Int32) : Int32 := (f_X5_count V.1 V.2.1 V.2.2.1 V.2.2.2.1 V.2.2.2.2.1 V.2.2.2.2.2.1 V.2.2.2.2.2.2 p0)
theorem kM_count (l : Launch) (g : zG) (a : Nat) (q : zAd) (V : zPV) (p0 : Int32) : ZI l yX5_count wsX5_count rm_X5_count g (zW g a q V) [.ref a, .int p0] (kF_count V p0) (zW g a q V) := m_X5_count l g a (q.1 0) (q.1 1) (q.1 2) (q.1 3) (q.1 4) q.2.1 q.2.2 V.1 V.2.1 V.2.2.1 V.2.2.2.1 V.2.2.2.2.1 V.2.2.2.2.2.1 V.2.2.2.2.2.2 p0
def kF_untilJam (V : zPV) : Int32 := (f_X5_untilJam V.1 V.2.1 V.2.2.1 V.2.2.2.1 V.2.2.2.2.1 V.2.2.2.2.2.1 V.2.2.2.2.2.2).1
def kG_untilJam (V : zPV) : zPV := zTr V (f_X5_untilJam V.1 V.2.1 V.2.2.1 V.2.2.2.1 V.2.2.2.2.1 V.2.2.2.2.2.1 V.2.2.2.2.2.2).2
theorem kM_untilJam (l : Launch) (g : zG) (a : Nat) (q : zAd) (V : zPV) (ok : zOK V) : ZI l yX5_untilJam wsX5_untilJam rm_X5_untilJam g (zW g a q V) [.ref a] (kF_untilJam V) (zW g a q (kG_untilJam V)) := m_X5_untilJam l g a (q.1 0) (q.1 1) (q.1 2) (q.1 3) (q.1 4) q.2.1 q.2.2 V.1 V.2.1 V.2.2.1 V.2.2.2.1 V.2.2.2.2.1 V.2.2.2.2.2.1 V.2.2.2.2.2.2 ok.1 ok.2.1 ok.2.2.2.1
def kF_ifStepped (V : zPV) (p0 : Int32) (p1 : Int32) : Int32 := (f_X5_ifStepped V.1 V.2.1 V.2.2.1 V.2.2.2.1 V.2.2.2.2.1 V.2.2.2.2.2.1 V.2.2.2.2.2.2 p0 p1).1
def kG_ifStepped (V : zPV) (p0 : Int32) (p1 : Int32) : zPV := zTr V (f_X5_ifStepped V.1 V.2.1 V.2.2.1 V.2.2.2.1 V.2.2.2.2.1 V.2.2.2.2.2.1 V.2.2.2.2.2.2 p0 p1).2
theorem kM_ifStepped (l : Launch) (g : zG) (a : Nat) (q : zAd) (V : zPV) (p0 : Int32) (p1 : Int32) (ok : zOK V) : ZI l yX5_ifStepped wsX5_ifStepped rm_X5_ifStepped g (zW g a q V) [.ref a, .int p0, .int p1] (kF_ifStepped V p0 p1) (zW g a q (kG_ifStepped V p0 p1)) := m_X5_ifStepped l g a (q.1 0) (q.1 1) (q.1 2) (q.1 3) (q.1 4) q.2.1 q.2.2 V.1 V.2.1 V.2.2.1 V.2.2.2.1 V.2.2.2.2.1 V.2.2.2.2.2.1 V.2.2.2.2.2.2 p0 p1 ok.1 ok.2.1 ok.2.2.2.1
def kF_bestOut (V : zPV) : Int32 := (f_X5_bestOut V.1 V.2.1 V.2.2.1 V.2.2.2.1 V.2.2.2.2.1 V.2.2.2.2.2.1 V.2.2.2.2.2.2).1
def kG_bestOut (V : zPV) : zPV := zTr V (f_X5_bestOut V.1 V.2.1 V.2.2.1 V.2.2.2.1 V.2.2.2.2.1 V.2.2.2.2.2.1 V.2.2.2.2.2.2).2
theorem kM_bestOut (l : Launch) (g : zG) (a : Nat) (q : zAd) (V : zPV) (ok : zOK V) : ZI l yX5_bestOut wsX5_bestOut rm_X5_bestOut g (zW g a q V) [.ref a] (kF_bestOut V) (zW g a q (kG_bestOut V)) := m_X5_bestOut l g a (q.1 0) (q.1 1) (q.1 2) (q.1 3) (q.1 4) q.2.1 q.2.2 V.1 V.2.1 V.2.2.1 V.2.2.2.1 V.2.2.2.2.1 V.2.2.2.2.2.1 V.2.2.2.2.2.2 ok.1 ok.2.1 ok.2.2.2.1
def kF_nextStamps (V : zPV) (p0 : Int32) : Int32 := (f_X5_nextStamps V.1 V.2.1 V.2.2.1 V.2.2.2.1 V.2.2.2.2.1 V.2.2.2.2.2.1 V.2.2.2.2.2.2 p0)
theorem kM_nextStamps (l : Launch) (g : zG) (a : Nat) (q : zAd) (V : zPV) (p0 : Int32) (ok : zOK V) : ZI l yX5_nextStamps wsX5_nextStamps rm_X5_nextStamps g (zW g a q V) [.ref a, .int p0] (kF_nextStamps V p0) (zW g a q V) := m_X5_nextStamps l g a (q.1 0) (q.1 1) (q.1 2) (q.1 3) (q.1 4) q.2.1 q.2.2 V.1 V.2.1 V.2.2.1 V.2.2.2.1 V.2.2.2.2.1 V.2.2.2.2.2.1 V.2.2.2.2.2.2 p0 ok.2.2.2.1 ok.2.2.2.2.2.1
def kF_put (V : zPV) (p0 : Int64) : Int32 := (f_X5_put V.1 V.2.1 V.2.2.1 V.2.2.2.1 V.2.2.2.2.1 V.2.2.2.2.2.1 V.2.2.2.2.2.2 p0).1
def kG_put (V : zPV) (p0 : Int64) : zPV := (V.1, V.2.1, (f_X5_put V.1 V.2.1 V.2.2.1 V.2.2.2.1 V.2.2.2.2.1 V.2.2.2.2.2.1 V.2.2.2.2.2.2 p0).2, V.2.2.2.1, V.2.2.2.2.1, V.2.2.2.2.2.1, V.2.2.2.2.2.2)
theorem kM_put (l : Launch) (g : zG) (a : Nat) (q : zAd) (V : zPV) (p0 : Int64) (ok : zOK V) : ZI l yX5_put wsX5_put rm_X5_put g (zW g a q V) [.ref a, .long p0] (kF_put V p0) (zW g a q (kG_put V p0)) := m_X5_put l g a (q.1 0) (q.1 1) (q.1 2) (q.1 3) (q.1 4) q.2.1 q.2.2 V.1 V.2.1 V.2.2.1 V.2.2.2.1 V.2.2.2.2.1 V.2.2.2.2.2.1 V.2.2.2.2.2.2 p0 ok.2.2.2.2.1
def kF_wipe (V : zPV) : Int32 := (f_X5_wipe V.1 V.2.1 V.2.2.1 V.2.2.2.1 V.2.2.2.2.1 V.2.2.2.2.2.1 V.2.2.2.2.2.2).1
def kG_wipe (V : zPV) : zPV := (V.1, V.2.1, (f_X5_wipe V.1 V.2.1 V.2.2.1 V.2.2.2.1 V.2.2.2.2.1 V.2.2.2.2.2.1 V.2.2.2.2.2.2).2, V.2.2.2.1, V.2.2.2.2.1, V.2.2.2.2.2.1, V.2.2.2.2.2.2)
theorem kM_wipe (l : Launch) (g : zG) (a : Nat) (q : zAd) (V : zPV) : ZI l yX5_wipe wsX5_wipe rm_X5_wipe g (zW g a q V) [.ref a] (kF_wipe V) (zW g a q (kG_wipe V)) := m_X5_wipe l g a (q.1 0) (q.1 1) (q.1 2) (q.1 3) (q.1 4) q.2.1 q.2.2 V.1 V.2.1 V.2.2.1 V.2.2.2.1 V.2.2.2.2.1 V.2.2.2.2.2.1 V.2.2.2.2.2.2
def kF_save (V : zPV) (p0 : Int32) : Int32 := (f_X5_save V.1 V.2.1 V.2.2.1 V.2.2.2.1 V.2.2.2.2.1 V.2.2.2.2.2.1 V.2.2.2.2.2.2 p0).1
def kG_save (V : zPV) (p0 : Int32) : zPV := (V.1, V.2.1, V.2.2.1, (f_X5_save V.1 V.2.1 V.2.2.1 V.2.2.2.1 V.2.2.2.2.1 V.2.2.2.2.2.1 V.2.2.2.2.2.2 p0).2.1, V.2.2.2.2.1, V.2.2.2.2.2.1, (f_X5_save V.1 V.2.1 V.2.2.1 V.2.2.2.1 V.2.2.2.2.1 V.2.2.2.2.2.1 V.2.2.2.2.2.2 p0).2.2)
theorem kM_save (l : Launch) (g : zG) (a : Nat) (q : zAd) (V : zPV) (p0 : Int32) (ok : zOK V) : ZI l yX5_save wsX5_save rm_X5_save g (zW g a q V) [.ref a, .int p0] (kF_save V p0) (zW g a q (kG_save V p0)) := m_X5_save l g a (q.1 0) (q.1 1) (q.1 2) (q.1 3) (q.1 4) q.2.1 q.2.2 V.1 V.2.1 V.2.2.1 V.2.2.2.1 V.2.2.2.2.1 V.2.2.2.2.2.1 V.2.2.2.2.2.2 p0 ok.1 ok.2.1
def kF_restore (V : zPV) (p0 : Int32) : Int32 := (f_X5_restore V.1 V.2.1 V.2.2.1 V.2.2.2.1 V.2.2.2.2.1 V.2.2.2.2.2.1 V.2.2.2.2.2.2 p0).1
def kG_restore (V : zPV) (p0 : Int32) : zPV := ((f_X5_restore V.1 V.2.1 V.2.2.1 V.2.2.2.1 V.2.2.2.2.1 V.2.2.2.2.2.1 V.2.2.2.2.2.2 p0).2.1, (f_X5_restore V.1 V.2.1 V.2.2.1 V.2.2.2.1 V.2.2.2.2.1 V.2.2.2.2.2.1 V.2.2.2.2.2.2 p0).2.2.1, V.2.2.1, V.2.2.2.1, V.2.2.2.2.1, (f_X5_restore V.1 V.2.1 V.2.2.1 V.2.2.2.1 V.2.2.2.2.1 V.2.2.2.2.2.1 V.2.2.2.2.2.2 p0).2.2.2, V.2.2.2.2.2.2)
theorem kM_restore (l : Launch) (g : zG) (a : Nat) (q : zAd) (V : zPV) (p0 : Int32) (ok : zOK V) : ZI l yX5_restore wsX5_restore rm_X5_restore g (zW g a q V) [.ref a, .int p0] (kF_restore V p0) (zW g a q (kG_restore V p0)) := m_X5_restore l g a (q.1 0) (q.1 1) (q.1 2) (q.1 3) (q.1 4) q.2.1 q.2.2 V.1 V.2.1 V.2.2.1 V.2.2.2.1 V.2.2.2.2.1 V.2.2.2.2.2.1 V.2.2.2.2.2.2 p0 ok.1 ok.2.1 ok.2.2.1 ok.2.2.2.2.2.2.1 ok.2.2.2.2.2.2.2
/-! A contract that says which answers and which new worlds there may be. -/
def zQe {κ : Type} (g : zG) (X : va_W) (R : Int32 → κ → Prop) (B : κ → va_W) (sz : Nat) : Array Value → State → Outcome → State → Prop := va_Qi R (fun u t => zEnd g X (B u) sz t) (va_A X sz)
def ZE {κ : Type} (l : Launch) (y : MethodName) (wsd : List Cond) (rm : Room) (g : zG) (X : va_W) (av : List Value) (R : Int32 → κ → Prop) (B : κ → va_W) : Prop := ∀ sz : Nat, Met l y wsd rm (zPcS g X av sz) (zQe g X R B sz) 0 0 (va_A X sz)
set_option maxHeartbeats 4000000 in
theorem zopenE {κ : Type} {l : Launch} {y : MethodName} {wsd ws' : List Cond} {rm : Room} {g : zG} {X : va_W} {av : List Value} {R : Int32 → κ → Prop} {B : κ → va_W} {cc : ByteArray} {maxL : Nat} {ret : FieldType} (hy : plainFor y = true) (hw : wsd = Cond.code y cc maxL (some ret) :: ws') (hlen : (lg_sl av).length ≤ maxL)
    (body : ∀ (p : Program) (e : Env) (s : State) (m : MethodId) (below : List Frame) (meth : Method) (c : Code) (A : Nat → Prop) (Q : State → Prop) (ls : Array Slot), p.tables.exec = Jvm.exec → c.code = cc → c.maxLocals = maxL → s.vm.findClass y.cls = some m.cls → (∀ w ∈ wsd, w.before av.toArray s = true) → va_P g.1 vwCl X s.heap → va_K g.1 vwCl (zTy g) s → va_D A X → (∀ q : Nat, s.heap.size ≤ q → A q) → zN s → zGS A s s.heap → lv_has ls maxL (lv_args 0 av) →
      (∀ (rv : Int32) (u : κ) (H : Heap) (locs : List Loc) (ls : Array Slot) (pc : Nat), decode cc pc = .ok (.ireturn, 1) → R rv u → narrow ret (.int rv) = .int rv → va_P g.1 vwCl (B u) H → va_D A (B u) → va_S A s.heap H locs → W p l e rm s m av.toArray below meth c H locs 0 0 Q (F0 m pc ls [.int rv])) →
      W p l e rm s m av.toArray below meth c s.heap [] 0 0 Q (F0 m 0 ls [])) : ZE l y wsd rm g X av R B := by
  intro sz
  refine va_MetF (cc := cc) (maxL := maxL) (ret := some ret) hy hw ?_
  intro p e s m args below meth c s₁ B0 hml hv
  obtain ⟨rfl, hsz, hP, hK, hD0, hN, hG⟩ := hv
  subst hsz
  have hts := atoms_spec (ws := wsd) B0.pre
  have hown : s.vm.findClass y.cls = some m.cls := findClass_of_methodNamed B0.named
  have hlocks := B0.notSynchronized
  have hl := lv_entry av hlen
  rw [lg_entry_eq]
  exact body p e s m below meth c (va_A X s.heap.size) _ _ B0.exec B0.bytes hml hown hts hP hK hD0.self (fun q h => Or.inr h) hN hG hl
    (fun rv u H locs ls pc hd hr hn hP1 hD1 hS => W.zret (v := rv) (ty := ret) B0.exec B0.bytes B0.returns hn (fun t ht hW => ⟨⟨rv, u, rfl, hr, by rw [ht]; exact hP1, va_K.moved hW.alike hK, hD1⟩, hS.F ht⟩) hS.2.2 hd)
/-- a static method that reads the script alone -/
def ZX (l : Launch) (y : MethodName) (wsd : List Cond) (rm : Room) (b L : Nat) (xs : Nat → Int32) (av : List Value) : Prop := ∀ sz : Nat, Met l y wsd rm (va_Pc av (fun U => U.heap.size = sz ∧ va_X b L xs U U.heap)) (va_Qi (fun (_ : Int32) (_ : Unit) => True) (fun _ _ => True) (va_A [] sz)) 0 0 (va_A [] sz)
theorem zXc_blind {b L : Nat} {xs : Nat → Int32} {av : List Value} {sz : Nat} : FrameBlind (va_Pc av (fun U => U.heap.size = sz ∧ va_X b L xs U U.heap)) := by
  intro a U f mk h
  obtain ⟨q0, q1, qX⟩ := h
  exact ⟨q0, q1, va_X.moved (u := U) (U := U.calling f mk a) (Vm.Alike.refl U.vm) qX⟩
set_option maxHeartbeats 4000000 in
theorem zopenX {l : Launch} {y : MethodName} {wsd ws' : List Cond} {rm : Room} {b L : Nat} {xs : Nat → Int32} {av : List Value} {cc : ByteArray} {maxL : Nat} {ret : FieldType} (hy : plainFor y = true) (hw : wsd = Cond.code y cc maxL (some ret) :: ws') (hlen : (lg_sl av).length ≤ maxL)
    (body : ∀ (p : Program) (e : Env) (s : State) (m : MethodId) (below : List Frame) (meth : Method) (c : Code) (A : Nat → Prop) (Q : State → Prop) (ls : Array Slot), p.tables.exec = Jvm.exec → c.code = cc → c.maxLocals = maxL → s.vm.findClass y.cls = some m.cls → (∀ w ∈ wsd, w.before av.toArray s = true) → va_X b L xs s s.heap → b < s.heap.size → ¬ A b → lv_has ls maxL (lv_args 0 av) →
      (∀ (rv : Int32) (H : Heap) (locs : List Loc) (ls : Array Slot) (pc : Nat), decode cc pc = .ok (.ireturn, 1) → narrow ret (.int rv) = .int rv → va_S A s.heap H locs → W p l e rm s m av.toArray below meth c H locs 0 0 Q (F0 m pc ls [.int rv])) →
      W p l e rm s m av.toArray below meth c s.heap [] 0 0 Q (F0 m 0 ls [])) : ZX l y wsd rm b L xs av := by
  intro sz
  refine va_MetF (cc := cc) (maxL := maxL) (ret := some ret) hy hw ?_
  intro p e s m args below meth c s₁ B0 hml hv
  obtain ⟨rfl, hsz, hX⟩ := hv
  subst hsz
  have hts := atoms_spec (ws := wsd) B0.pre
  have hown : s.vm.findClass y.cls = some m.cls := findClass_of_methodNamed B0.named
  have hlocks := B0.notSynchronized
  have hl := lv_entry av hlen
  have hbl : b < s.heap.size := by
    obtain ⟨scr, h1, -⟩ := hX
    exact (Array.getElem?_eq_some_iff.mp h1).1
  rw [lg_entry_eq]
  exact body p e s m below meth c (va_A [] s.heap.size) _ _ B0.exec B0.bytes hml hown hts hX hbl (fun h => Or.elim h (fun ⟨k, e, h2⟩ => absurd h2 (by simp)) (fun h2 => absurd hbl (Nat.not_lt.mpr h2))) hl
    (fun rv H locs ls pc hd hn hS => W.zret (v := rv) (ty := ret) B0.exec B0.bytes B0.returns hn (fun t ht hW => ⟨⟨rv, (), rfl, trivial, trivial⟩, hS.F ht⟩) hS.2.2 hd)
section ZCE
variable {p : Program} {l : Launch} {e : Env} {R : Room} {s : State} {m : MethodId} {args : Array Value} {below : List Frame} {meth : Method} {c : Code} {H : Heap} {locs : List Loc} {cells slots : Nat} {Q : State → Prop}
variable {pc : Nat} {ls : Array Slot} {rest st : List Value} {A : Nat → Prop} {cc bytes : ByteArray} {nL maxL n index : Nat} {own C host : String} {y : MethodName} {ret : Option FieldType} {wsd ws' Ts : List Cond} {rm : Room} {g : zG} {X Xc Xr Y : va_W} {a b : Nat} {As : List Value} {rv : Int32} {q r : zAd} {V V' U U' : zPV}
/-- a call of the first object's method -/
theorem zcO (hx : p.tables.exec = Jvm.exec) (hb : c.code = cc) (hml : c.maxLocals = nL) (hown : s.vm.findClass own = some m.cls) (hts : ∀ w ∈ Ts, w.before args s = true) (hN : zN s)
    (hM : ZI l y wsd rm g (zW g a q V) (.ref a :: As) rv (zW g a q V')) (hG : GoodIn Ts (wsV own index RX5 y wsd)) (hw : wsd = Cond.code y bytes maxL ret :: ws') (hd : y.cls = RX5 ∧ y.cls ≠ "java/lang/invoke/MethodHandle" ∧ y.cls ≠ "java/lang/invoke/VarHandle" ∧ (parseMethodDescriptor y.desc).map (fun d => d.parameters.length) = some n) (hrc : rm.cells = 0 ∧ rm.slots = 0) (hR : rm.frames + 1 ≤ R.frames ∧ 8 + (maxL + 11) + rm.locals ≤ R.locals)
    (hK : va_K g.1 vwCl (zTy g) s) (hP : va_P g.1 vwCl (zW g a q V ++ Y) H) (hD : va_D A (zW g a q V ++ Y)) (hS : va_S A s.heap H locs) (hA : ∀ q : Nat, s.heap.size ≤ q → A q)
    (hn : As.length = n) (hsize : ls.size = nL) (hst : st = As.reverse ++ .ref a :: rest) (hroom : (rest.map fun v => v.category).sum ≤ 8) (hdg : decode cc pc = .ok (.invokevirtual index, 3)) (hf : cells ≤ R.cells ∧ slots ≤ R.slots)
    (kk : ∀ (H1 : Heap) (locs1 : List Loc), va_P g.1 vwCl (zW g a q V' ++ Y) H1 → va_D A (zW g a q V' ++ Y) → va_S A s.heap H1 locs1 → W p l e R s m args below meth c H1 locs1 cells slots Q (F0 m (pc + 3) ls (.int rv :: rest))) : W p l e R s m args below meth c H locs cells slots Q (F0 m pc ls st) :=
  zcVi (ci := 5) (q0 := 0) hx hb hml hown hts hN hM hG hw hd hrc hR hK hP hD hS hA (List.Perm.refl _) rfl rfl hn hsize hst hroom hdg hf (List.Perm.refl _) kk
theorem zcOs (hx : p.tables.exec = Jvm.exec) (hb : c.code = cc) (hml : c.maxLocals = nL) (hown : s.vm.findClass own = some m.cls) (hts : ∀ w ∈ Ts, w.before args s = true) (hN : zN s) (hGS : zGS A s s.heap)
    (hM : ZIs l y wsd rm g (zW g a q V) (.ref a :: As) rv (zW g a q V')) (hG : GoodIn Ts (wsV own index RX5 y wsd)) (hw : wsd = Cond.code y bytes maxL ret :: ws') (hd : y.cls = RX5 ∧ y.cls ≠ "java/lang/invoke/MethodHandle" ∧ y.cls ≠ "java/lang/invoke/VarHandle" ∧ (parseMethodDescriptor y.desc).map (fun d => d.parameters.length) = some n) (hrc : rm.cells = 0 ∧ rm.slots = 0) (hR : rm.frames + 1 ≤ R.frames ∧ 8 + (maxL + 11) + rm.locals ≤ R.locals)
    (hK : va_K g.1 vwCl (zTy g) s) (hP : va_P g.1 vwCl (zW g a q V ++ Y) H) (hD : va_D A (zW g a q V ++ Y)) (hS : va_S A s.heap H locs) (hA : ∀ q : Nat, s.heap.size ≤ q → A q)
    (hn : As.length = n) (hsize : ls.size = nL) (hst : st = As.reverse ++ .ref a :: rest) (hroom : (rest.map fun v => v.category).sum ≤ 8) (hdg : decode cc pc = .ok (.invokevirtual index, 3)) (hf : cells ≤ R.cells ∧ slots ≤ R.slots)
    (kk : ∀ (H1 : Heap) (locs1 : List Loc), va_P g.1 vwCl (zW g a q V' ++ Y) H1 → va_D A (zW g a q V' ++ Y) → va_S A s.heap H1 locs1 → W p l e R s m args below meth c H1 locs1 cells slots Q (F0 m (pc + 3) ls (.int rv :: rest))) : W p l e R s m args below meth c H locs cells slots Q (F0 m pc ls st) :=
  zcVis (ci := 5) (q0 := 0) hx hb hml hown hts hN hGS hM hG hw hd hrc hR hK hP hD hS hA (List.Perm.refl _) rfl rfl hn hsize hst hroom hdg hf (List.Perm.refl _) kk
/-- a call of the second object's method -/
theorem zcT (hx : p.tables.exec = Jvm.exec) (hb : c.code = cc) (hml : c.maxLocals = nL) (hown : s.vm.findClass own = some m.cls) (hts : ∀ w ∈ Ts, w.before args s = true) (hN : zN s)
    (hM : ZI l y wsd rm g (zW g b r U) (.ref b :: As) rv (zW g b r U')) (hG : GoodIn Ts (wsV own index RX5 y wsd)) (hw : wsd = Cond.code y bytes maxL ret :: ws') (hd : y.cls = RX5 ∧ y.cls ≠ "java/lang/invoke/MethodHandle" ∧ y.cls ≠ "java/lang/invoke/VarHandle" ∧ (parseMethodDescriptor y.desc).map (fun d => d.parameters.length) = some n) (hrc : rm.cells = 0 ∧ rm.slots = 0) (hR : rm.frames + 1 ≤ R.frames ∧ 8 + (maxL + 11) + rm.locals ≤ R.locals)
    (hK : va_K g.1 vwCl (zTy g) s) (hP : va_P g.1 vwCl (Y ++ zW g b r U) H) (hD : va_D A (Y ++ zW g b r U)) (hS : va_S A s.heap H locs) (hA : ∀ q : Nat, s.heap.size ≤ q → A q)
    (hn : As.length = n) (hsize : ls.size = nL) (hst : st = As.reverse ++ .ref b :: rest) (hroom : (rest.map fun v => v.category).sum ≤ 8) (hdg : decode cc pc = .ok (.invokevirtual index, 3)) (hf : cells ≤ R.cells ∧ slots ≤ R.slots)
    (kk : ∀ (H1 : Heap) (locs1 : List Loc), va_P g.1 vwCl (Y ++ zW g b r U') H1 → va_D A (Y ++ zW g b r U') → va_S A s.heap H1 locs1 → W p l e R s m args below meth c H1 locs1 cells slots Q (F0 m (pc + 3) ls (.int rv :: rest))) : W p l e R s m args below meth c H locs cells slots Q (F0 m pc ls st) :=
  zcVi (ci := 5) (q0 := 0) hx hb hml hown hts hN hM hG hw hd hrc hR hK hP hD hS hA List.perm_append_comm rfl rfl hn hsize hst hroom hdg hf List.perm_append_comm kk
theorem zcTs (hx : p.tables.exec = Jvm.exec) (hb : c.code = cc) (hml : c.maxLocals = nL) (hown : s.vm.findClass own = some m.cls) (hts : ∀ w ∈ Ts, w.before args s = true) (hN : zN s) (hGS : zGS A s s.heap)
    (hM : ZIs l y wsd rm g (zW g b r U) (.ref b :: As) rv (zW g b r U')) (hG : GoodIn Ts (wsV own index RX5 y wsd)) (hw : wsd = Cond.code y bytes maxL ret :: ws') (hd : y.cls = RX5 ∧ y.cls ≠ "java/lang/invoke/MethodHandle" ∧ y.cls ≠ "java/lang/invoke/VarHandle" ∧ (parseMethodDescriptor y.desc).map (fun d => d.parameters.length) = some n) (hrc : rm.cells = 0 ∧ rm.slots = 0) (hR : rm.frames + 1 ≤ R.frames ∧ 8 + (maxL + 11) + rm.locals ≤ R.locals)
    (hK : va_K g.1 vwCl (zTy g) s) (hP : va_P g.1 vwCl (Y ++ zW g b r U) H) (hD : va_D A (Y ++ zW g b r U)) (hS : va_S A s.heap H locs) (hA : ∀ q : Nat, s.heap.size ≤ q → A q)
    (hn : As.length = n) (hsize : ls.size = nL) (hst : st = As.reverse ++ .ref b :: rest) (hroom : (rest.map fun v => v.category).sum ≤ 8) (hdg : decode cc pc = .ok (.invokevirtual index, 3)) (hf : cells ≤ R.cells ∧ slots ≤ R.slots)
    (kk : ∀ (H1 : Heap) (locs1 : List Loc), va_P g.1 vwCl (Y ++ zW g b r U') H1 → va_D A (Y ++ zW g b r U') → va_S A s.heap H1 locs1 → W p l e R s m args below meth c H1 locs1 cells slots Q (F0 m (pc + 3) ls (.int rv :: rest))) : W p l e R s m args below meth c H locs cells slots Q (F0 m pc ls st) :=
  zcVis (ci := 5) (q0 := 0) hx hb hml hown hts hN hGS hM hG hw hd hrc hR hK hP hD hS hA List.perm_append_comm rfl rfl hn hsize hst hroom hdg hf List.perm_append_comm kk
/-- a call of the only object's method -/
theorem zc1 (hx : p.tables.exec = Jvm.exec) (hb : c.code = cc) (hml : c.maxLocals = nL) (hown : s.vm.findClass own = some m.cls) (hts : ∀ w ∈ Ts, w.before args s = true) (hN : zN s)
    (hM : ZI l y wsd rm g (zW g a q V) (.ref a :: As) rv (zW g a q V')) (hG : GoodIn Ts (wsV own index RX5 y wsd)) (hw : wsd = Cond.code y bytes maxL ret :: ws') (hd : y.cls = RX5 ∧ y.cls ≠ "java/lang/invoke/MethodHandle" ∧ y.cls ≠ "java/lang/invoke/VarHandle" ∧ (parseMethodDescriptor y.desc).map (fun d => d.parameters.length) = some n) (hrc : rm.cells = 0 ∧ rm.slots = 0) (hR : rm.frames + 1 ≤ R.frames ∧ 8 + (maxL + 11) + rm.locals ≤ R.locals)
    (hK : va_K g.1 vwCl (zTy g) s) (hP : va_P g.1 vwCl (zW g a q V) H) (hD : va_D A (zW g a q V)) (hS : va_S A s.heap H locs) (hA : ∀ q : Nat, s.heap.size ≤ q → A q)
    (hn : As.length = n) (hsize : ls.size = nL) (hst : st = As.reverse ++ .ref a :: rest) (hroom : (rest.map fun v => v.category).sum ≤ 8) (hdg : decode cc pc = .ok (.invokevirtual index, 3)) (hf : cells ≤ R.cells ∧ slots ≤ R.slots)
    (kk : ∀ (H1 : Heap) (locs1 : List Loc), va_P g.1 vwCl (zW g a q V') H1 → va_D A (zW g a q V') → va_S A s.heap H1 locs1 → W p l e R s m args below meth c H1 locs1 cells slots Q (F0 m (pc + 3) ls (.int rv :: rest))) : W p l e R s m args below meth c H locs cells slots Q (F0 m pc ls st) :=
  zcVi (ci := 5) (q0 := 0) hx hb hml hown hts hN hM hG hw hd hrc hR hK hP hD hS hA (zpn _) rfl rfl hn hsize hst hroom hdg hf (zpn' _) kk
set_option maxHeartbeats 4000000 in
/-- a static method that answers by a relation; the world's cells Xc are its own -/
theorem zcSe {κ : Type} {Rr : Int32 → κ → Prop} {B : κ → va_W} (hx : p.tables.exec = Jvm.exec) (hb : c.code = cc) (hml : c.maxLocals = nL) (hown : s.vm.findClass own = some m.cls) (hts : ∀ w ∈ Ts, w.before args s = true) (hN : zN s) (hGS : zGS A s s.heap)
    (hM : ZE l y wsd rm g Xc As Rr B) (hG : GoodIn Ts (va_wsS own index y wsd)) (hw : wsd = Cond.code y bytes maxL ret :: ws') (hd : y.cls ≠ "java/lang/invoke/MethodHandle" ∧ y.cls ≠ "java/lang/invoke/VarHandle" ∧ (parseMethodDescriptor y.desc).map (fun d => d.parameters.length) = some n) (hrc : rm.cells = 0 ∧ rm.slots = 0) (hR : rm.frames + 1 ≤ R.frames ∧ 8 + (maxL + 11) + rm.locals ≤ R.locals)
    (hK : va_K g.1 vwCl (zTy g) s) (hP : va_P g.1 vwCl X H) (hD : va_D A X) (hS : va_S A s.heap H locs) (hA : ∀ q : Nat, s.heap.size ≤ q → A q) (hX : X.Perm (Xc ++ Xr))
    (hn : As.length = n) (hsize : ls.size = nL) (hst : st = As.reverse ++ rest) (hroom : (rest.map fun v => v.category).sum ≤ 8) (hdg : decode cc pc = .ok (.invokestatic index, 3)) (hf : cells ≤ R.cells ∧ slots ≤ R.slots)
    (kk : ∀ (rv : Int32) (u : κ) (H1 : Heap) (locs1 : List Loc), Rr rv u → va_P g.1 vwCl (B u ++ Xr) H1 → va_D A (B u ++ Xr) → va_S A s.heap H1 locs1 → W p l e R s m args below meth c H1 locs1 cells slots Q (F0 m (pc + 3) ls (.int rv :: rest))) : W p l e R s m args below meth c H locs cells slots Q (F0 m pc ls st) := by
  subst hst
  have hPc := zP_perm hP hX
  have hDc := zD_perm hD hX
  have hPs := zP_left hPc
  have hDs := zD_left hDc
  have hFc := zfree hDs hS hA
  have hGH : zGS (va_A Xc H.size) s H := (hGS.kept hS.2.1).narrow hFc
  refine va_calli (va_runS ⟨hx, hb, hml, hown, hts⟩ (hM H.size) (va_cwS n hts hG hw hrc.1 hrc.2 hd hR) ⟨zPcS_blind, fun U hU hWm => ⟨rfl, by rw [hU], by rw [hU]; exact hPs, va_K.moved hWm.alike hK, hDs.weaken (fun _ _ _ _ => trivial), zN.warm hWm hN, by rw [hU]; exact hGH.moved hWm.alike⟩⟩ rfl hn hsize rfl (lv_room hroom) hdg hf) hS (fun q _ h => hFc q h) hFc (fun r1 u t H1 locs1 ht hvm hw1 hB hz hk1 hS1 => ?_)
  obtain ⟨hP1, hK1, hD1⟩ := hB
  rw [ht] at hP1
  obtain ⟨h1, h2⟩ := zjoin hPc hDc hk1 hFc hP1 hD1
  exact kk r1 u H1 locs1 hw1 h1 h2 hS1
set_option maxHeartbeats 4000000 in
/-- a static method that reads the script alone -/
theorem zcX {b L : Nat} {xs : Nat → Int32} (hx : p.tables.exec = Jvm.exec) (hb : c.code = cc) (hml : c.maxLocals = nL) (hown : s.vm.findClass own = some m.cls) (hts : ∀ w ∈ Ts, w.before args s = true)
    (hM : ZX l y wsd rm b L xs As) (hG : GoodIn Ts (va_wsS own index y wsd)) (hw : wsd = Cond.code y bytes maxL ret :: ws') (hd : y.cls ≠ "java/lang/invoke/MethodHandle" ∧ y.cls ≠ "java/lang/invoke/VarHandle" ∧ (parseMethodDescriptor y.desc).map (fun d => d.parameters.length) = some n) (hrc : rm.cells = 0 ∧ rm.slots = 0) (hR : rm.frames + 1 ≤ R.frames ∧ 8 + (maxL + 11) + rm.locals ≤ R.locals)
    (hXs : va_X b L xs s s.heap) (hbl : b < s.heap.size) (hbA : ¬ A b) (hP : va_P g.1 vwCl X H) (hD : va_D A X) (hS : va_S A s.heap H locs) (hA : ∀ q : Nat, s.heap.size ≤ q → A q)
    (hn : As.length = n) (hsize : ls.size = nL) (hst : st = As.reverse ++ rest) (hroom : (rest.map fun v => v.category).sum ≤ 8) (hdg : decode cc pc = .ok (.invokestatic index, 3)) (hf : cells ≤ R.cells ∧ slots ≤ R.slots)
    (kk : ∀ (rv : Int32) (H1 : Heap) (locs1 : List Loc), va_P g.1 vwCl X H1 → va_D A X → va_S A s.heap H1 locs1 → W p l e R s m args below meth c H1 locs1 cells slots Q (F0 m (pc + 3) ls (.int rv :: rest))) : W p l e R s m args below meth c H locs cells slots Q (F0 m pc ls st) := by
  subst hst
  have hPc : va_P g.1 vwCl ([] ++ X) H := hP
  have hDc : va_D A ([] ++ X) := hD
  have hPs := zP_left hPc
  have hDs := zD_left hDc
  have hFc := zfree hDs hS hA
  refine va_calli (va_runS ⟨hx, hb, hml, hown, hts⟩ (hM H.size) (va_cwS n hts hG hw hrc.1 hrc.2 hd hR) ⟨zXc_blind, fun U hU hWm => ⟨rfl, by rw [hU], by rw [hU]; exact (hXs.kept (hS.2.1 b hbl hbA)).moved hWm.alike⟩⟩ rfl hn hsize rfl (lv_room hroom) hdg hf) hS (fun q _ h => hFc q h) hFc (fun r1 u t H1 locs1 ht hvm hw1 hB hz hk1 hS1 => ?_)
  obtain ⟨h1, h2⟩ := zjoin hPc hDc hk1 hFc (X1 := []) (fun k q h => by simp at h) ⟨fun i j p q h => by simp at h, fun k q h => by simp at h⟩
  exact kk r1 H1 locs1 h1 h2 hS1
end ZCE
