/-! What a relation of two objects must do for the law: one text a call. -/
abbrev zRel2 : Type := zPV → zPV → Prop
abbrev zRel3 : Type := zPV → Nat → Nat → zPV → Prop
def zsum (f : Nat → Int32) : Nat → Int32
  | 0 => 0
  | n + 1 => zsum f n + f n
def zpe (V : zPV) (r k : Nat) : Int32 := if kF_stamped V (nI r) (nI k) < (0 : Int32) then 0 else 1
def zrem (x y : Int32) : Int32 := x - ((x / y) * y)
-- texts
def zbt (s : Int32) (k : Nat) : Int32 := (s >>> ((nI k) &&& 31)) &&& (1 : Int32)
def zdg (s : Int32) : Nat → List Nat
  | 0 => []
  | k + 1 => zdg s k ++ (if zbt s k = (0 : Int32) then [] else [48 + k])
def znum (r : Nat) : List Nat := (if r < 10 then [] else [49]) ++ [48 + r % 10]
def zrowT (r : Nat) (s : Int32) : List Nat := znum r ++ [58] ++ zdg s 6
def zsepp (L : List Nat) : List Nat := if L = [] then [] else L ++ [59]
def ztxt (L : List (Nat × Int32)) : List Nat := L.foldl (fun acc x => zsepp acc ++ zrowT x.1 x.2) []
def zmir (x : Nat × Int32) : Nat × Int32 := (x.1, f_L_turned x.2)
def zPd (V : zPV) (L : List Nat) : Prop := V.2.2.1.1 0 = nI L.length ∧ ∀ i c, L[i]? = some c → V.2.2.1.2 0 i = nI c
def zRows (L : List (Nat × Int32)) : Prop := ∀ x ∈ L, x.1 < 16 ∧ vp_in x.2 64
-- one text a call
def zA_ok (I : zRel2) : Prop := ∀ V U, I V U → zOK V ∧ zOK U
def zA_tr (I : zRel2) : Prop := ∀ V U t, I V U → I (zTr V t) U ∧ I V (zTr U t)
def zSetOK (w v : Int32) : Prop := vp_in w 4 ∧ ((w = 0 ∧ 1 ≤ v.toInt ∧ v.toInt ≤ 8) ∨ (w = 1 ∧ vp_in v 10) ∨ (w = 2 ∧ vp_in v 100) ∨ (w = 3 ∧ 1 ≤ v.toInt ∧ v.toInt ≤ 4))
def zA_set (I : zRel2) : Prop := ∀ V U w v, I V U → zSetOK w v → kF_set V w v = kF_count V w ∧ kF_set U w v = kF_count V w ∧ kF_count (kG_set V w v) w = v ∧ I (kG_set V w v) (kG_set U w v)
def zA_order (I : zRel2) : Prop := ∀ V U x, I V U → vp_in x 64 → kF_order V x = kF_count V 6 ∧ kF_order U (f_L_turned x) = f_L_turned (kF_count V 6) ∧ kF_count (kG_order V x) 6 = x ∧ I (kG_order V x) (kG_order U (f_L_turned x))
def zA_ink (I : zRel2) : Prop := ∀ V U x, I V U → vp_in x 6 → kF_ink V x = (99 : Int32) - kF_stamp V x 0 ∧ kF_ink U ((5 : Int32) - x) = (99 : Int32) - kF_stamp V x 0 ∧ kF_stamp (kG_ink V x) x 0 = 99 ∧ I (kG_ink V x) (kG_ink U ((5 : Int32) - x))
def zA_free (I : zRel2) : Prop := ∀ V U, I V U → kF_free V = kF_free U ∧ ((kF_count V 5 = 1 ∧ kF_free V = kF_count V 4 ∧ kF_count (kG_free V) 4 = zrem (kF_count V 4 + (1 : Int32)) 16 ∧ kF_count (kG_free V) 5 = 0) ∨ (kF_count V 5 = 0 ∧ kF_free V = (-5 : Int32))) ∧ kF_count (kG_free V) 10 = kF_count V 10 ∧ I (kG_free V) (kG_free U)
def zA_newForm (I : zRel2) : Prop := ∀ V U, I V U → kF_newForm V = kF_count V 7 ∧ kF_newForm U = f_L_turned (kF_count V 7) ∧ kF_count (kG_newForm V) 7 = 0 ∧ kF_count (kG_newForm V) 8 = 0 ∧ kF_count (kG_newForm V) 9 = 0 ∧ I (kG_newForm V) (kG_newForm U)
def zA_save (I : zRel2) : Prop := ∀ V U x, I V U → vp_in x 2 → kF_save V x = kF_save U x ∧ I (kG_save V x) (kG_save U x)
def zA_restore (I : zRel2) : Prop := ∀ V U x, I V U → vp_in x 2 → kF_restore V x = kF_restore U x ∧ I (kG_restore V x) (kG_restore U x)
def zA_peg (I : zRel2) : Prop := ∀ V U x y, I V U → vp_in x 16 → vp_in y 6 → kF_peg V x y = kF_peg U x ((5 : Int32) - y) ∧ I (kG_peg V x y) (kG_peg U x ((5 : Int32) - y)) ∧ ((kF_stamped V x y < (0 : Int32) ∧ kF_peg V x y = kF_row V x 1 + (1 : Int32) ∧ kF_stamped (kG_peg V x y) x y = 0) ∨ (¬ kF_stamped V x y < (0 : Int32) ∧ kF_peg V x y = kF_row V x 1 + (-1 : Int32) ∧ kF_stamped (kG_peg V x y) x y = (-6 : Int32)))
def zA_wipe (I : zRel2) : Prop := ∀ V U, I V U → (¬ kF_wipe V < (0 : Int32) ∧ I (kG_wipe V) U ∧ zPd (kG_wipe V) []) ∧ (¬ kF_wipe U < (0 : Int32) ∧ I V (kG_wipe U) ∧ zPd (kG_wipe U) [])
def zA_put (I : zRel2) : Prop := ∀ V U L (x : Int64) (n : Nat), I V U → L.length < 60 → 33 ≤ n → n ≤ 126 → x.toInt = (n : Int) → (zPd V L → ¬ kF_put V x ≤ (0 : Int32) ∧ I (kG_put V x) U ∧ zPd (kG_put V x) (L ++ [n])) ∧ (zPd U L → ¬ kF_put U x ≤ (0 : Int32) ∧ I V (kG_put U x) ∧ zPd (kG_put U x) (L ++ [n]))
def zA_read (I : zRel2) : Prop := ∀ V U L, I V U → zPd V (ztxt L) → zPd U (ztxt (L.map zmir)) → L ≠ [] → L.length ≤ 5 → zRows L → kF_read V = kF_read U ∧ kF_read V = kF_count (kG_read V) 15 ∧ kF_count (kG_read V) 18 = 0 ∧ I (kG_read V) (kG_read U)
def zA_step0 (I : zRel2) (J : zRel3) : Prop := ∀ V U n, I V U → 1 ≤ n → n ≤ 200 → (kF_count V 5 = 1 ∧ kF_step V (nI n) = (-5 : Int32) ∧ kF_step U (nI n) = (-5 : Int32) ∧ I (kG_step V (nI n)) (kG_step U (nI n))) ∨ (¬ kF_count V 5 = 1 ∧ J V n 0 U)
def zA_step1 (J : zRel3) : Prop := ∀ V n d U, J V n d U → d ≤ n ∧ zOK U ∧ (d < n → kF_count U 5 = 0 → (kF_step U 1 = 1 ∧ J V n (d + 1) (kG_step U 1)) ∨ (kF_step U 1 = 0 ∧ J V n d (kG_step U 1) ∧ ¬ kF_count (kG_step U 1) 5 = 0))
def zA_mono (I I2 : zRel2) : Prop := ∀ V U, I V U → I2 V U
def zA_step2 (I2 : zRel2) (J : zRel3) : Prop := ∀ V n d U, J V n d U → (d = n ∨ ¬ kF_count U 5 = 0) → kF_step V (nI n) = nI d ∧ kF_count (kG_step V (nI n)) 10 = kF_count V 10 + nI d ∧ kF_count (kG_step V (nI n)) 4 = zrem (kF_count V 4 + nI d) 16 ∧ (nI d = nI n ↔ kF_count (kG_step V (nI n)) 5 = 0) ∧ I2 (kG_step V (nI n)) U
def zA_alike (I : zRel2) : Prop := ∀ V U, I V U → kF_untilJam V = kF_untilJam U ∧ f_L_turned (kF_nextStamps V 0) = kF_nextStamps U 1 ∧ (∀ n w, 1 ≤ n → n ≤ 500 → w < 5 → kF_ifStepped V (nI n) (nI w) = kF_ifStepped U (nI n) (nI w)) ∧ (∀ w, w < 18 → ¬ w = 6 → ¬ w = 7 → kF_count V (nI w) = kF_count U (nI w)) ∧ (∀ w, w = 6 ∨ w = 7 → f_L_turned (kF_count V (nI w)) = kF_count U (nI w))
def zA_rows (I : zRel2) : Prop := ∀ V U, I V U → (∀ r, r < 16 → f_L_turned (kF_row V (nI r) 0) = kF_row U (nI r) 0 ∧ kF_row V (nI r) 1 = kF_row U (nI r) 1 ∧ kF_row V (nI r) 2 = kF_row U (nI r) 2 ∧ kF_row V (nI r) 3 = kF_row U (nI r) 3) ∧ (∀ r k, r < 16 → k < 6 → kF_stamped V (nI r) (nI k) = kF_stamped U (nI r) ((5 : Int32) - nI k)) ∧ (∀ k w, k < 6 → w < 5 → kF_stamp V (nI k) (nI w) = kF_stamp U ((5 : Int32) - nI k) (nI w))
def zA_best (I : zRel2) : Prop := ∀ V U, I V U → (kF_bestOut V = (-6 : Int32) ∧ kF_bestOut U = (-6 : Int32)) ∨ (¬ kF_bestOut V = (-6 : Int32) ∧ ¬ kF_bestOut U = (-6 : Int32) ∧ kF_bestOut V / (6 : Int32) = kF_bestOut U / (6 : Int32))
def zA_well (I : zRel2) : Prop := ∀ V U, I V U → ¬ (8 : Int32) ≤ kF_count V 9 ∧ (kF_count V 8 = 0 ∨ ¬ kF_count V 7 = 0) ∧ kF_nextStamps V 0 = kF_nextStamps V 1 ∧ (∀ r k, r < 16 → k < 6 → (¬ kF_stamped V (nI r) (nI k) < (0 : Int32) ↔ zbt (kF_row V (nI r) 0) k = 1) ∧ ¬ kF_count V 10 < kF_stamped V (nI r) (nI k)) ∧ (∀ r, r < 16 → zsum (zpe V r) 6 = kF_row V (nI r) 1 ∧ kF_row V (nI r) 2 = (if zsum (zpe V r) 6 ≤ kF_count V 3 then 0 else 1) ∧ kF_row V (nI r) 3 = zrem ((nI r - kF_count V 4) + (16 : Int32)) 16)
def zA_wellS (I : zRel2) : Prop := ∀ V U, I V U → zsum (fun r => zsum (zpe V r) 6) 16 = kF_count V 15 ∧ zsum (fun k => kF_stamp V (nI k) 3) 6 = kF_count V 15 ∧ zsum (fun k => kF_stamp V (nI k) 1) 6 = kF_count V 17 ∧ (∀ k, k < 6 → ¬ kF_stamp V (nI k) 0 < (0 : Int32) ∧ ¬ (99 : Int32) < kF_stamp V (nI k) 0 ∧ (zbt (kF_count V 7) k = 0 ∨ ¬ kF_stamp V (nI k) 1 ≤ (0 : Int32)))
def zA_wellJ (I : zRel2) : Prop := ∀ V U, I V U → (kF_untilJam V = 0 ↔ (kF_count V 5 = 1 ∨ kF_row V (kF_count V 4) 2 = 1)) ∧ ¬ kF_count V 10 < (kF_count V 11 + kF_count V 12) + kF_count V 13 ∧ (kF_count V 5 = 0 ∨ ¬ kF_count V 14 ≤ (0 : Int32))
def zPV0 : zPV := (zC0, z00, z00, z00, zC0, fun _ => zC0, fun _ => zC0)
def zS2 (I I2 : zRel2) (J : zRel3) : Prop := zA_ok I ∧ zA_mono I I2 ∧ zA_tr I ∧ zA_set I ∧ zA_order I ∧ zA_ink I ∧ zA_free I ∧ zA_newForm I ∧ zA_save I ∧ zA_restore I ∧ zA_peg I ∧ zA_wipe I ∧ zA_put I ∧ zA_read I ∧ zA_step0 I J ∧ zA_step1 J ∧ zA_step2 I2 J ∧ zA_alike I ∧ zA_rows I ∧ zA_best I ∧ zA_well I ∧ zA_wellS I ∧ zA_wellJ I
theorem zS2.ok {I I2 : zRel2} {J : zRel3} (h : zS2 I I2 J) : zA_ok I := h.1
theorem zS2.mono {I I2 : zRel2} {J : zRel3} (h : zS2 I I2 J) : zA_mono I I2 := h.2.1
theorem zS2.tr {I I2 : zRel2} {J : zRel3} (h : zS2 I I2 J) : zA_tr I := h.2.2.1
theorem zS2.set {I I2 : zRel2} {J : zRel3} (h : zS2 I I2 J) : zA_set I := h.2.2.2.1
theorem zS2.order {I I2 : zRel2} {J : zRel3} (h : zS2 I I2 J) : zA_order I := h.2.2.2.2.1
theorem zS2.ink {I I2 : zRel2} {J : zRel3} (h : zS2 I I2 J) : zA_ink I := h.2.2.2.2.2.1
theorem zS2.free {I I2 : zRel2} {J : zRel3} (h : zS2 I I2 J) : zA_free I := h.2.2.2.2.2.2.1
theorem zS2.newForm {I I2 : zRel2} {J : zRel3} (h : zS2 I I2 J) : zA_newForm I := h.2.2.2.2.2.2.2.1
theorem zS2.save {I I2 : zRel2} {J : zRel3} (h : zS2 I I2 J) : zA_save I := h.2.2.2.2.2.2.2.2.1
theorem zS2.restore {I I2 : zRel2} {J : zRel3} (h : zS2 I I2 J) : zA_restore I := h.2.2.2.2.2.2.2.2.2.1
theorem zS2.peg {I I2 : zRel2} {J : zRel3} (h : zS2 I I2 J) : zA_peg I := h.2.2.2.2.2.2.2.2.2.2.1
theorem zS2.wipe {I I2 : zRel2} {J : zRel3} (h : zS2 I I2 J) : zA_wipe I := h.2.2.2.2.2.2.2.2.2.2.2.1
theorem zS2.put {I I2 : zRel2} {J : zRel3} (h : zS2 I I2 J) : zA_put I := h.2.2.2.2.2.2.2.2.2.2.2.2.1
theorem zS2.read {I I2 : zRel2} {J : zRel3} (h : zS2 I I2 J) : zA_read I := h.2.2.2.2.2.2.2.2.2.2.2.2.2.1
theorem zS2.step0 {I I2 : zRel2} {J : zRel3} (h : zS2 I I2 J) : zA_step0 I J := h.2.2.2.2.2.2.2.2.2.2.2.2.2.2.1
theorem zS2.step1 {I I2 : zRel2} {J : zRel3} (h : zS2 I I2 J) : zA_step1 J := h.2.2.2.2.2.2.2.2.2.2.2.2.2.2.2.1
theorem zS2.step2 {I I2 : zRel2} {J : zRel3} (h : zS2 I I2 J) : zA_step2 I2 J := h.2.2.2.2.2.2.2.2.2.2.2.2.2.2.2.2.1
theorem zS2.alike {I I2 : zRel2} {J : zRel3} (h : zS2 I I2 J) : zA_alike I := h.2.2.2.2.2.2.2.2.2.2.2.2.2.2.2.2.2.1
theorem zS2.rows {I I2 : zRel2} {J : zRel3} (h : zS2 I I2 J) : zA_rows I := h.2.2.2.2.2.2.2.2.2.2.2.2.2.2.2.2.2.2.1
theorem zS2.best {I I2 : zRel2} {J : zRel3} (h : zS2 I I2 J) : zA_best I := h.2.2.2.2.2.2.2.2.2.2.2.2.2.2.2.2.2.2.2.1
theorem zS2.well {I I2 : zRel2} {J : zRel3} (h : zS2 I I2 J) : zA_well I := h.2.2.2.2.2.2.2.2.2.2.2.2.2.2.2.2.2.2.2.2.1
theorem zS2.wellS {I I2 : zRel2} {J : zRel3} (h : zS2 I I2 J) : zA_wellS I := h.2.2.2.2.2.2.2.2.2.2.2.2.2.2.2.2.2.2.2.2.2.1
theorem zS2.wellJ {I I2 : zRel2} {J : zRel3} (h : zS2 I I2 J) : zA_wellJ I := h.2.2.2.2.2.2.2.2.2.2.2.2.2.2.2.2.2.2.2.2.2.2
