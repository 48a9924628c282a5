theorem zhere {v : zCV} {a b : Int32} (hs : vp_in (v.1 2) 61) (ht : vp_in (v.1 1) 61) (h : ¬ f_X6_isHere v a b = (0 : Int32)) : vp_in (v.1 2) 60 := by
  unfold f_X6_isHere at h
  split at h
  · exact absurd rfl h
  · rename_i c
    exact zhere0 hs ht c
theorem zhere_val {v : zCV} {a b : Int32} (h : ¬ f_X6_isHere v a b = (0 : Int32)) : a.toInt ≤ ((v.2 5) (v.1 2).toNatClampNeg).toInt ∧ ((v.2 5) (v.1 2).toNatClampNeg).toInt ≤ b.toInt := by
  unfold f_X6_isHere at h
  split at h
  · exact absurd rfl h
  · split at h
    · exact absurd rfl h
    · rename_i c
      have h1 := (zin_iff _ _ _).mp c
      rw [zi64, zi64, zi64] at h1
      exact h1
theorem zhere01 (v : zCV) (a b : Int32) : f_X6_isHere v a b = (0 : Int32) ∨ f_X6_isHere v a b = (1 : Int32) := by
  unfold f_X6_isHere
  repeat' split
  all_goals first | exact Or.inl rfl | exact Or.inr rfl
theorem zspot1 {x : Int32} (h : vp_in x 60) : vp_in (x + (1 : Int32)) 61 := zin_1 h (by omega)
theorem zlen1 {x : Int32} {n : Nat} (h : vp_in x n) (hn : n < 2147483647) : (x + (1 : Int32)).toNatClampNeg = x.toNatClampNeg + 1 := by
  obtain ⟨j, hj, rfl⟩ := vp_in_of h (by omega)
  rw [nI_1, nI_clamp (by omega), nI_clamp (by omega)]
theorem e1_takes (v : zCV) (c : Int32) (k : Nat) (hk : k ≠ 2) : (f_X6_takesOne v c).2.1 k = v.1 k := by
  unfold f_X6_takesOne
  split <;> exact pk_un hk
theorem e2_takes (v : zCV) (c : Int32) : (f_X6_takesOne v c).2.2 = v.2 := by
  unfold f_X6_takesOne
  split <;> rfl
theorem e0_takes (v : zCV) (c : Int32) : (f_X6_takesOne v c).1 = f_X6_isHere v c c := by
  unfold f_X6_takesOne
  split <;> rfl
theorem es_takes (v : zCV) (c : Int32) : ((f_X6_takesOne v c).1 = (0 : Int32) ∧ (f_X6_takesOne v c).2.1 2 = v.1 2) ∨ ((f_X6_takesOne v c).1 = (1 : Int32) ∧ (f_X6_takesOne v c).2.1 2 = v.1 2 + (1 : Int32)) := by
  have h0 := e0_takes v c
  rcases zhere01 v c c with h | h
  · refine Or.inl ⟨by rw [h0, h], ?_⟩
    unfold f_X6_takesOne
    rw [if_pos (show r_X6_takesOne_3 v c = (0 : Int32) from h)]
    show v.1 2 + (0 : Int32) = v.1 2
    exact Int32.add_zero _
  · refine Or.inr ⟨by rw [h0, h], ?_⟩
    unfold f_X6_takesOne
    rw [if_neg (show ¬ r_X6_takesOne_3 v c = (0 : Int32) from fun e => absurd (h.symm.trans e) (by decide))]
    rfl
theorem zspot_take {v : zCV} {c : Int32} (hs : vp_in (v.1 2) 61) (ht : vp_in (v.1 1) 61) : vp_in ((f_X6_takesOne v c).2.1 2) 61 := by
  rcases es_takes v c with ⟨h1, h2⟩ | ⟨h1, h2⟩
  · rw [h2]; exact hs
  · rw [h2]
    refine zspot1 (zhere (a := c) (b := c) hs ht ?_)
    rw [← e0_takes, h1]; decide
theorem zht_take {u : zCV} {c : Int32} (h : vp_in (u.1 1) 61) : vp_in ((f_X6_takesOne u c).2.1 1) 61 := by rw [e1_takes u c 1 (by omega)]; exact h
theorem zleast {v : zCV} {a : Int32} (ha : vp_in a 7) (h : ¬ f_X6_isHere v ((48 : Int32) + a) (53 : Int32) = (0 : Int32)) : vp_in ((((v.2 5) (v.1 2).toNatClampNeg) - (48 : Int32)) + (1 : Int32)) 7 ∧ a.toNatClampNeg < ((((v.2 5) (v.1 2).toNatClampNeg) - (48 : Int32)) + (1 : Int32)).toNatClampNeg := by
  have h1 := zhere_val h
  obtain ⟨k, hk, rfl⟩ := vp_in_of ha (by omega)
  rw [show (48 : Int32) = nI 48 from rfl, nI_add, nI_toInt (by omega)] at h1
  have h2 : ((53 : Int32)).toInt = 53 := rfl
  have h3 : vp_in ((v.2 5) (v.1 2).toNatClampNeg) 54 := vp_in_iff.mpr (by omega)
  generalize (v.2 5) (v.1 2).toNatClampNeg = x at h1 h3 ⊢
  obtain ⟨j, hj, rfl⟩ := vp_in_of h3 (by omega)
  rw [nI_toInt (by omega)] at h1
  rw [show (48 : Int32) = nI 48 from rfl, show (1 : Int32) = nI 1 from rfl, pk_sub (by omega), nI_add, nI_clamp (by omega), nI_clamp (by omega)]
  exact ⟨vp_in_nI (by omega) (by omega), by omega⟩
abbrev rm_X6_readsRow : Room := { frames := 3, cells := 0, slots := 0, locals := 69 }
set_option maxRecDepth 20000 in
theorem zin_X6_readsRow_X6 : ∀ w ∈ wsX60, w ∈ wsX6_readsRow := by decide +kernel
def r_X6_readsRow_5 (v : zCV) : Int32 := (f_X6_isHere v (48 : Int32) (57 : Int32))
def s_X6_readsRow_33 (v : zCV) : zCV := zS v 2 ((v.1 2) + (1 : Int32))
def r_X6_readsRow_81 (v : zCV) : Int32 × zCV := (f_X6_takesOne (s_X6_readsRow_33 v) (58 : Int32))
def r_X6_readsRow_106 (x93_3 : Int32) (w93_0 : zCV) : Int32 := (f_X6_isHere w93_0 ((48 : Int32) + x93_3) (53 : Int32))
def s_X6_readsRow_151 (w93_0 : zCV) : zCV := zS w93_0 2 ((w93_0.1 2) + (1 : Int32))
def f_X6_readsRow_L93  : Nat → Int32 → Int32 → zCV → Int32 × Int32 × zCV
  | 0, x93_2, x93_3, w93_0 => (x93_2, x93_3, w93_0)
  | n93 + 1, x93_2, x93_3, w93_0 => if (6 : Int32) ≤ x93_3 then ((x93_2, x93_3, w93_0)) else (if (r_X6_readsRow_106 x93_3 w93_0) = (0 : Int32) then ((x93_2, x93_3, w93_0)) else ((f_X6_readsRow_L93 n93 (x93_2 ||| ((1 : Int32) <<< ((((w93_0.2 5) (w93_0.1 2).toNatClampNeg) - (48 : Int32)) &&& 31))) ((((w93_0.2 5) (w93_0.1 2).toNatClampNeg) - (48 : Int32)) + (1 : Int32)) (s_X6_readsRow_151 w93_0))))
def s_X6_readsRow_166 (v : zCV) : zCV := zA (f_X6_readsRow_L93 (zfu 7) (0 : Int32) (0 : Int32) (r_X6_readsRow_81 v).2).2.2 6 (upd ((f_X6_readsRow_L93 (zfu 7) (0 : Int32) (0 : Int32) (r_X6_readsRow_81 v).2).2.2.2 6) ((f_X6_readsRow_L93 (zfu 7) (0 : Int32) (0 : Int32) (r_X6_readsRow_81 v).2).2.2.1 3).toNatClampNeg (((v.2 5) (v.1 2).toNatClampNeg) - (48 : Int32)))
def s_X6_readsRow_176 (v : zCV) : zCV := zA (s_X6_readsRow_166 v) 7 (upd ((s_X6_readsRow_166 v).2 7) ((s_X6_readsRow_166 v).1 3).toNatClampNeg (f_X6_readsRow_L93 (zfu 7) (0 : Int32) (0 : Int32) (r_X6_readsRow_81 v).2).1)
def s_X6_readsRow_184 (v : zCV) : zCV := zS (s_X6_readsRow_176 v) 3 (((s_X6_readsRow_176 v).1 3) + (1 : Int32))
def r_X6_readsRow_46 (v : zCV) : Int32 := (f_X6_isHere (s_X6_readsRow_33 v) (48 : Int32) (53 : Int32))
def s_X6_readsRow_75 (v : zCV) : zCV := zS (s_X6_readsRow_33 v) 2 (((s_X6_readsRow_33 v).1 2) + (1 : Int32))
def r_X6_readsRow_81_2 (v : zCV) : Int32 × zCV := (f_X6_takesOne (s_X6_readsRow_75 v) (58 : Int32))
def s_X6_readsRow_166_2 (v : zCV) : zCV := zA (f_X6_readsRow_L93 (zfu 7) (0 : Int32) (0 : Int32) (r_X6_readsRow_81_2 v).2).2.2 6 (upd ((f_X6_readsRow_L93 (zfu 7) (0 : Int32) (0 : Int32) (r_X6_readsRow_81_2 v).2).2.2.2 6) ((f_X6_readsRow_L93 (zfu 7) (0 : Int32) (0 : Int32) (r_X6_readsRow_81_2 v).2).2.2.1 3).toNatClampNeg (((10 : Int32) + (((s_X6_readsRow_33 v).2 5) ((s_X6_readsRow_33 v).1 2).toNatClampNeg)) - (48 : Int32)))
def s_X6_readsRow_176_2 (v : zCV) : zCV := zA (s_X6_readsRow_166_2 v) 7 (upd ((s_X6_readsRow_166_2 v).2 7) ((s_X6_readsRow_166_2 v).1 3).toNatClampNeg (f_X6_readsRow_L93 (zfu 7) (0 : Int32) (0 : Int32) (r_X6_readsRow_81_2 v).2).1)
def s_X6_readsRow_184_2 (v : zCV) : zCV := zS (s_X6_readsRow_176_2 v) 3 (((s_X6_readsRow_176_2 v).1 3) + (1 : Int32))
def f_X6_readsRow (v : zCV) : Int32 × zCV := if (r_X6_readsRow_5 v) = (0 : Int32) then (((0 : Int32), v)) else (if (((v.2 5) (v.1 2).toNatClampNeg) - (48 : Int32)) = (1 : Int32) then (if (r_X6_readsRow_46 v) = (0 : Int32) then (if ((r_X6_readsRow_81 v).1) = (0 : Int32) then (((0 : Int32), (r_X6_readsRow_81 v).2)) else (((1 : Int32), (s_X6_readsRow_184 v)))) else (if ((r_X6_readsRow_81_2 v).1) = (0 : Int32) then (((0 : Int32), (r_X6_readsRow_81_2 v).2)) else (((1 : Int32), (s_X6_readsRow_184_2 v))))) else (if ((r_X6_readsRow_81 v).1) = (0 : Int32) then (((0 : Int32), (r_X6_readsRow_81 v).2)) else (((1 : Int32), (s_X6_readsRow_184 v)))))
theorem zL93 : ∀ (n : Nat) (x a : Int32) (w : zCV), vp_in (w.1 2) 61 → vp_in (w.1 1) 61 → vp_in ((f_X6_readsRow_L93 n x a w).2.2.1 2) 61 ∧ (w.1 2).toNatClampNeg ≤ ((f_X6_readsRow_L93 n x a w).2.2.1 2).toNatClampNeg ∧ (∀ k, k ≠ 2 → (f_X6_readsRow_L93 n x a w).2.2.1 k = w.1 k) ∧ (f_X6_readsRow_L93 n x a w).2.2.2 = w.2
  | 0, x, a, w, hs, ht => ⟨hs, Nat.le_refl _, fun _ _ => rfl, rfl⟩
  | n + 1, x, a, w, hs, ht => by
    unfold f_X6_readsRow_L93
    split
    · exact ⟨hs, Nat.le_refl _, fun _ _ => rfl, rfl⟩
    · split
      · exact ⟨hs, Nat.le_refl _, fun _ _ => rfl, rfl⟩
      · rename_i c
        have h1 := zhere hs ht c
        have e1 : (s_X6_readsRow_151 w).1 2 = w.1 2 + (1 : Int32) := rfl
        have e2 : ∀ k, k ≠ 2 → (s_X6_readsRow_151 w).1 k = w.1 k := fun k hk => pk_un hk
        obtain ⟨g1, g2, g3, g4⟩ := zL93 n (x ||| ((1 : Int32) <<< ((((w.2 5) (w.1 2).toNatClampNeg) - (48 : Int32)) &&& 31))) ((((w.2 5) (w.1 2).toNatClampNeg) - (48 : Int32)) + (1 : Int32)) (s_X6_readsRow_151 w) (by rw [e1]; exact zspot1 h1) (by rw [e2 1 (by omega)]; exact ht)
        refine ⟨g1, ?_, fun k hk => (g3 k hk).trans (e2 k hk), g4⟩
        rw [e1, zlen1 h1 (by omega)] at g2
        omega
theorem zrr_hd {u : zCV} {n : Nat} {a b c : Int32} (h : vp_in (u.1 3) 31) (hs : vp_in (u.1 2) 61) (ht : vp_in (u.1 1) 61) : vp_in ((f_X6_readsRow_L93 n a b (f_X6_takesOne u c).2).2.2.1 3) 31 := by
  rw [(zL93 n a b _ (zspot_take hs ht) (by rw [e1_takes u c 1 (by omega)]; exact ht)).2.2.1 3 (by omega), e1_takes u c 3 (by omega)]
  exact h
set_option maxRecDepth 100000 in
set_option maxHeartbeats 4000000 in
theorem m_X6_readsRow (l : Launch) (g : zG) (q : Nat → Nat) (v : zCV) (hs : vp_in (v.1 2) 61) (ht : vp_in (v.1 1) 61) (hd : vp_in (v.1 3) 31) : ZI l yX6_readsRow wsX6_readsRow rm_X6_readsRow g (mo g q v) [.ref (q 0)] (f_X6_readsRow v).1 (mo g q (f_X6_readsRow v).2) := by
  refine zopenI (cc := cX6_readsRow) (maxL := 4) (ret := .boolean) (by decide +kernel) rfl (Nat.le_of_ble_eq_true rfl) ?_
  intro p e s m below meth c A Q ls hx hb hml hown hts hP hK hD hA hN hl hret
  have hS : va_S A s.heap s.heap [] := va_S.rf
  have hl : lv_has ls 4 [(0, .ref (q 0))] := hl
  have hown : s.vm.findClass RX6 = some m.cls := hown
  refine lv_aload_n hx hb dX6_readsRow_0 rfl (lv_at hl 0 rfl) ?_
  refine lv_bipush (v := (48 : Int32)) hx hb dX6_readsRow_1 (by decide) ?_
  refine lv_bipush (v := (57 : Int32)) hx hb dX6_readsRow_3 (by decide) ?_
  refine zcVi (n := 2) (As := [.int (48 : Int32), .int (57 : Int32)]) (rest := []) (Xr := []) (Xn := (mo g q v)) (ci := 6) (C := RX6) (T := TX6) (N := 12) (q0 := 0) hx hb hml hown hts hN (m_X6_isHere l g q v (48 : Int32) (57 : Int32) hs ht) gX6_readsRow_X6_isHere rfl (by decide +kernel) ⟨rfl, rfl⟩ ⟨Nat.le_of_ble_eq_true rfl, Nat.le_of_ble_eq_true rfl⟩ hK hP hD hS hA (zpn _) rfl rfl rfl hl.1 rfl (Nat.le_of_ble_eq_true rfl) dX6_readsRow_5 ⟨Nat.zero_le _, Nat.zero_le _⟩ (zpn' _) (fun H locs hP hD hS => ?_)
  refine lv_if_ne (tgt := 13) hx hb dX6_readsRow_8 (by decide) (fun c_8 => ?_) (fun c_8 => ?_)
  · refine lv_aload_n hx hb dX6_readsRow_13 rfl (lv_at hl 0 rfl) ?_
    refine va_get (D := g.1) (ci := 6) (v := .ref (q 6)) (C := RX6) (T := TX6) (N := 12) hx hb hts (zin_X6_readsRow_X6) hown hK hP 0 rfl rfl 6 (by decide) (hts (.fieldLink RX6 25 "PegClerksModel" "text" "[I") (by decide +kernel)) (fun _ h9 => h9) rfl dX6_readsRow_14 ?_
    refine lv_aload_n hx hb dX6_readsRow_17 rfl (lv_at hl 0 rfl) ?_
    refine va_get (D := g.1) (ci := 6) (v := .int (v.1 2)) (C := RX6) (T := TX6) (N := 12) hx hb hts (zin_X6_readsRow_X6) hown hK hP 0 rfl rfl 8 (by decide) (hts (.fieldLink RX6 147 "PegClerksModel" "spot" "I") (by decide +kernel)) (fun _ h9 => h9) rfl dX6_readsRow_18 ?_
    refine z_iald (f := (v.2 5)) (k := (v.1 2).toNatClampNeg) hx hb hK hP 6 0 rfl rfl (zhere hs ht c_8) rfl dX6_readsRow_21 ?_
    refine lv_bipush (v := (48 : Int32)) hx hb dX6_readsRow_22 (by decide) ?_
    refine lv_isub hx hb dX6_readsRow_24 ?_
    refine lv_istore_n (lv' := [(1, .int (((v.2 5) (v.1 2).toNatClampNeg) - (48 : Int32))), (0, .ref (q 0))]) hx hb dX6_readsRow_25 rfl hl (by decide) rfl (fun ls hl => ?_)
    refine lv_aload_n hx hb dX6_readsRow_26 rfl (lv_at hl 1 rfl) ?_
    refine lv_dup hx hb dX6_readsRow_27 rfl ?_
    refine va_get (D := g.1) (ci := 6) (v := .int (v.1 2)) (C := RX6) (T := TX6) (N := 12) hx hb hts (zin_X6_readsRow_X6) hown hK hP 0 rfl rfl 8 (by decide) (hts (.fieldLink RX6 147 "PegClerksModel" "spot" "I") (by decide +kernel)) (fun _ h9 => h9) rfl dX6_readsRow_28 ?_
    refine lv_iconst (v := (1 : Int32)) hx hb dX6_readsRow_31 (by decide) ?_
    refine lv_iadd hx hb dX6_readsRow_32 ?_
    refine va_put (D := g.1) (ci := 6) (v := .int ((v.1 2) + (1 : Int32))) (ty := .int) (C := RX6) (T := TX6) (N := 12) hx hb hts (zin_X6_readsRow_X6) tyX6 tyX6_ok nmX6 hown hK hP hD hS 0 rfl rfl 8 (by decide) (hts (.fieldLink RX6 147 "PegClerksModel" "spot" "I") (by decide +kernel)) (fun _ h9 => h9) rfl (by decide +kernel) rfl rfl (Nat.le_of_ble_eq_true rfl) dX6_readsRow_33 (fun H locs hP hD hS => ?_)
    have hP : va_P g.1 vwCl (mo g q (s_X6_readsRow_33 v)) H := (congrArg (fun z => va_P g.1 vwCl z H) (mo_S2 g q v ((v.1 2) + (1 : Int32)))).mp hP
    have hD : va_D A (mo g q (s_X6_readsRow_33 v)) := (congrArg (fun z => va_D A z) (mo_S2 g q v ((v.1 2) + (1 : Int32)))).mp hD
    refine lv_iload_n hx hb dX6_readsRow_36 rfl (lv_at hl 0 rfl) ?_
    refine lv_iconst (v := (1 : Int32)) hx hb dX6_readsRow_37 (by decide) ?_
    refine lv_icmp_ne (tgt := 78) hx hb dX6_readsRow_38 (by decide) (fun c_38 => ?_) (fun c_38 => ?_)
    · refine lv_aload_n hx hb dX6_readsRow_78 rfl (lv_at hl 1 rfl) ?_
      refine lv_bipush (v := (58 : Int32)) hx hb dX6_readsRow_79 (by decide) ?_
      refine zcVi (n := 1) (As := [.int (58 : Int32)]) (rest := []) (Xr := []) (Xn := (mo g q (r_X6_readsRow_81 v).2)) (ci := 6) (C := RX6) (T := TX6) (N := 12) (q0 := 0) hx hb hml hown hts hN (m_X6_takesOne l g q (s_X6_readsRow_33 v) (58 : Int32) (zspot1 (zhere hs ht c_8)) ht) gX6_readsRow_X6_takesOne rfl (by decide +kernel) ⟨rfl, rfl⟩ ⟨Nat.le_of_ble_eq_true rfl, Nat.le_of_ble_eq_true rfl⟩ hK hP hD hS hA (zpn _) rfl rfl rfl hl.1 rfl (Nat.le_of_ble_eq_true rfl) dX6_readsRow_81 ⟨Nat.zero_le _, Nat.zero_le _⟩ (zpn' _) (fun H locs hP hD hS => ?_)
      refine lv_if_ne (tgt := 89) hx hb dX6_readsRow_84 (by decide) (fun c_84 => ?_) (fun c_84 => ?_)
      · refine lv_iconst (v := (0 : Int32)) hx hb dX6_readsRow_89 (by decide) ?_
        refine lv_istore_n (lv' := [(2, .int (0 : Int32)), (1, .int (((v.2 5) (v.1 2).toNatClampNeg) - (48 : Int32))), (0, .ref (q 0))]) hx hb dX6_readsRow_90 rfl hl (by decide) rfl (fun ls hl => ?_)
        refine lv_iconst (v := (0 : Int32)) hx hb dX6_readsRow_91 (by decide) ?_
        refine lv_istore_n (lv' := [(3, .int (0 : Int32)), (2, .int (0 : Int32)), (1, .int (((v.2 5) (v.1 2).toNatClampNeg) - (48 : Int32))), (0, .ref (q 0))]) hx hb dX6_readsRow_92 rfl hl (by decide) rfl (fun ls hl => ?_)
        have L93 : ∀ (n93 : Nat) (x93_2 : Int32) (x93_3 : Int32) (w93_0 : zCV) (H : Heap) (locs : List Loc) (ls : Array Slot), vp_in (w93_0.1 2) 61 → vp_in (w93_0.1 1) 61 → vp_in x93_3 7 → 7 ≤ n93 + x93_3.toNatClampNeg → va_P g.1 vwCl (mo g q w93_0) H → va_D A (mo g q w93_0) → va_S A s.heap H locs → lv_has ls 4 [(3, .int x93_3), (2, .int x93_2), (1, .int (((v.2 5) (v.1 2).toNatClampNeg) - (48 : Int32))), (0, .ref (q 0))] → (∀ (H : Heap) (locs : List Loc) (ls : Array Slot), va_P g.1 vwCl (mo g q (f_X6_readsRow_L93 n93 x93_2 x93_3 w93_0).2.2) H → va_D A (mo g q (f_X6_readsRow_L93 n93 x93_2 x93_3 w93_0).2.2) → va_S A s.heap H locs → lv_has ls 4 [(3, .int (f_X6_readsRow_L93 n93 x93_2 x93_3 w93_0).2.1), (2, .int (f_X6_readsRow_L93 n93 x93_2 x93_3 w93_0).1), (1, .int (((v.2 5) (v.1 2).toNatClampNeg) - (48 : Int32))), (0, .ref (q 0))] → W p l e rm_X6_readsRow s m ([.ref (q 0)] : List Value).toArray below meth c H locs 0 0 Q (F0 m 157 ls [])) → W p l e rm_X6_readsRow s m ([.ref (q 0)] : List Value).toArray below meth c H locs 0 0 Q (F0 m 93 ls []) := by
          intro n93
          induction n93 with
          | zero =>
            intro x93_2 x93_3 w93_0 H locs ls hs ht hl7 hfu hP hD hS hl kx
            exact absurd hfu (by have h7 := vp_in_iff.mp hl7; have h8 := zclamp x93_3; omega)
          | succ n93 ih93 =>
            intro x93_2 x93_3 w93_0 H locs ls hs ht hl7 hfu hP hD hS hl kx
            refine lv_iload_n hx hb dX6_readsRow_93 rfl (lv_at hl 0 rfl) ?_
            refine lv_bipush (v := (6 : Int32)) hx hb dX6_readsRow_94 (by decide) ?_
            refine lv_icmp_ge (tgt := 157) hx hb dX6_readsRow_96 (by decide) (fun c_96 => ?_) (fun c_96 => ?_)
            · have E : (f_X6_readsRow_L93 (n93 + 1) x93_2 x93_3 w93_0) = (x93_2, x93_3, w93_0) := (if_pos c_96).trans rfl
              rw [E] at kx
              exact kx _ _ _ hP hD hS (lv_sub hl [0, 1, 2, 3] rfl)
            · refine lv_aload_n hx hb dX6_readsRow_99 rfl (lv_at hl 3 rfl) ?_
              refine lv_bipush (v := (48 : Int32)) hx hb dX6_readsRow_100 (by decide) ?_
              refine lv_iload_n hx hb dX6_readsRow_102 rfl (lv_at hl 0 rfl) ?_
              refine lv_iadd hx hb dX6_readsRow_103 ?_
              refine lv_bipush (v := (53 : Int32)) hx hb dX6_readsRow_104 (by decide) ?_
              refine zcVi (n := 2) (As := [.int ((48 : Int32) + x93_3), .int (53 : Int32)]) (rest := []) (Xr := []) (Xn := (mo g q w93_0)) (ci := 6) (C := RX6) (T := TX6) (N := 12) (q0 := 0) hx hb hml hown hts hN (m_X6_isHere l g q w93_0 ((48 : Int32) + x93_3) (53 : Int32) hs ht) gX6_readsRow_X6_isHere rfl (by decide +kernel) ⟨rfl, rfl⟩ ⟨Nat.le_of_ble_eq_true rfl, Nat.le_of_ble_eq_true rfl⟩ hK hP hD hS hA (zpn _) rfl rfl rfl hl.1 rfl (Nat.le_of_ble_eq_true rfl) dX6_readsRow_106 ⟨Nat.zero_le _, Nat.zero_le _⟩ (zpn' _) (fun H locs hP hD hS => ?_)
              refine lv_if_eq (tgt := 157) hx hb dX6_readsRow_109 (by decide) (fun c_109 => ?_) (fun c_109 => ?_)
              · have E : (f_X6_readsRow_L93 (n93 + 1) x93_2 x93_3 w93_0) = (x93_2, x93_3, w93_0) := (if_neg c_96).trans ((if_pos c_109).trans rfl)
                rw [E] at kx
                exact kx _ _ _ hP hD hS (lv_sub hl [0, 1, 2, 3] rfl)
              · refine lv_iload_n hx hb dX6_readsRow_112 rfl (lv_at hl 1 rfl) ?_
                refine lv_iconst (v := (1 : Int32)) hx hb dX6_readsRow_113 (by decide) ?_
                refine lv_aload_n hx hb dX6_readsRow_114 rfl (lv_at hl 3 rfl) ?_
                refine va_get (D := g.1) (ci := 6) (v := .ref (q 6)) (C := RX6) (T := TX6) (N := 12) hx hb hts (zin_X6_readsRow_X6) hown hK hP 0 rfl rfl 6 (by decide) (hts (.fieldLink RX6 25 "PegClerksModel" "text" "[I") (by decide +kernel)) (fun _ h9 => h9) rfl dX6_readsRow_115 ?_
                refine lv_aload_n hx hb dX6_readsRow_118 rfl (lv_at hl 3 rfl) ?_
                refine va_get (D := g.1) (ci := 6) (v := .int (w93_0.1 2)) (C := RX6) (T := TX6) (N := 12) hx hb hts (zin_X6_readsRow_X6) hown hK hP 0 rfl rfl 8 (by decide) (hts (.fieldLink RX6 147 "PegClerksModel" "spot" "I") (by decide +kernel)) (fun _ h9 => h9) rfl dX6_readsRow_119 ?_
                refine z_iald (f := (w93_0.2 5)) (k := (w93_0.1 2).toNatClampNeg) hx hb hK hP 6 0 rfl rfl (zhere hs ht c_109) rfl dX6_readsRow_122 ?_
                refine lv_bipush (v := (48 : Int32)) hx hb dX6_readsRow_123 (by decide) ?_
                refine lv_isub hx hb dX6_readsRow_125 ?_
                refine lv_ishl hx hb dX6_readsRow_126 ?_
                refine lv_ior hx hb dX6_readsRow_127 ?_
                refine lv_istore_n (lv' := [(2, .int (x93_2 ||| ((1 : Int32) <<< ((((w93_0.2 5) (w93_0.1 2).toNatClampNeg) - (48 : Int32)) &&& 31)))), (3, .int x93_3), (1, .int (((v.2 5) (v.1 2).toNatClampNeg) - (48 : Int32))), (0, .ref (q 0))]) hx hb dX6_readsRow_128 rfl hl (by decide) rfl (fun ls hl => ?_)
                refine lv_aload_n hx hb dX6_readsRow_129 rfl (lv_at hl 3 rfl) ?_
                refine va_get (D := g.1) (ci := 6) (v := .ref (q 6)) (C := RX6) (T := TX6) (N := 12) hx hb hts (zin_X6_readsRow_X6) hown hK hP 0 rfl rfl 6 (by decide) (hts (.fieldLink RX6 25 "PegClerksModel" "text" "[I") (by decide +kernel)) (fun _ h9 => h9) rfl dX6_readsRow_130 ?_
                refine lv_aload_n hx hb dX6_readsRow_133 rfl (lv_at hl 3 rfl) ?_
                refine va_get (D := g.1) (ci := 6) (v := .int (w93_0.1 2)) (C := RX6) (T := TX6) (N := 12) hx hb hts (zin_X6_readsRow_X6) hown hK hP 0 rfl rfl 8 (by decide) (hts (.fieldLink RX6 147 "PegClerksModel" "spot" "I") (by decide +kernel)) (fun _ h9 => h9) rfl dX6_readsRow_134 ?_
                refine z_iald (f := (w93_0.2 5)) (k := (w93_0.1 2).toNatClampNeg) hx hb hK hP 6 0 rfl rfl (zhere hs ht c_109) rfl dX6_readsRow_137 ?_
                refine lv_bipush (v := (48 : Int32)) hx hb dX6_readsRow_138 (by decide) ?_
                refine lv_isub hx hb dX6_readsRow_140 ?_
                refine lv_iconst (v := (1 : Int32)) hx hb dX6_readsRow_141 (by decide) ?_
                refine lv_iadd hx hb dX6_readsRow_142 ?_
                refine lv_istore_n (lv' := [(3, .int ((((w93_0.2 5) (w93_0.1 2).toNatClampNeg) - (48 : Int32)) + (1 : Int32))), (2, .int (x93_2 ||| ((1 : Int32) <<< ((((w93_0.2 5) (w93_0.1 2).toNatClampNeg) - (48 : Int32)) &&& 31)))), (1, .int (((v.2 5) (v.1 2).toNatClampNeg) - (48 : Int32))), (0, .ref (q 0))]) hx hb dX6_readsRow_143 rfl hl (by decide) rfl (fun ls hl => ?_)
                refine lv_aload_n hx hb dX6_readsRow_144 rfl (lv_at hl 3 rfl) ?_
                refine lv_dup hx hb dX6_readsRow_145 rfl ?_
                refine va_get (D := g.1) (ci := 6) (v := .int (w93_0.1 2)) (C := RX6) (T := TX6) (N := 12) hx hb hts (zin_X6_readsRow_X6) hown hK hP 0 rfl rfl 8 (by decide) (hts (.fieldLink RX6 147 "PegClerksModel" "spot" "I") (by decide +kernel)) (fun _ h9 => h9) rfl dX6_readsRow_146 ?_
                refine lv_iconst (v := (1 : Int32)) hx hb dX6_readsRow_149 (by decide) ?_
                refine lv_iadd hx hb dX6_readsRow_150 ?_
                refine va_put (D := g.1) (ci := 6) (v := .int ((w93_0.1 2) + (1 : Int32))) (ty := .int) (C := RX6) (T := TX6) (N := 12) hx hb hts (zin_X6_readsRow_X6) tyX6 tyX6_ok nmX6 hown hK hP hD hS 0 rfl rfl 8 (by decide) (hts (.fieldLink RX6 147 "PegClerksModel" "spot" "I") (by decide +kernel)) (fun _ h9 => h9) rfl (by decide +kernel) rfl rfl (Nat.le_of_ble_eq_true rfl) dX6_readsRow_151 (fun H locs hP hD hS => ?_)
                have hP : va_P g.1 vwCl (mo g q (s_X6_readsRow_151 w93_0)) H := (congrArg (fun z => va_P g.1 vwCl z H) (mo_S2 g q w93_0 ((w93_0.1 2) + (1 : Int32)))).mp hP
                have hD : va_D A (mo g q (s_X6_readsRow_151 w93_0)) := (congrArg (fun z => va_D A z) (mo_S2 g q w93_0 ((w93_0.1 2) + (1 : Int32)))).mp hD
                refine lv_goto (tgt := 93) hx hb dX6_readsRow_154 (by decide) ?_
                have E : (f_X6_readsRow_L93 (n93 + 1) x93_2 x93_3 w93_0) = (f_X6_readsRow_L93 n93 (x93_2 ||| ((1 : Int32) <<< ((((w93_0.2 5) (w93_0.1 2).toNatClampNeg) - (48 : Int32)) &&& 31))) ((((w93_0.2 5) (w93_0.1 2).toNatClampNeg) - (48 : Int32)) + (1 : Int32)) (s_X6_readsRow_151 w93_0)) := (if_neg c_96).trans ((if_neg c_109).trans rfl)
                rw [E] at kx
                exact ih93 (x93_2 ||| ((1 : Int32) <<< ((((w93_0.2 5) (w93_0.1 2).toNatClampNeg) - (48 : Int32)) &&& 31))) ((((w93_0.2 5) (w93_0.1 2).toNatClampNeg) - (48 : Int32)) + (1 : Int32)) (s_X6_readsRow_151 w93_0) _ _ _ (zspot1 (zhere hs ht c_109)) ht (zleast hl7 c_109).1 (by have := (zleast hl7 c_109).2; omega) hP hD hS (lv_sub hl [0, 1, 2, 3] rfl) kx
        refine L93 (zfu 7) (0 : Int32) (0 : Int32) (r_X6_readsRow_81 v).2 _ _ _ (zspot_take (zspot1 (zhere hs ht c_8)) ht) (zht_take (u := (s_X6_readsRow_33 v)) ht) (zlit _ 7 (by decide +kernel)) (by rw [zfu_eq]; omega) hP hD hS (lv_sub hl [0, 1, 2, 3] rfl) (fun H locs ls hP hD hS hl => ?_)
        refine lv_aload_n hx hb dX6_readsRow_157 rfl (lv_at hl 3 rfl) ?_
        refine va_get (D := g.1) (ci := 6) (v := .ref (q 7)) (C := RX6) (T := TX6) (N := 12) hx hb hts (zin_X6_readsRow_X6) hown hK hP 0 rfl rfl 9 (by decide) (hts (.fieldLink RX6 28 "PegClerksModel" "toldRows" "[I") (by decide +kernel)) (fun _ h9 => h9) rfl dX6_readsRow_158 ?_
        refine lv_aload_n hx hb dX6_readsRow_161 rfl (lv_at hl 3 rfl) ?_
        refine va_get (D := g.1) (ci := 6) (v := .int ((f_X6_readsRow_L93 (zfu 7) (0 : Int32) (0 : Int32) (r_X6_readsRow_81 v).2).2.2.1 3)) (C := RX6) (T := TX6) (N := 12) hx hb hts (zin_X6_readsRow_X6) hown hK hP 0 rfl rfl 11 (by decide) (hts (.fieldLink RX6 156 "PegClerksModel" "told" "I") (by decide +kernel)) (fun _ h9 => h9) rfl dX6_readsRow_162 ?_
        refine lv_iload_n hx hb dX6_readsRow_165 rfl (lv_at hl 2 rfl) ?_
        refine z_iast (f := ((f_X6_readsRow_L93 (zfu 7) (0 : Int32) (0 : Int32) (r_X6_readsRow_81 v).2).2.2.2 6)) (k := ((f_X6_readsRow_L93 (zfu 7) (0 : Int32) (0 : Int32) (r_X6_readsRow_81 v).2).2.2.1 3).toNatClampNeg) hx hb hK hP hD hS 7 0 rfl rfl (zrr_hd (u := (s_X6_readsRow_33 v)) hd (zspot1 (zhere hs ht c_8)) ht) rfl dX6_readsRow_166 (fun H locs hP hD hS => ?_)
        have hP : va_P g.1 vwCl (mo g q (s_X6_readsRow_166 v)) H := (congrArg (fun z => va_P g.1 vwCl z H) (mo_A6 g q (f_X6_readsRow_L93 (zfu 7) (0 : Int32) (0 : Int32) (r_X6_readsRow_81 v).2).2.2 (upd ((f_X6_readsRow_L93 (zfu 7) (0 : Int32) (0 : Int32) (r_X6_readsRow_81 v).2).2.2.2 6) ((f_X6_readsRow_L93 (zfu 7) (0 : Int32) (0 : Int32) (r_X6_readsRow_81 v).2).2.2.1 3).toNatClampNeg (((v.2 5) (v.1 2).toNatClampNeg) - (48 : Int32))))).mp hP
        have hD : va_D A (mo g q (s_X6_readsRow_166 v)) := (congrArg (fun z => va_D A z) (mo_A6 g q (f_X6_readsRow_L93 (zfu 7) (0 : Int32) (0 : Int32) (r_X6_readsRow_81 v).2).2.2 (upd ((f_X6_readsRow_L93 (zfu 7) (0 : Int32) (0 : Int32) (r_X6_readsRow_81 v).2).2.2.2 6) ((f_X6_readsRow_L93 (zfu 7) (0 : Int32) (0 : Int32) (r_X6_readsRow_81 v).2).2.2.1 3).toNatClampNeg (((v.2 5) (v.1 2).toNatClampNeg) - (48 : Int32))))).mp hD
        refine lv_aload_n hx hb dX6_readsRow_167 rfl (lv_at hl 3 rfl) ?_
        refine va_get (D := g.1) (ci := 6) (v := .ref (q 8)) (C := RX6) (T := TX6) (N := 12) hx hb hts (zin_X6_readsRow_X6) hown hK hP 0 rfl rfl 10 (by decide) (hts (.fieldLink RX6 31 "PegClerksModel" "toldSets" "[I") (by decide +kernel)) (fun _ h9 => h9) rfl dX6_readsRow_168 ?_
        refine lv_aload_n hx hb dX6_readsRow_171 rfl (lv_at hl 3 rfl) ?_
        refine va_get (D := g.1) (ci := 6) (v := .int ((s_X6_readsRow_166 v).1 3)) (C := RX6) (T := TX6) (N := 12) hx hb hts (zin_X6_readsRow_X6) hown hK hP 0 rfl rfl 11 (by decide) (hts (.fieldLink RX6 156 "PegClerksModel" "told" "I") (by decide +kernel)) (fun _ h9 => h9) rfl dX6_readsRow_172 ?_
        refine lv_iload_n hx hb dX6_readsRow_175 rfl (lv_at hl 1 rfl) ?_
        refine z_iast (f := ((s_X6_readsRow_166 v).2 7)) (k := ((s_X6_readsRow_166 v).1 3).toNatClampNeg) hx hb hK hP hD hS 8 0 rfl rfl (zrr_hd (u := (s_X6_readsRow_33 v)) hd (zspot1 (zhere hs ht c_8)) ht) rfl dX6_readsRow_176 (fun H locs hP hD hS => ?_)
        have hP : va_P g.1 vwCl (mo g q (s_X6_readsRow_176 v)) H := (congrArg (fun z => va_P g.1 vwCl z H) (mo_A7 g q (s_X6_readsRow_166 v) (upd ((s_X6_readsRow_166 v).2 7) ((s_X6_readsRow_166 v).1 3).toNatClampNeg (f_X6_readsRow_L93 (zfu 7) (0 : Int32) (0 : Int32) (r_X6_readsRow_81 v).2).1))).mp hP
        have hD : va_D A (mo g q (s_X6_readsRow_176 v)) := (congrArg (fun z => va_D A z) (mo_A7 g q (s_X6_readsRow_166 v) (upd ((s_X6_readsRow_166 v).2 7) ((s_X6_readsRow_166 v).1 3).toNatClampNeg (f_X6_readsRow_L93 (zfu 7) (0 : Int32) (0 : Int32) (r_X6_readsRow_81 v).2).1))).mp hD
        refine lv_aload_n hx hb dX6_readsRow_177 rfl (lv_at hl 3 rfl) ?_
        refine lv_dup hx hb dX6_readsRow_178 rfl ?_
        refine va_get (D := g.1) (ci := 6) (v := .int ((s_X6_readsRow_176 v).1 3)) (C := RX6) (T := TX6) (N := 12) hx hb hts (zin_X6_readsRow_X6) hown hK hP 0 rfl rfl 11 (by decide) (hts (.fieldLink RX6 156 "PegClerksModel" "told" "I") (by decide +kernel)) (fun _ h9 => h9) rfl dX6_readsRow_179 ?_
        refine lv_iconst (v := (1 : Int32)) hx hb dX6_readsRow_182 (by decide) ?_
        refine lv_iadd hx hb dX6_readsRow_183 ?_
        refine va_put (D := g.1) (ci := 6) (v := .int (((s_X6_readsRow_176 v).1 3) + (1 : Int32))) (ty := .int) (C := RX6) (T := TX6) (N := 12) hx hb hts (zin_X6_readsRow_X6) tyX6 tyX6_ok nmX6 hown hK hP hD hS 0 rfl rfl 11 (by decide) (hts (.fieldLink RX6 156 "PegClerksModel" "told" "I") (by decide +kernel)) (fun _ h9 => h9) rfl (by decide +kernel) rfl rfl (Nat.le_of_ble_eq_true rfl) dX6_readsRow_184 (fun H locs hP hD hS => ?_)
        have hP : va_P g.1 vwCl (mo g q (s_X6_readsRow_184 v)) H := (congrArg (fun z => va_P g.1 vwCl z H) (mo_S3 g q (s_X6_readsRow_176 v) (((s_X6_readsRow_176 v).1 3) + (1 : Int32)))).mp hP
        have hD : va_D A (mo g q (s_X6_readsRow_184 v)) := (congrArg (fun z => va_D A z) (mo_S3 g q (s_X6_readsRow_176 v) (((s_X6_readsRow_176 v).1 3) + (1 : Int32)))).mp hD
        refine lv_iconst (v := (1 : Int32)) hx hb dX6_readsRow_187 (by decide) ?_
        have E : (f_X6_readsRow v) = ((1 : Int32), (s_X6_readsRow_184 v)) := (if_neg c_8).trans ((if_neg c_38).trans ((if_neg c_84).trans rfl))
        have e1 : (1 : Int32) = (f_X6_readsRow v).1 := by rw [E]
        have e2 : (mo g q (s_X6_readsRow_184 v)) = (mo g q (f_X6_readsRow v).2) := by rw [E]
        exact hret (1 : Int32) (mo g q (s_X6_readsRow_184 v)) _ _ _ _ dX6_readsRow_188 e1 (rfl) e2 hP hD hS
      · refine lv_iconst (v := (0 : Int32)) hx hb dX6_readsRow_87 (by decide) ?_
        have E : (f_X6_readsRow v) = ((0 : Int32), (r_X6_readsRow_81 v).2) := (if_neg c_8).trans ((if_neg c_38).trans ((if_pos c_84).trans rfl))
        have e1 : (0 : Int32) = (f_X6_readsRow v).1 := by rw [E]
        have e2 : (mo g q (r_X6_readsRow_81 v).2) = (mo g q (f_X6_readsRow v).2) := by rw [E]
        exact hret (0 : Int32) (mo g q (r_X6_readsRow_81 v).2) _ _ _ _ dX6_readsRow_88 e1 (rfl) e2 hP hD hS
    · refine lv_aload_n hx hb dX6_readsRow_41 rfl (lv_at hl 1 rfl) ?_
      refine lv_bipush (v := (48 : Int32)) hx hb dX6_readsRow_42 (by decide) ?_
      refine lv_bipush (v := (53 : Int32)) hx hb dX6_readsRow_44 (by decide) ?_
      refine zcVi (n := 2) (As := [.int (48 : Int32), .int (53 : Int32)]) (rest := []) (Xr := []) (Xn := (mo g q (s_X6_readsRow_33 v))) (ci := 6) (C := RX6) (T := TX6) (N := 12) (q0 := 0) hx hb hml hown hts hN (m_X6_isHere l g q (s_X6_readsRow_33 v) (48 : Int32) (53 : Int32) (zspot1 (zhere hs ht c_8)) ht) gX6_readsRow_X6_isHere rfl (by decide +kernel) ⟨rfl, rfl⟩ ⟨Nat.le_of_ble_eq_true rfl, Nat.le_of_ble_eq_true rfl⟩ hK hP hD hS hA (zpn _) rfl rfl rfl hl.1 rfl (Nat.le_of_ble_eq_true rfl) dX6_readsRow_46 ⟨Nat.zero_le _, Nat.zero_le _⟩ (zpn' _) (fun H locs hP hD hS => ?_)
      refine lv_if_eq (tgt := 78) hx hb dX6_readsRow_49 (by decide) (fun c_49 => ?_) (fun c_49 => ?_)
      · refine lv_aload_n hx hb dX6_readsRow_78 rfl (lv_at hl 1 rfl) ?_
        refine lv_bipush (v := (58 : Int32)) hx hb dX6_readsRow_79 (by decide) ?_
        refine zcVi (n := 1) (As := [.int (58 : Int32)]) (rest := []) (Xr := []) (Xn := (mo g q (r_X6_readsRow_81 v).2)) (ci := 6) (C := RX6) (T := TX6) (N := 12) (q0 := 0) hx hb hml hown hts hN (m_X6_takesOne l g q (s_X6_readsRow_33 v) (58 : Int32) (zspot1 (zhere hs ht c_8)) ht) gX6_readsRow_X6_takesOne rfl (by decide +kernel) ⟨rfl, rfl⟩ ⟨Nat.le_of_ble_eq_true rfl, Nat.le_of_ble_eq_true rfl⟩ hK hP hD hS hA (zpn _) rfl rfl rfl hl.1 rfl (Nat.le_of_ble_eq_true rfl) dX6_readsRow_81 ⟨Nat.zero_le _, Nat.zero_le _⟩ (zpn' _) (fun H locs hP hD hS => ?_)
        refine lv_if_ne (tgt := 89) hx hb dX6_readsRow_84 (by decide) (fun c_84 => ?_) (fun c_84 => ?_)
        · refine lv_iconst (v := (0 : Int32)) hx hb dX6_readsRow_89 (by decide) ?_
          refine lv_istore_n (lv' := [(2, .int (0 : Int32)), (1, .int (((v.2 5) (v.1 2).toNatClampNeg) - (48 : Int32))), (0, .ref (q 0))]) hx hb dX6_readsRow_90 rfl hl (by decide) rfl (fun ls hl => ?_)
          refine lv_iconst (v := (0 : Int32)) hx hb dX6_readsRow_91 (by decide) ?_
          refine lv_istore_n (lv' := [(3, .int (0 : Int32)), (2, .int (0 : Int32)), (1, .int (((v.2 5) (v.1 2).toNatClampNeg) - (48 : Int32))), (0, .ref (q 0))]) hx hb dX6_readsRow_92 rfl hl (by decide) rfl (fun ls hl => ?_)
          have L93 : ∀ (n93 : Nat) (x93_2 : Int32) (x93_3 : Int32) (w93_0 : zCV) (H : Heap) (locs : List Loc) (ls : Array Slot), vp_in (w93_0.1 2) 61 → vp_in (w93_0.1 1) 61 → vp_in x93_3 7 → 7 ≤ n93 + x93_3.toNatClampNeg → va_P g.1 vwCl (mo g q w93_0) H → va_D A (mo g q w93_0) → va_S A s.heap H locs → lv_has ls 4 [(3, .int x93_3), (2, .int x93_2), (1, .int (((v.2 5) (v.1 2).toNatClampNeg) - (48 : Int32))), (0, .ref (q 0))] → (∀ (H : Heap) (locs : List Loc) (ls : Array Slot), va_P g.1 vwCl (mo g q (f_X6_readsRow_L93 n93 x93_2 x93_3 w93_0).2.2) H → va_D A (mo g q (f_X6_readsRow_L93 n93 x93_2 x93_3 w93_0).2.2) → va_S A s.heap H locs → lv_has ls 4 [(3, .int (f_X6_readsRow_L93 n93 x93_2 x93_3 w93_0).2.1), (2, .int (f_X6_readsRow_L93 n93 x93_2 x93_3 w93_0).1), (1, .int (((v.2 5) (v.1 2).toNatClampNeg) - (48 : Int32))), (0, .ref (q 0))] → W p l e rm_X6_readsRow s m ([.ref (q 0)] : List Value).toArray below meth c H locs 0 0 Q (F0 m 157 ls [])) → W p l e rm_X6_readsRow s m ([.ref (q 0)] : List Value).toArray below meth c H locs 0 0 Q (F0 m 93 ls []) := by
            intro n93
            induction n93 with
            | zero =>
              intro x93_2 x93_3 w93_0 H locs ls hs ht hl7 hfu hP hD hS hl kx
              exact absurd hfu (by have h7 := vp_in_iff.mp hl7; have h8 := zclamp x93_3; omega)
            | succ n93 ih93 =>
              intro x93_2 x93_3 w93_0 H locs ls hs ht hl7 hfu hP hD hS hl kx
              refine lv_iload_n hx hb dX6_readsRow_93 rfl (lv_at hl 0 rfl) ?_
              refine lv_bipush (v := (6 : Int32)) hx hb dX6_readsRow_94 (by decide) ?_
              refine lv_icmp_ge (tgt := 157) hx hb dX6_readsRow_96 (by decide) (fun c_96 => ?_) (fun c_96 => ?_)
              · have E : (f_X6_readsRow_L93 (n93 + 1) x93_2 x93_3 w93_0) = (x93_2, x93_3, w93_0) := (if_pos c_96).trans rfl
                rw [E] at kx
                exact kx _ _ _ hP hD hS (lv_sub hl [0, 1, 2, 3] rfl)
              · refine lv_aload_n hx hb dX6_readsRow_99 rfl (lv_at hl 3 rfl) ?_
                refine lv_bipush (v := (48 : Int32)) hx hb dX6_readsRow_100 (by decide) ?_
                refine lv_iload_n hx hb dX6_readsRow_102 rfl (lv_at hl 0 rfl) ?_
                refine lv_iadd hx hb dX6_readsRow_103 ?_
                refine lv_bipush (v := (53 : Int32)) hx hb dX6_readsRow_104 (by decide) ?_
                refine zcVi (n := 2) (As := [.int ((48 : Int32) + x93_3), .int (53 : Int32)]) (rest := []) (Xr := []) (Xn := (mo g q w93_0)) (ci := 6) (C := RX6) (T := TX6) (N := 12) (q0 := 0) hx hb hml hown hts hN (m_X6_isHere l g q w93_0 ((48 : Int32) + x93_3) (53 : Int32) hs ht) gX6_readsRow_X6_isHere rfl (by decide +kernel) ⟨rfl, rfl⟩ ⟨Nat.le_of_ble_eq_true rfl, Nat.le_of_ble_eq_true rfl⟩ hK hP hD hS hA (zpn _) rfl rfl rfl hl.1 rfl (Nat.le_of_ble_eq_true rfl) dX6_readsRow_106 ⟨Nat.zero_le _, Nat.zero_le _⟩ (zpn' _) (fun H locs hP hD hS => ?_)
                refine lv_if_eq (tgt := 157) hx hb dX6_readsRow_109 (by decide) (fun c_109 => ?_) (fun c_109 => ?_)
                · have E : (f_X6_readsRow_L93 (n93 + 1) x93_2 x93_3 w93_0) = (x93_2, x93_3, w93_0) := (if_neg c_96).trans ((if_pos c_109).trans rfl)
                  rw [E] at kx
                  exact kx _ _ _ hP hD hS (lv_sub hl [0, 1, 2, 3] rfl)
                · refine lv_iload_n hx hb dX6_readsRow_112 rfl (lv_at hl 1 rfl) ?_
                  refine lv_iconst (v := (1 : Int32)) hx hb dX6_readsRow_113 (by decide) ?_
                  refine lv_aload_n hx hb dX6_readsRow_114 rfl (lv_at hl 3 rfl) ?_
                  refine va_get (D := g.1) (ci := 6) (v := .ref (q 6)) (C := RX6) (T := TX6) (N := 12) hx hb hts (zin_X6_readsRow_X6) hown hK hP 0 rfl rfl 6 (by decide) (hts (.fieldLink RX6 25 "PegClerksModel" "text" "[I") (by decide +kernel)) (fun _ h9 => h9) rfl dX6_readsRow_115 ?_
                  refine lv_aload_n hx hb dX6_readsRow_118 rfl (lv_at hl 3 rfl) ?_
                  refine va_get (D := g.1) (ci := 6) (v := .int (w93_0.1 2)) (C := RX6) (T := TX6) (N := 12) hx hb hts (zin_X6_readsRow_X6) hown hK hP 0 rfl rfl 8 (by decide) (hts (.fieldLink RX6 147 "PegClerksModel" "spot" "I") (by decide +kernel)) (fun _ h9 => h9) rfl dX6_readsRow_119 ?_
                  refine z_iald (f := (w93_0.2 5)) (k := (w93_0.1 2).toNatClampNeg) hx hb hK hP 6 0 rfl rfl (zhere hs ht c_109) rfl dX6_readsRow_122 ?_
                  refine lv_bipush (v := (48 : Int32)) hx hb dX6_readsRow_123 (by decide) ?_
                  refine lv_isub hx hb dX6_readsRow_125 ?_
                  refine lv_ishl hx hb dX6_readsRow_126 ?_
                  refine lv_ior hx hb dX6_readsRow_127 ?_
                  refine lv_istore_n (lv' := [(2, .int (x93_2 ||| ((1 : Int32) <<< ((((w93_0.2 5) (w93_0.1 2).toNatClampNeg) - (48 : Int32)) &&& 31)))), (3, .int x93_3), (1, .int (((v.2 5) (v.1 2).toNatClampNeg) - (48 : Int32))), (0, .ref (q 0))]) hx hb dX6_readsRow_128 rfl hl (by decide) rfl (fun ls hl => ?_)
                  refine lv_aload_n hx hb dX6_readsRow_129 rfl (lv_at hl 3 rfl) ?_
                  refine va_get (D := g.1) (ci := 6) (v := .ref (q 6)) (C := RX6) (T := TX6) (N := 12) hx hb hts (zin_X6_readsRow_X6) hown hK hP 0 rfl rfl 6 (by decide) (hts (.fieldLink RX6 25 "PegClerksModel" "text" "[I") (by decide +kernel)) (fun _ h9 => h9) rfl dX6_readsRow_130 ?_
                  refine lv_aload_n hx hb dX6_readsRow_133 rfl (lv_at hl 3 rfl) ?_
                  refine va_get (D := g.1) (ci := 6) (v := .int (w93_0.1 2)) (C := RX6) (T := TX6) (N := 12) hx hb hts (zin_X6_readsRow_X6) hown hK hP 0 rfl rfl 8 (by decide) (hts (.fieldLink RX6 147 "PegClerksModel" "spot" "I") (by decide +kernel)) (fun _ h9 => h9) rfl dX6_readsRow_134 ?_
                  refine z_iald (f := (w93_0.2 5)) (k := (w93_0.1 2).toNatClampNeg) hx hb hK hP 6 0 rfl rfl (zhere hs ht c_109) rfl dX6_readsRow_137 ?_
                  refine lv_bipush (v := (48 : Int32)) hx hb dX6_readsRow_138 (by decide) ?_
                  refine lv_isub hx hb dX6_readsRow_140 ?_
                  refine lv_iconst (v := (1 : Int32)) hx hb dX6_readsRow_141 (by decide) ?_
                  refine lv_iadd hx hb dX6_readsRow_142 ?_
                  refine lv_istore_n (lv' := [(3, .int ((((w93_0.2 5) (w93_0.1 2).toNatClampNeg) - (48 : Int32)) + (1 : Int32))), (2, .int (x93_2 ||| ((1 : Int32) <<< ((((w93_0.2 5) (w93_0.1 2).toNatClampNeg) - (48 : Int32)) &&& 31)))), (1, .int (((v.2 5) (v.1 2).toNatClampNeg) - (48 : Int32))), (0, .ref (q 0))]) hx hb dX6_readsRow_143 rfl hl (by decide) rfl (fun ls hl => ?_)
                  refine lv_aload_n hx hb dX6_readsRow_144 rfl (lv_at hl 3 rfl) ?_
                  refine lv_dup hx hb dX6_readsRow_145 rfl ?_
                  refine va_get (D := g.1) (ci := 6) (v := .int (w93_0.1 2)) (C := RX6) (T := TX6) (N := 12) hx hb hts (zin_X6_readsRow_X6) hown hK hP 0 rfl rfl 8 (by decide) (hts (.fieldLink RX6 147 "PegClerksModel" "spot" "I") (by decide +kernel)) (fun _ h9 => h9) rfl dX6_readsRow_146 ?_
                  refine lv_iconst (v := (1 : Int32)) hx hb dX6_readsRow_149 (by decide) ?_
                  refine lv_iadd hx hb dX6_readsRow_150 ?_
                  refine va_put (D := g.1) (ci := 6) (v := .int ((w93_0.1 2) + (1 : Int32))) (ty := .int) (C := RX6) (T := TX6) (N := 12) hx hb hts (zin_X6_readsRow_X6) tyX6 tyX6_ok nmX6 hown hK hP hD hS 0 rfl rfl 8 (by decide) (hts (.fieldLink RX6 147 "PegClerksModel" "spot" "I") (by decide +kernel)) (fun _ h9 => h9) rfl (by decide +kernel) rfl rfl (Nat.le_of_ble_eq_true rfl) dX6_readsRow_151 (fun H locs hP hD hS => ?_)
                  have hP : va_P g.1 vwCl (mo g q (s_X6_readsRow_151 w93_0)) H := (congrArg (fun z => va_P g.1 vwCl z H) (mo_S2 g q w93_0 ((w93_0.1 2) + (1 : Int32)))).mp hP
                  have hD : va_D A (mo g q (s_X6_readsRow_151 w93_0)) := (congrArg (fun z => va_D A z) (mo_S2 g q w93_0 ((w93_0.1 2) + (1 : Int32)))).mp hD
                  refine lv_goto (tgt := 93) hx hb dX6_readsRow_154 (by decide) ?_
                  have E : (f_X6_readsRow_L93 (n93 + 1) x93_2 x93_3 w93_0) = (f_X6_readsRow_L93 n93 (x93_2 ||| ((1 : Int32) <<< ((((w93_0.2 5) (w93_0.1 2).toNatClampNeg) - (48 : Int32)) &&& 31))) ((((w93_0.2 5) (w93_0.1 2).toNatClampNeg) - (48 : Int32)) + (1 : Int32)) (s_X6_readsRow_151 w93_0)) := (if_neg c_96).trans ((if_neg c_109).trans rfl)
                  rw [E] at kx
                  exact ih93 (x93_2 ||| ((1 : Int32) <<< ((((w93_0.2 5) (w93_0.1 2).toNatClampNeg) - (48 : Int32)) &&& 31))) ((((w93_0.2 5) (w93_0.1 2).toNatClampNeg) - (48 : Int32)) + (1 : Int32)) (s_X6_readsRow_151 w93_0) _ _ _ (zspot1 (zhere hs ht c_109)) ht (zleast hl7 c_109).1 (by have := (zleast hl7 c_109).2; omega) hP hD hS (lv_sub hl [0, 1, 2, 3] rfl) kx
          refine L93 (zfu 7) (0 : Int32) (0 : Int32) (r_X6_readsRow_81 v).2 _ _ _ (zspot_take (zspot1 (zhere hs ht c_8)) ht) (zht_take (u := (s_X6_readsRow_33 v)) ht) (zlit _ 7 (by decide +kernel)) (by rw [zfu_eq]; omega) hP hD hS (lv_sub hl [0, 1, 2, 3] rfl) (fun H locs ls hP hD hS hl => ?_)
          refine lv_aload_n hx hb dX6_readsRow_157 rfl (lv_at hl 3 rfl) ?_
          refine va_get (D := g.1) (ci := 6) (v := .ref (q 7)) (C := RX6) (T := TX6) (N := 12) hx hb hts (zin_X6_readsRow_X6) hown hK hP 0 rfl rfl 9 (by decide) (hts (.fieldLink RX6 28 "PegClerksModel" "toldRows" "[I") (by decide +kernel)) (fun _ h9 => h9) rfl dX6_readsRow_158 ?_
          refine lv_aload_n hx hb dX6_readsRow_161 rfl (lv_at hl 3 rfl) ?_
          refine va_get (D := g.1) (ci := 6) (v := .int ((f_X6_readsRow_L93 (zfu 7) (0 : Int32) (0 : Int32) (r_X6_readsRow_81 v).2).2.2.1 3)) (C := RX6) (T := TX6) (N := 12) hx hb hts (zin_X6_readsRow_X6) hown hK hP 0 rfl rfl 11 (by decide) (hts (.fieldLink RX6 156 "PegClerksModel" "told" "I") (by decide +kernel)) (fun _ h9 => h9) rfl dX6_readsRow_162 ?_
          refine lv_iload_n hx hb dX6_readsRow_165 rfl (lv_at hl 2 rfl) ?_
          refine z_iast (f := ((f_X6_readsRow_L93 (zfu 7) (0 : Int32) (0 : Int32) (r_X6_readsRow_81 v).2).2.2.2 6)) (k := ((f_X6_readsRow_L93 (zfu 7) (0 : Int32) (0 : Int32) (r_X6_readsRow_81 v).2).2.2.1 3).toNatClampNeg) hx hb hK hP hD hS 7 0 rfl rfl (zrr_hd (u := (s_X6_readsRow_33 v)) hd (zspot1 (zhere hs ht c_8)) ht) rfl dX6_readsRow_166 (fun H locs hP hD hS => ?_)
          have hP : va_P g.1 vwCl (mo g q (s_X6_readsRow_166 v)) H := (congrArg (fun z => va_P g.1 vwCl z H) (mo_A6 g q (f_X6_readsRow_L93 (zfu 7) (0 : Int32) (0 : Int32) (r_X6_readsRow_81 v).2).2.2 (upd ((f_X6_readsRow_L93 (zfu 7) (0 : Int32) (0 : Int32) (r_X6_readsRow_81 v).2).2.2.2 6) ((f_X6_readsRow_L93 (zfu 7) (0 : Int32) (0 : Int32) (r_X6_readsRow_81 v).2).2.2.1 3).toNatClampNeg (((v.2 5) (v.1 2).toNatClampNeg) - (48 : Int32))))).mp hP
          have hD : va_D A (mo g q (s_X6_readsRow_166 v)) := (congrArg (fun z => va_D A z) (mo_A6 g q (f_X6_readsRow_L93 (zfu 7) (0 : Int32) (0 : Int32) (r_X6_readsRow_81 v).2).2.2 (upd ((f_X6_readsRow_L93 (zfu 7) (0 : Int32) (0 : Int32) (r_X6_readsRow_81 v).2).2.2.2 6) ((f_X6_readsRow_L93 (zfu 7) (0 : Int32) (0 : Int32) (r_X6_readsRow_81 v).2).2.2.1 3).toNatClampNeg (((v.2 5) (v.1 2).toNatClampNeg) - (48 : Int32))))).mp hD
          refine lv_aload_n hx hb dX6_readsRow_167 rfl (lv_at hl 3 rfl) ?_
          refine va_get (D := g.1) (ci := 6) (v := .ref (q 8)) (C := RX6) (T := TX6) (N := 12) hx hb hts (zin_X6_readsRow_X6) hown hK hP 0 rfl rfl 10 (by decide) (hts (.fieldLink RX6 31 "PegClerksModel" "toldSets" "[I") (by decide +kernel)) (fun _ h9 => h9) rfl dX6_readsRow_168 ?_
          refine lv_aload_n hx hb dX6_readsRow_171 rfl (lv_at hl 3 rfl) ?_
          refine va_get (D := g.1) (ci := 6) (v := .int ((s_X6_readsRow_166 v).1 3)) (C := RX6) (T := TX6) (N := 12) hx hb hts (zin_X6_readsRow_X6) hown hK hP 0 rfl rfl 11 (by decide) (hts (.fieldLink RX6 156 "PegClerksModel" "told" "I") (by decide +kernel)) (fun _ h9 => h9) rfl dX6_readsRow_172 ?_
          refine lv_iload_n hx hb dX6_readsRow_175 rfl (lv_at hl 1 rfl) ?_
          refine z_iast (f := ((s_X6_readsRow_166 v).2 7)) (k := ((s_X6_readsRow_166 v).1 3).toNatClampNeg) hx hb hK hP hD hS 8 0 rfl rfl (zrr_hd (u := (s_X6_readsRow_33 v)) hd (zspot1 (zhere hs ht c_8)) ht) rfl dX6_readsRow_176 (fun H locs hP hD hS => ?_)
          have hP : va_P g.1 vwCl (mo g q (s_X6_readsRow_176 v)) H := (congrArg (fun z => va_P g.1 vwCl z H) (mo_A7 g q (s_X6_readsRow_166 v) (upd ((s_X6_readsRow_166 v).2 7) ((s_X6_readsRow_166 v).1 3).toNatClampNeg (f_X6_readsRow_L93 (zfu 7) (0 : Int32) (0 : Int32) (r_X6_readsRow_81 v).2).1))).mp hP
          have hD : va_D A (mo g q (s_X6_readsRow_176 v)) := (congrArg (fun z => va_D A z) (mo_A7 g q (s_X6_readsRow_166 v) (upd ((s_X6_readsRow_166 v).2 7) ((s_X6_readsRow_166 v).1 3).toNatClampNeg (f_X6_readsRow_L93 (zfu 7) (0 : Int32) (0 : Int32) (r_X6_readsRow_81 v).2).1))).mp hD
          refine lv_aload_n hx hb dX6_readsRow_177 rfl (lv_at hl 3 rfl) ?_
          refine lv_dup hx hb dX6_readsRow_178 rfl ?_
          refine va_get (D := g.1) (ci := 6) (v := .int ((s_X6_readsRow_176 v).1 3)) (C := RX6) (T := TX6) (N := 12) hx hb hts (zin_X6_readsRow_X6) hown hK hP 0 rfl rfl 11 (by decide) (hts (.fieldLink RX6 156 "PegClerksModel" "told" "I") (by decide +kernel)) (fun _ h9 => h9) rfl dX6_readsRow_179 ?_
          refine lv_iconst (v := (1 : Int32)) hx hb dX6_readsRow_182 (by decide) ?_
          refine lv_iadd hx hb dX6_readsRow_183 ?_
          refine va_put (D := g.1) (ci := 6) (v := .int (((s_X6_readsRow_176 v).1 3) + (1 : Int32))) (ty := .int) (C := RX6) (T := TX6) (N := 12) hx hb hts (zin_X6_readsRow_X6) tyX6 tyX6_ok nmX6 hown hK hP hD hS 0 rfl rfl 11 (by decide) (hts (.fieldLink RX6 156 "PegClerksModel" "told" "I") (by decide +kernel)) (fun _ h9 => h9) rfl (by decide +kernel) rfl rfl (Nat.le_of_ble_eq_true rfl) dX6_readsRow_184 (fun H locs hP hD hS => ?_)
          have hP : va_P g.1 vwCl (mo g q (s_X6_readsRow_184 v)) H := (congrArg (fun z => va_P g.1 vwCl z H) (mo_S3 g q (s_X6_readsRow_176 v) (((s_X6_readsRow_176 v).1 3) + (1 : Int32)))).mp hP
          have hD : va_D A (mo g q (s_X6_readsRow_184 v)) := (congrArg (fun z => va_D A z) (mo_S3 g q (s_X6_readsRow_176 v) (((s_X6_readsRow_176 v).1 3) + (1 : Int32)))).mp hD
          refine lv_iconst (v := (1 : Int32)) hx hb dX6_readsRow_187 (by decide) ?_
          have E : (f_X6_readsRow v) = ((1 : Int32), (s_X6_readsRow_184 v)) := (if_neg c_8).trans ((if_pos c_38).trans ((if_pos c_49).trans ((if_neg c_84).trans rfl)))
          have e1 : (1 : Int32) = (f_X6_readsRow v).1 := by rw [E]
          have e2 : (mo g q (s_X6_readsRow_184 v)) = (mo g q (f_X6_readsRow v).2) := by rw [E]
          exact hret (1 : Int32) (mo g q (s_X6_readsRow_184 v)) _ _ _ _ dX6_readsRow_188 e1 (rfl) e2 hP hD hS
        · refine lv_iconst (v := (0 : Int32)) hx hb dX6_readsRow_87 (by decide) ?_
          have E : (f_X6_readsRow v) = ((0 : Int32), (r_X6_readsRow_81 v).2) := (if_neg c_8).trans ((if_pos c_38).trans ((if_pos c_49).trans ((if_pos c_84).trans rfl)))
          have e1 : (0 : Int32) = (f_X6_readsRow v).1 := by rw [E]
          have e2 : (mo g q (r_X6_readsRow_81 v).2) = (mo g q (f_X6_readsRow v).2) := by rw [E]
          exact hret (0 : Int32) (mo g q (r_X6_readsRow_81 v).2) _ _ _ _ dX6_readsRow_88 e1 (rfl) e2 hP hD hS
      · refine lv_bipush (v := (10 : Int32)) hx hb dX6_readsRow_52 (by decide) ?_
        refine lv_aload_n hx hb dX6_readsRow_54 rfl (lv_at hl 1 rfl) ?_
        refine va_get (D := g.1) (ci := 6) (v := .ref (q 6)) (C := RX6) (T := TX6) (N := 12) hx hb hts (zin_X6_readsRow_X6) hown hK hP 0 rfl rfl 6 (by decide) (hts (.fieldLink RX6 25 "PegClerksModel" "text" "[I") (by decide +kernel)) (fun _ h9 => h9) rfl dX6_readsRow_55 ?_
        refine lv_aload_n hx hb dX6_readsRow_58 rfl (lv_at hl 1 rfl) ?_
        refine va_get (D := g.1) (ci := 6) (v := .int ((s_X6_readsRow_33 v).1 2)) (C := RX6) (T := TX6) (N := 12) hx hb hts (zin_X6_readsRow_X6) hown hK hP 0 rfl rfl 8 (by decide) (hts (.fieldLink RX6 147 "PegClerksModel" "spot" "I") (by decide +kernel)) (fun _ h9 => h9) rfl dX6_readsRow_59 ?_
        refine z_iald (f := ((s_X6_readsRow_33 v).2 5)) (k := ((s_X6_readsRow_33 v).1 2).toNatClampNeg) hx hb hK hP 6 0 rfl rfl (zhere (zspot1 (zhere hs ht c_8)) ht c_49) rfl dX6_readsRow_62 ?_
        refine lv_iadd hx hb dX6_readsRow_63 ?_
        refine lv_bipush (v := (48 : Int32)) hx hb dX6_readsRow_64 (by decide) ?_
        refine lv_isub hx hb dX6_readsRow_66 ?_
        refine lv_istore_n (lv' := [(1, .int (((10 : Int32) + (((s_X6_readsRow_33 v).2 5) ((s_X6_readsRow_33 v).1 2).toNatClampNeg)) - (48 : Int32))), (0, .ref (q 0))]) hx hb dX6_readsRow_67 rfl hl (by decide) rfl (fun ls hl => ?_)
        refine lv_aload_n hx hb dX6_readsRow_68 rfl (lv_at hl 1 rfl) ?_
        refine lv_dup hx hb dX6_readsRow_69 rfl ?_
        refine va_get (D := g.1) (ci := 6) (v := .int ((s_X6_readsRow_33 v).1 2)) (C := RX6) (T := TX6) (N := 12) hx hb hts (zin_X6_readsRow_X6) hown hK hP 0 rfl rfl 8 (by decide) (hts (.fieldLink RX6 147 "PegClerksModel" "spot" "I") (by decide +kernel)) (fun _ h9 => h9) rfl dX6_readsRow_70 ?_
        refine lv_iconst (v := (1 : Int32)) hx hb dX6_readsRow_73 (by decide) ?_
        refine lv_iadd hx hb dX6_readsRow_74 ?_
        refine va_put (D := g.1) (ci := 6) (v := .int (((s_X6_readsRow_33 v).1 2) + (1 : Int32))) (ty := .int) (C := RX6) (T := TX6) (N := 12) hx hb hts (zin_X6_readsRow_X6) tyX6 tyX6_ok nmX6 hown hK hP hD hS 0 rfl rfl 8 (by decide) (hts (.fieldLink RX6 147 "PegClerksModel" "spot" "I") (by decide +kernel)) (fun _ h9 => h9) rfl (by decide +kernel) rfl rfl (Nat.le_of_ble_eq_true rfl) dX6_readsRow_75 (fun H locs hP hD hS => ?_)
        have hP : va_P g.1 vwCl (mo g q (s_X6_readsRow_75 v)) H := (congrArg (fun z => va_P g.1 vwCl z H) (mo_S2 g q (s_X6_readsRow_33 v) (((s_X6_readsRow_33 v).1 2) + (1 : Int32)))).mp hP
        have hD : va_D A (mo g q (s_X6_readsRow_75 v)) := (congrArg (fun z => va_D A z) (mo_S2 g q (s_X6_readsRow_33 v) (((s_X6_readsRow_33 v).1 2) + (1 : Int32)))).mp hD
        refine lv_aload_n hx hb dX6_readsRow_78 rfl (lv_at hl 1 rfl) ?_
        refine lv_bipush (v := (58 : Int32)) hx hb dX6_readsRow_79 (by decide) ?_
        refine zcVi (n := 1) (As := [.int (58 : Int32)]) (rest := []) (Xr := []) (Xn := (mo g q (r_X6_readsRow_81_2 v).2)) (ci := 6) (C := RX6) (T := TX6) (N := 12) (q0 := 0) hx hb hml hown hts hN (m_X6_takesOne l g q (s_X6_readsRow_75 v) (58 : Int32) (zspot1 (zhere (zspot1 (zhere hs ht c_8)) ht c_49)) ht) gX6_readsRow_X6_takesOne rfl (by decide +kernel) ⟨rfl, rfl⟩ ⟨Nat.le_of_ble_eq_true rfl, Nat.le_of_ble_eq_true rfl⟩ hK hP hD hS hA (zpn _) rfl rfl rfl hl.1 rfl (Nat.le_of_ble_eq_true rfl) dX6_readsRow_81 ⟨Nat.zero_le _, Nat.zero_le _⟩ (zpn' _) (fun H locs hP hD hS => ?_)
        refine lv_if_ne (tgt := 89) hx hb dX6_readsRow_84 (by decide) (fun c_84 => ?_) (fun c_84 => ?_)
        · refine lv_iconst (v := (0 : Int32)) hx hb dX6_readsRow_89 (by decide) ?_
          refine lv_istore_n (lv' := [(2, .int (0 : Int32)), (1, .int (((10 : Int32) + (((s_X6_readsRow_33 v).2 5) ((s_X6_readsRow_33 v).1 2).toNatClampNeg)) - (48 : Int32))), (0, .ref (q 0))]) hx hb dX6_readsRow_90 rfl hl (by decide) rfl (fun ls hl => ?_)
          refine lv_iconst (v := (0 : Int32)) hx hb dX6_readsRow_91 (by decide) ?_
          refine lv_istore_n (lv' := [(3, .int (0 : Int32)), (2, .int (0 : Int32)), (1, .int (((10 : Int32) + (((s_X6_readsRow_33 v).2 5) ((s_X6_readsRow_33 v).1 2).toNatClampNeg)) - (48 : Int32))), (0, .ref (q 0))]) hx hb dX6_readsRow_92 rfl hl (by decide) rfl (fun ls hl => ?_)
          have L93 : ∀ (n93 : Nat) (x93_2 : Int32) (x93_3 : Int32) (w93_0 : zCV) (H : Heap) (locs : List Loc) (ls : Array Slot), vp_in (w93_0.1 2) 61 → vp_in (w93_0.1 1) 61 → vp_in x93_3 7 → 7 ≤ n93 + x93_3.toNatClampNeg → va_P g.1 vwCl (mo g q w93_0) H → va_D A (mo g q w93_0) → va_S A s.heap H locs → lv_has ls 4 [(3, .int x93_3), (2, .int x93_2), (1, .int (((10 : Int32) + (((s_X6_readsRow_33 v).2 5) ((s_X6_readsRow_33 v).1 2).toNatClampNeg)) - (48 : Int32))), (0, .ref (q 0))] → (∀ (H : Heap) (locs : List Loc) (ls : Array Slot), va_P g.1 vwCl (mo g q (f_X6_readsRow_L93 n93 x93_2 x93_3 w93_0).2.2) H → va_D A (mo g q (f_X6_readsRow_L93 n93 x93_2 x93_3 w93_0).2.2) → va_S A s.heap H locs → lv_has ls 4 [(3, .int (f_X6_readsRow_L93 n93 x93_2 x93_3 w93_0).2.1), (2, .int (f_X6_readsRow_L93 n93 x93_2 x93_3 w93_0).1), (1, .int (((10 : Int32) + (((s_X6_readsRow_33 v).2 5) ((s_X6_readsRow_33 v).1 2).toNatClampNeg)) - (48 : Int32))), (0, .ref (q 0))] → W p l e rm_X6_readsRow s m ([.ref (q 0)] : List Value).toArray below meth c H locs 0 0 Q (F0 m 157 ls [])) → W p l e rm_X6_readsRow s m ([.ref (q 0)] : List Value).toArray below meth c H locs 0 0 Q (F0 m 93 ls []) := by
            intro n93
            induction n93 with
            | zero =>
              intro x93_2 x93_3 w93_0 H locs ls hs ht hl7 hfu hP hD hS hl kx
              exact absurd hfu (by have h7 := vp_in_iff.mp hl7; have h8 := zclamp x93_3; omega)
            | succ n93 ih93 =>
              intro x93_2 x93_3 w93_0 H locs ls hs ht hl7 hfu hP hD hS hl kx
              refine lv_iload_n hx hb dX6_readsRow_93 rfl (lv_at hl 0 rfl) ?_
              refine lv_bipush (v := (6 : Int32)) hx hb dX6_readsRow_94 (by decide) ?_
              refine lv_icmp_ge (tgt := 157) hx hb dX6_readsRow_96 (by decide) (fun c_96 => ?_) (fun c_96 => ?_)
              · have E : (f_X6_readsRow_L93 (n93 + 1) x93_2 x93_3 w93_0) = (x93_2, x93_3, w93_0) := (if_pos c_96).trans rfl
                rw [E] at kx
                exact kx _ _ _ hP hD hS (lv_sub hl [0, 1, 2, 3] rfl)
              · refine lv_aload_n hx hb dX6_readsRow_99 rfl (lv_at hl 3 rfl) ?_
                refine lv_bipush (v := (48 : Int32)) hx hb dX6_readsRow_100 (by decide) ?_
                refine lv_iload_n hx hb dX6_readsRow_102 rfl (lv_at hl 0 rfl) ?_
                refine lv_iadd hx hb dX6_readsRow_103 ?_
                refine lv_bipush (v := (53 : Int32)) hx hb dX6_readsRow_104 (by decide) ?_
                refine zcVi (n := 2) (As := [.int ((48 : Int32) + x93_3), .int (53 : Int32)]) (rest := []) (Xr := []) (Xn := (mo g q w93_0)) (ci := 6) (C := RX6) (T := TX6) (N := 12) (q0 := 0) hx hb hml hown hts hN (m_X6_isHere l g q w93_0 ((48 : Int32) + x93_3) (53 : Int32) hs ht) gX6_readsRow_X6_isHere rfl (by decide +kernel) ⟨rfl, rfl⟩ ⟨Nat.le_of_ble_eq_true rfl, Nat.le_of_ble_eq_true rfl⟩ hK hP hD hS hA (zpn _) rfl rfl rfl hl.1 rfl (Nat.le_of_ble_eq_true rfl) dX6_readsRow_106 ⟨Nat.zero_le _, Nat.zero_le _⟩ (zpn' _) (fun H locs hP hD hS => ?_)
                refine lv_if_eq (tgt := 157) hx hb dX6_readsRow_109 (by decide) (fun c_109 => ?_) (fun c_109 => ?_)
                · have E : (f_X6_readsRow_L93 (n93 + 1) x93_2 x93_3 w93_0) = (x93_2, x93_3, w93_0) := (if_neg c_96).trans ((if_pos c_109).trans rfl)
                  rw [E] at kx
                  exact kx _ _ _ hP hD hS (lv_sub hl [0, 1, 2, 3] rfl)
                · refine lv_iload_n hx hb dX6_readsRow_112 rfl (lv_at hl 1 rfl) ?_
                  refine lv_iconst (v := (1 : Int32)) hx hb dX6_readsRow_113 (by decide) ?_
                  refine lv_aload_n hx hb dX6_readsRow_114 rfl (lv_at hl 3 rfl) ?_
                  refine va_get (D := g.1) (ci := 6) (v := .ref (q 6)) (C := RX6) (T := TX6) (N := 12) hx hb hts (zin_X6_readsRow_X6) hown hK hP 0 rfl rfl 6 (by decide) (hts (.fieldLink RX6 25 "PegClerksModel" "text" "[I") (by decide +kernel)) (fun _ h9 => h9) rfl dX6_readsRow_115 ?_
                  refine lv_aload_n hx hb dX6_readsRow_118 rfl (lv_at hl 3 rfl) ?_
                  refine va_get (D := g.1) (ci := 6) (v := .int (w93_0.1 2)) (C := RX6) (T := TX6) (N := 12) hx hb hts (zin_X6_readsRow_X6) hown hK hP 0 rfl rfl 8 (by decide) (hts (.fieldLink RX6 147 "PegClerksModel" "spot" "I") (by decide +kernel)) (fun _ h9 => h9) rfl dX6_readsRow_119 ?_
                  refine z_iald (f := (w93_0.2 5)) (k := (w93_0.1 2).toNatClampNeg) hx hb hK hP 6 0 rfl rfl (zhere hs ht c_109) rfl dX6_readsRow_122 ?_
                  refine lv_bipush (v := (48 : Int32)) hx hb dX6_readsRow_123 (by decide) ?_
                  refine lv_isub hx hb dX6_readsRow_125 ?_
                  refine lv_ishl hx hb dX6_readsRow_126 ?_
                  refine lv_ior hx hb dX6_readsRow_127 ?_
                  refine lv_istore_n (lv' := [(2, .int (x93_2 ||| ((1 : Int32) <<< ((((w93_0.2 5) (w93_0.1 2).toNatClampNeg) - (48 : Int32)) &&& 31)))), (3, .int x93_3), (1, .int (((10 : Int32) + (((s_X6_readsRow_33 v).2 5) ((s_X6_readsRow_33 v).1 2).toNatClampNeg)) - (48 : Int32))), (0, .ref (q 0))]) hx hb dX6_readsRow_128 rfl hl (by decide) rfl (fun ls hl => ?_)
                  refine lv_aload_n hx hb dX6_readsRow_129 rfl (lv_at hl 3 rfl) ?_
                  refine va_get (D := g.1) (ci := 6) (v := .ref (q 6)) (C := RX6) (T := TX6) (N := 12) hx hb hts (zin_X6_readsRow_X6) hown hK hP 0 rfl rfl 6 (by decide) (hts (.fieldLink RX6 25 "PegClerksModel" "text" "[I") (by decide +kernel)) (fun _ h9 => h9) rfl dX6_readsRow_130 ?_
                  refine lv_aload_n hx hb dX6_readsRow_133 rfl (lv_at hl 3 rfl) ?_
                  refine va_get (D := g.1) (ci := 6) (v := .int (w93_0.1 2)) (C := RX6) (T := TX6) (N := 12) hx hb hts (zin_X6_readsRow_X6) hown hK hP 0 rfl rfl 8 (by decide) (hts (.fieldLink RX6 147 "PegClerksModel" "spot" "I") (by decide +kernel)) (fun _ h9 => h9) rfl dX6_readsRow_134 ?_
                  refine z_iald (f := (w93_0.2 5)) (k := (w93_0.1 2).toNatClampNeg) hx hb hK hP 6 0 rfl rfl (zhere hs ht c_109) rfl dX6_readsRow_137 ?_
                  refine lv_bipush (v := (48 : Int32)) hx hb dX6_readsRow_138 (by decide) ?_
                  refine lv_isub hx hb dX6_readsRow_140 ?_
                  refine lv_iconst (v := (1 : Int32)) hx hb dX6_readsRow_141 (by decide) ?_
                  refine lv_iadd hx hb dX6_readsRow_142 ?_
                  refine lv_istore_n (lv' := [(3, .int ((((w93_0.2 5) (w93_0.1 2).toNatClampNeg) - (48 : Int32)) + (1 : Int32))), (2, .int (x93_2 ||| ((1 : Int32) <<< ((((w93_0.2 5) (w93_0.1 2).toNatClampNeg) - (48 : Int32)) &&& 31)))), (1, .int (((10 : Int32) + (((s_X6_readsRow_33 v).2 5) ((s_X6_readsRow_33 v).1 2).toNatClampNeg)) - (48 : Int32))), (0, .ref (q 0))]) hx hb dX6_readsRow_143 rfl hl (by decide) rfl (fun ls hl => ?_)
                  refine lv_aload_n hx hb dX6_readsRow_144 rfl (lv_at hl 3 rfl) ?_
                  refine lv_dup hx hb dX6_readsRow_145 rfl ?_
                  refine va_get (D := g.1) (ci := 6) (v := .int (w93_0.1 2)) (C := RX6) (T := TX6) (N := 12) hx hb hts (zin_X6_readsRow_X6) hown hK hP 0 rfl rfl 8 (by decide) (hts (.fieldLink RX6 147 "PegClerksModel" "spot" "I") (by decide +kernel)) (fun _ h9 => h9) rfl dX6_readsRow_146 ?_
                  refine lv_iconst (v := (1 : Int32)) hx hb dX6_readsRow_149 (by decide) ?_
                  refine lv_iadd hx hb dX6_readsRow_150 ?_
                  refine va_put (D := g.1) (ci := 6) (v := .int ((w93_0.1 2) + (1 : Int32))) (ty := .int) (C := RX6) (T := TX6) (N := 12) hx hb hts (zin_X6_readsRow_X6) tyX6 tyX6_ok nmX6 hown hK hP hD hS 0 rfl rfl 8 (by decide) (hts (.fieldLink RX6 147 "PegClerksModel" "spot" "I") (by decide +kernel)) (fun _ h9 => h9) rfl (by decide +kernel) rfl rfl (Nat.le_of_ble_eq_true rfl) dX6_readsRow_151 (fun H locs hP hD hS => ?_)
                  have hP : va_P g.1 vwCl (mo g q (s_X6_readsRow_151 w93_0)) H := (congrArg (fun z => va_P g.1 vwCl z H) (mo_S2 g q w93_0 ((w93_0.1 2) + (1 : Int32)))).mp hP
                  have hD : va_D A (mo g q (s_X6_readsRow_151 w93_0)) := (congrArg (fun z => va_D A z) (mo_S2 g q w93_0 ((w93_0.1 2) + (1 : Int32)))).mp hD
                  refine lv_goto (tgt := 93) hx hb dX6_readsRow_154 (by decide) ?_
                  have E : (f_X6_readsRow_L93 (n93 + 1) x93_2 x93_3 w93_0) = (f_X6_readsRow_L93 n93 (x93_2 ||| ((1 : Int32) <<< ((((w93_0.2 5) (w93_0.1 2).toNatClampNeg) - (48 : Int32)) &&& 31))) ((((w93_0.2 5) (w93_0.1 2).toNatClampNeg) - (48 : Int32)) + (1 : Int32)) (s_X6_readsRow_151 w93_0)) := (if_neg c_96).trans ((if_neg c_109).trans rfl)
                  rw [E] at kx
                  exact ih93 (x93_2 ||| ((1 : Int32) <<< ((((w93_0.2 5) (w93_0.1 2).toNatClampNeg) - (48 : Int32)) &&& 31))) ((((w93_0.2 5) (w93_0.1 2).toNatClampNeg) - (48 : Int32)) + (1 : Int32)) (s_X6_readsRow_151 w93_0) _ _ _ (zspot1 (zhere hs ht c_109)) ht (zleast hl7 c_109).1 (by have := (zleast hl7 c_109).2; omega) hP hD hS (lv_sub hl [0, 1, 2, 3] rfl) kx
          refine L93 (zfu 7) (0 : Int32) (0 : Int32) (r_X6_readsRow_81_2 v).2 _ _ _ (zspot_take (zspot1 (zhere (zspot1 (zhere hs ht c_8)) ht c_49)) ht) (zht_take (u := (s_X6_readsRow_75 v)) ht) (zlit _ 7 (by decide +kernel)) (by rw [zfu_eq]; omega) hP hD hS (lv_sub hl [0, 1, 2, 3] rfl) (fun H locs ls hP hD hS hl => ?_)
          refine lv_aload_n hx hb dX6_readsRow_157 rfl (lv_at hl 3 rfl) ?_
          refine va_get (D := g.1) (ci := 6) (v := .ref (q 7)) (C := RX6) (T := TX6) (N := 12) hx hb hts (zin_X6_readsRow_X6) hown hK hP 0 rfl rfl 9 (by decide) (hts (.fieldLink RX6 28 "PegClerksModel" "toldRows" "[I") (by decide +kernel)) (fun _ h9 => h9) rfl dX6_readsRow_158 ?_
          refine lv_aload_n hx hb dX6_readsRow_161 rfl (lv_at hl 3 rfl) ?_
          refine va_get (D := g.1) (ci := 6) (v := .int ((f_X6_readsRow_L93 (zfu 7) (0 : Int32) (0 : Int32) (r_X6_readsRow_81_2 v).2).2.2.1 3)) (C := RX6) (T := TX6) (N := 12) hx hb hts (zin_X6_readsRow_X6) hown hK hP 0 rfl rfl 11 (by decide) (hts (.fieldLink RX6 156 "PegClerksModel" "told" "I") (by decide +kernel)) (fun _ h9 => h9) rfl dX6_readsRow_162 ?_
          refine lv_iload_n hx hb dX6_readsRow_165 rfl (lv_at hl 2 rfl) ?_
          refine z_iast (f := ((f_X6_readsRow_L93 (zfu 7) (0 : Int32) (0 : Int32) (r_X6_readsRow_81_2 v).2).2.2.2 6)) (k := ((f_X6_readsRow_L93 (zfu 7) (0 : Int32) (0 : Int32) (r_X6_readsRow_81_2 v).2).2.2.1 3).toNatClampNeg) hx hb hK hP hD hS 7 0 rfl rfl (zrr_hd (u := (s_X6_readsRow_75 v)) hd (zspot1 (zhere (zspot1 (zhere hs ht c_8)) ht c_49)) ht) rfl dX6_readsRow_166 (fun H locs hP hD hS => ?_)
          have hP : va_P g.1 vwCl (mo g q (s_X6_readsRow_166_2 v)) H := (congrArg (fun z => va_P g.1 vwCl z H) (mo_A6 g q (f_X6_readsRow_L93 (zfu 7) (0 : Int32) (0 : Int32) (r_X6_readsRow_81_2 v).2).2.2 (upd ((f_X6_readsRow_L93 (zfu 7) (0 : Int32) (0 : Int32) (r_X6_readsRow_81_2 v).2).2.2.2 6) ((f_X6_readsRow_L93 (zfu 7) (0 : Int32) (0 : Int32) (r_X6_readsRow_81_2 v).2).2.2.1 3).toNatClampNeg (((10 : Int32) + (((s_X6_readsRow_33 v).2 5) ((s_X6_readsRow_33 v).1 2).toNatClampNeg)) - (48 : Int32))))).mp hP
          have hD : va_D A (mo g q (s_X6_readsRow_166_2 v)) := (congrArg (fun z => va_D A z) (mo_A6 g q (f_X6_readsRow_L93 (zfu 7) (0 : Int32) (0 : Int32) (r_X6_readsRow_81_2 v).2).2.2 (upd ((f_X6_readsRow_L93 (zfu 7) (0 : Int32) (0 : Int32) (r_X6_readsRow_81_2 v).2).2.2.2 6) ((f_X6_readsRow_L93 (zfu 7) (0 : Int32) (0 : Int32) (r_X6_readsRow_81_2 v).2).2.2.1 3).toNatClampNeg (((10 : Int32) + (((s_X6_readsRow_33 v).2 5) ((s_X6_readsRow_33 v).1 2).toNatClampNeg)) - (48 : Int32))))).mp hD
          refine lv_aload_n hx hb dX6_readsRow_167 rfl (lv_at hl 3 rfl) ?_
          refine va_get (D := g.1) (ci := 6) (v := .ref (q 8)) (C := RX6) (T := TX6) (N := 12) hx hb hts (zin_X6_readsRow_X6) hown hK hP 0 rfl rfl 10 (by decide) (hts (.fieldLink RX6 31 "PegClerksModel" "toldSets" "[I") (by decide +kernel)) (fun _ h9 => h9) rfl dX6_readsRow_168 ?_
          refine lv_aload_n hx hb dX6_readsRow_171 rfl (lv_at hl 3 rfl) ?_
          refine va_get (D := g.1) (ci := 6) (v := .int ((s_X6_readsRow_166_2 v).1 3)) (C := RX6) (T := TX6) (N := 12) hx hb hts (zin_X6_readsRow_X6) hown hK hP 0 rfl rfl 11 (by decide) (hts (.fieldLink RX6 156 "PegClerksModel" "told" "I") (by decide +kernel)) (fun _ h9 => h9) rfl dX6_readsRow_172 ?_
          refine lv_iload_n hx hb dX6_readsRow_175 rfl (lv_at hl 1 rfl) ?_
          refine z_iast (f := ((s_X6_readsRow_166_2 v).2 7)) (k := ((s_X6_readsRow_166_2 v).1 3).toNatClampNeg) hx hb hK hP hD hS 8 0 rfl rfl (zrr_hd (u := (s_X6_readsRow_75 v)) hd (zspot1 (zhere (zspot1 (zhere hs ht c_8)) ht c_49)) ht) rfl dX6_readsRow_176 (fun H locs hP hD hS => ?_)
          have hP : va_P g.1 vwCl (mo g q (s_X6_readsRow_176_2 v)) H := (congrArg (fun z => va_P g.1 vwCl z H) (mo_A7 g q (s_X6_readsRow_166_2 v) (upd ((s_X6_readsRow_166_2 v).2 7) ((s_X6_readsRow_166_2 v).1 3).toNatClampNeg (f_X6_readsRow_L93 (zfu 7) (0 : Int32) (0 : Int32) (r_X6_readsRow_81_2 v).2).1))).mp hP
          have hD : va_D A (mo g q (s_X6_readsRow_176_2 v)) := (congrArg (fun z => va_D A z) (mo_A7 g q (s_X6_readsRow_166_2 v) (upd ((s_X6_readsRow_166_2 v).2 7) ((s_X6_readsRow_166_2 v).1 3).toNatClampNeg (f_X6_readsRow_L93 (zfu 7) (0 : Int32) (0 : Int32) (r_X6_readsRow_81_2 v).2).1))).mp hD
          refine lv_aload_n hx hb dX6_readsRow_177 rfl (lv_at hl 3 rfl) ?_
          refine lv_dup hx hb dX6_readsRow_178 rfl ?_
          refine va_get (D := g.1) (ci := 6) (v := .int ((s_X6_readsRow_176_2 v).1 3)) (C := RX6) (T := TX6) (N := 12) hx hb hts (zin_X6_readsRow_X6) hown hK hP 0 rfl rfl 11 (by decide) (hts (.fieldLink RX6 156 "PegClerksModel" "told" "I") (by decide +kernel)) (fun _ h9 => h9) rfl dX6_readsRow_179 ?_
          refine lv_iconst (v := (1 : Int32)) hx hb dX6_readsRow_182 (by decide) ?_
          refine lv_iadd hx hb dX6_readsRow_183 ?_
          refine va_put (D := g.1) (ci := 6) (v := .int (((s_X6_readsRow_176_2 v).1 3) + (1 : Int32))) (ty := .int) (C := RX6) (T := TX6) (N := 12) hx hb hts (zin_X6_readsRow_X6) tyX6 tyX6_ok nmX6 hown hK hP hD hS 0 rfl rfl 11 (by decide) (hts (.fieldLink RX6 156 "PegClerksModel" "told" "I") (by decide +kernel)) (fun _ h9 => h9) rfl (by decide +kernel) rfl rfl (Nat.le_of_ble_eq_true rfl) dX6_readsRow_184 (fun H locs hP hD hS => ?_)
          have hP : va_P g.1 vwCl (mo g q (s_X6_readsRow_184_2 v)) H := (congrArg (fun z => va_P g.1 vwCl z H) (mo_S3 g q (s_X6_readsRow_176_2 v) (((s_X6_readsRow_176_2 v).1 3) + (1 : Int32)))).mp hP
          have hD : va_D A (mo g q (s_X6_readsRow_184_2 v)) := (congrArg (fun z => va_D A z) (mo_S3 g q (s_X6_readsRow_176_2 v) (((s_X6_readsRow_176_2 v).1 3) + (1 : Int32)))).mp hD
          refine lv_iconst (v := (1 : Int32)) hx hb dX6_readsRow_187 (by decide) ?_
          have E : (f_X6_readsRow v) = ((1 : Int32), (s_X6_readsRow_184_2 v)) := (if_neg c_8).trans ((if_pos c_38).trans ((if_neg c_49).trans ((if_neg c_84).trans rfl)))
          have e1 : (1 : Int32) = (f_X6_readsRow v).1 := by rw [E]
          have e2 : (mo g q (s_X6_readsRow_184_2 v)) = (mo g q (f_X6_readsRow v).2) := by rw [E]
          exact hret (1 : Int32) (mo g q (s_X6_readsRow_184_2 v)) _ _ _ _ dX6_readsRow_188 e1 (rfl) e2 hP hD hS
        · refine lv_iconst (v := (0 : Int32)) hx hb dX6_readsRow_87 (by decide) ?_
          have E : (f_X6_readsRow v) = ((0 : Int32), (r_X6_readsRow_81_2 v).2) := (if_neg c_8).trans ((if_pos c_38).trans ((if_neg c_49).trans ((if_pos c_84).trans rfl)))
          have e1 : (0 : Int32) = (f_X6_readsRow v).1 := by rw [E]
          have e2 : (mo g q (r_X6_readsRow_81_2 v).2) = (mo g q (f_X6_readsRow v).2) := by rw [E]
          exact hret (0 : Int32) (mo g q (r_X6_readsRow_81_2 v).2) _ _ _ _ dX6_readsRow_88 e1 (rfl) e2 hP hD hS
  · refine lv_iconst (v := (0 : Int32)) hx hb dX6_readsRow_11 (by decide) ?_
    have E : (f_X6_readsRow v) = ((0 : Int32), v) := (if_pos c_8).trans rfl
    have e1 : (0 : Int32) = (f_X6_readsRow v).1 := by rw [E]
    have e2 : (mo g q v) = (mo g q (f_X6_readsRow v).2) := by rw [E]
    exact hret (0 : Int32) (mo g q v) _ _ _ _ dX6_readsRow_12 e1 (rfl) e2 hP hD hS
