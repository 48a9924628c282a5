theorem zcl_lt {x : Int32} {n i k : Nat} (h : vp_in x n) (e : i + (k + 1) = x.toNatClampNeg) : i < n := by
  obtain ⟨h1, h2⟩ := vp_in_iff.mp h
  have h3 := zclamp x
  omega
theorem zin_sum {x : Int32} {i : Nat} (h : vp_in x 16) (hi : i < 9) : vp_in (x + (nI i)) 32 := by
  obtain ⟨r, hr, rfl⟩ := vp_in_of h (by omega)
  rw [nI_add]
  exact vp_in_nI (by omega) (by omega)
