/-! the reference reads lines -/
theorem FT_q {z0 z : mZ} (hz : rz z0) (hz' : rz z) (w : WHn z0) {n0 : Nat} (h7 : n0 ≤ 7) (h : ∀ q : Int, 0 ≤ q → q < z0 225 23 → tri (z 231 (18 * n0 + z0 229 (3 * q).toNat).toNat) (z 231 (18 * n0 + z0 229 (3 * q + 1).toNat).toNat) (z 231 (18 * n0 + z0 229 (3 * q + 2).toNat).toNat)) : FT (z0 225 23).toNat (vT (z0 229)) (tr (nE z0) (fun e => z 231 (18 * n0 + e))) := by
  have ly := LY_n hz w
  have h23 := rd_225_23 hz
  refine FT_n (fun e he => ?_) (fun q hq => ?_)
  · by_cases c : (e : Int) < nE z0
    · rw [tr_l c]; exact (rd_231 hz' (i := 18 * n0 + e) (by omega)).1
    · rw [tr_g (by omega)]; omega
  · have k := h q (by omega) (by omega)
    have t0 := ly.2.2.2.1 (3 * q) (by omega); have t1 := ly.2.2.2.1 (3 * q + 1) (by omega); have t2 := ly.2.2.2.1 (3 * q + 2) (by omega)
    rw [show (3 * (q : Int)).toNat = 3 * q by omega, show (3 * (q : Int) + 1).toNat = 3 * q + 1 by omega, show (3 * (q : Int) + 2).toNat = 3 * q + 2 by omega] at k
    rw [tr_l (by show (((z0 229 (3 * q)).toNat : Nat) : Int) < _; omega), tr_l (by show (((z0 229 (3 * q + 1)).toNat : Nat) : Int) < _; omega), tr_l (by show (((z0 229 (3 * q + 2)).toNat : Nat) : Int) < _; omega)]
    show tri (z 231 (18 * n0 + (z0 229 (3 * q)).toNat)) (z 231 (18 * n0 + (z0 229 (3 * q + 1)).toNat)) (z 231 (18 * n0 + (z0 229 (3 * q + 2)).toNat))
    rw [show 18 * n0 + (z0 229 (3 * q)).toNat = (18 * (n0 : Int) + z0 229 (3 * q)).toNat by omega, show 18 * n0 + (z0 229 (3 * q + 1)).toNat = (18 * (n0 : Int) + z0 229 (3 * q + 1)).toNat by omega, show 18 * n0 + (z0 229 (3 * q + 2)).toNat = (18 * (n0 : Int) + z0 229 (3 * q + 2)).toNat by omega]
    exact k
theorem WHn_c {z z' : mZ} (e23 : z' 225 23 = z 225 23) (e229 : z' 229 = z 229) (h : WHn z) : WHn z' := by
  unfold WHn nE at *; rw [e23, e229]; exact h
theorem LFn_c {z z' : mZ} (e23 : z' 225 23 = z 225 23) (e24 : z' 225 24 = z 225 24) (e229 : z' 229 = z 229) (e231 : z' 231 = z 231) (h : LFn z) : LFn z' := by
  unfold LFn nE at *; rw [e23, e24, e229, e231]; exact h
theorem WDn_l {z z' : mZ} (e25 : z' 225 25 = z 225 25) (e24 : z' 225 24 = z 225 24 + 1) (e232 : z' 232 = z 232) (e234 : z' 234 = z 234) (h : WDn z) : WDn z' := by
  intro a ha i hi
  rw [e25] at ha; rw [e234] at hi; rw [e232, e24]
  have := h a ha i hi; omega
