/-! methods, printed by wip/tools/vcg.py -/
/-- Road edgeFlipped -/
abbrev S_51x  : mS := []
abbrev E_51x (rk : Nat) (a1 : Int) (z0 w0 : mZ) (x y tx it mt tt ct : Option Nat) : Int → mZ → mZ → mP → Prop := fun v z w p => p = (pq x y tx it mt tt ct) ∧ z0 = z ∧ w0 = w ∧ 0 ≤ v ∧ v ≤ 31 ∧ (v = z0 (18 + 2 * rk) a1.toNat % 32)
theorem m_51x {d : Nat} {z0 w0 : mZ} {x y tx it mt tt ct : Option Nat} (rk : Nat) (a1 : Int) (hz : rz z0) (hw : rw_ w0) (ha1 : 0 ≤ a1 ∧ a1 ≤ 1781) (hrk : rk < 8) : wc (d + 1) 51 [.ref (17 + 2 * rk), .int (Int32.ofInt a1)] (mk z0 w0 (pq x y tx it mt tt ct)) (poI S_51x z0 w0 (E_51x rk a1 z0 w0 x y tx it mt tt ct)) := by
  have hst : st_ S_51x z0 w0 z0 w0 := st_rf hz hw
  refine w_m rfl rfl ?_
  refine r_ld (pc' := 1) rfl rfl rfl rfl ?_
  refine r_gr (b := 18 + 2 * rk) (pc' := 4) rfl rfl (sh_R (k := rk) (by omega)) rfl (pp_R (k := rk) (by omega)) ?_
  refine r_ld (pc' := 5) rfl rfl rfl rfl ?_
  have hb2 := rd_RF (k := rk) (by omega) hz (i := a1.toNat) (by omega)
  unfold ok_f at hb2
  refine r_ia (pc' := 6) rfl rfl (sh_RF (k := rk) (by omega)) rfl (by omega) (by omega) rfl ?_
  refine r_cb (pc' := 8) rfl (by decide) rfl ?_
  refine r_msk (m := 31) (n := 5) (pc' := 9) rfl rfl ⟨by omega, by omega⟩ (by decide) (by decide) ?_
  exact r_ri rfl (po_I hst ⟨by omega, by omega⟩ ⟨rfl, rfl, rfl, by omega, by omega, (by first | rfl | omega)⟩)
/-- LoopGround flips -/
abbrev S_111x  : mS := []
abbrev E_111x (t : Nat) (u : Nat) (a1 : Int) (z0 w0 : mZ) (tx it tt ct : Option Nat) : Int → mZ → mZ → mP → Prop := fun v z w p => p = (pq (some t) (some u) tx it (some t) tt ct) ∧ z0 = z ∧ w0 = w ∧ (-2) ≤ v ∧ v ≤ 1782 ∧ ((CV z w t ∧ (GA z0 z0 t → GA z z t) ∧ z 1 15 = z0 1 15) ∧ ((¬ (0 ≤ a1 ∧ a1 < z0 t 3) ∧ v = -1) ∨ ((0 ≤ a1 ∧ a1 < z0 t 3) ∧ ((z0 (17 + 2 * a1.toNat) 0 = 0 ∧ v = -1) ∨ (z0 (17 + 2 * a1.toNat) 0 = 1 ∧ v = -2) ∨ (z0 (17 + 2 * a1.toNat) 0 = 2 ∧ v = z0 (17 + 2 * a1.toNat) 1)))))
theorem m_111x {d : Nat} {z0 w0 : mZ} {tx it tt ct : Option Nat} (t : Nat) (u : Nat) (a1 : Int) (hz : rz z0) (hw : rw_ w0) (ha1 : (-2147483648) ≤ a1 ∧ a1 ≤ 2147483647) (ht : isT t) (hu : isT u) (hcv : CV z0 w0 t) : wc (d + 2) 111 [.ref 1, .int (Int32.ofInt a1)] (mk z0 w0 (pq (some t) (some u) tx it (some t) tt ct)) (poI S_111x z0 w0 (E_111x t u a1 z0 w0 tx it tt ct)) := by
  have hst : st_ S_111x z0 w0 z0 w0 := st_rf hz hw
  have htb : 159 ≤ t ∧ t ≤ 192 := by have := ht; unfold isT at this; omega
  have hub : 159 ≤ u ∧ u ≤ 192 := by have := hu; unfold isT at this; omega
  have hz13 := rd_1_15 hz
  have hz14 := rd_T_3 ht hz
  have hwt := hcv.1
  have hzt3 := rd_T_3 ht hz
  have h390 := rd_39_0 hz
  have h391 := rd_39_1 hz
  have h392 := rd_39_2 hz
  refine w_m rfl rfl ?_
  refine r_ld (pc' := 1) rfl rfl rfl rfl ?_
  refine r_gr (b := 10) (pc' := 4) rfl rfl sh_1 rfl pp_1_3 ?_
  refine r_ld (pc' := 5) rfl rfl rfl rfl ?_
  refine r_cVR (pc' := 8) rfl rfl rfl rfl rfl sh_10 (m_22s (d := d) t a1 hst.1 hst.2.1 ⟨by omega, by omega⟩ ht) (fun v15 z16 w17 p18 hs20 hE21 => ?_)
  rcases hE21 with ⟨rfl, rfl, rfl, rfl, hrn⟩ | ⟨rfl, rfl, rfl, rfl, hrx⟩
  · skip
    refine r_st (pc' := 9) (lv' := [(2, _), (0, _), (1, _)]) rfl rfl rfl rfl ?_
    refine r_ld (pc' := 10) rfl rfl rfl rfl ?_
    refine r_nul_t rfl ?_
    refine r_c0 (pc' := 21) rfl rfl ?_
    exact r_ri rfl (po_I hst ⟨by decide, by decide⟩ ⟨rfl, rfl, rfl, by omega, by omega, (by refine ⟨?_, by omega⟩; first | exact ⟨hcv, fun q => q, rfl⟩ | exact ⟨CV_f ht hz hst (notS_n) (notS_n) (notS_n) (notS_n) (notS_n) (fun i => (notS_n)) (fun i => (notS_n)) (fun i => (notS_n)) (fun a h1 h2 i => (notS_n)) (notS_n) (notS_n) (notS_n) (fun a h1 h2 i => (notS_n)) (fun a h1 h2 i => (notS_n)) hcv, (fun hq => GA_f ht hz hst (notS_n) (notS_n) (fun i => (notS_n)) (fun a h1 h2 i => (notS_n)) hq), hst.2.2.1 _ _ (notS_n)⟩)⟩)
  · skip
    refine r_st (pc' := 9) (lv' := [(2, _), (0, _), (1, _)]) rfl rfl rfl rfl ?_
    refine r_ld (pc' := 10) rfl rfl rfl rfl ?_
    refine r_nul_f (pc' := 13) rfl rfl ?_
    refine r_ld (pc' := 14) rfl rfl rfl rfl ?_
    have hb23 := rd_R_0 (k := a1.toNat) (by omega) hz
    refine r_gi (pc' := 17) rfl rfl (sh_R (k := a1.toNat) (by omega)) rfl rfl ?_
    refine r_zne (pc' := 20) rfl rfl ⟨by omega, by omega⟩ (fun hc24 => ?_) (fun hc24 => ?_)
    · skip
      refine r_ld (pc' := 23) rfl rfl rfl rfl ?_
      refine r_gi (pc' := 26) rfl rfl (sh_R (k := a1.toNat) (by omega)) rfl rfl ?_
      refine r_c0 (pc' := 27) rfl rfl ?_
      refine r_ine (pc' := 30) rfl rfl ⟨by omega, by omega⟩ ⟨by decide, by decide⟩ (fun hc25 => ?_) (fun hc25 => ?_)
      · skip
        refine r_ld (pc' := 36) rfl rfl rfl rfl ?_
        have hb26 := rd_R_1 (k := a1.toNat) (by omega) hz
        refine r_gi (pc' := 39) rfl rfl (sh_R (k := a1.toNat) (by omega)) rfl rfl ?_
        exact r_ri rfl (po_I hst ⟨by omega, by omega⟩ ⟨rfl, rfl, rfl, by omega, by omega, (by refine ⟨?_, by omega⟩; first | exact ⟨hcv, fun q => q, rfl⟩ | exact ⟨CV_f ht hz hst (notS_n) (notS_n) (notS_n) (notS_n) (notS_n) (fun i => (notS_n)) (fun i => (notS_n)) (fun i => (notS_n)) (fun a h1 h2 i => (notS_n)) (notS_n) (notS_n) (notS_n) (fun a h1 h2 i => (notS_n)) (fun a h1 h2 i => (notS_n)) hcv, (fun hq => GA_f ht hz hst (notS_n) (notS_n) (fun i => (notS_n)) (fun a h1 h2 i => (notS_n)) hq), hst.2.2.1 _ _ (notS_n)⟩)⟩)
      · skip
        refine r_cb (pc' := 32) rfl (by decide) rfl ?_
        refine r_go rfl ?_
        exact r_ri rfl (po_I hst ⟨by decide, by decide⟩ ⟨rfl, rfl, rfl, by omega, by omega, (by refine ⟨?_, by omega⟩; first | exact ⟨hcv, fun q => q, rfl⟩ | exact ⟨CV_f ht hz hst (notS_n) (notS_n) (notS_n) (notS_n) (notS_n) (fun i => (notS_n)) (fun i => (notS_n)) (fun i => (notS_n)) (fun a h1 h2 i => (notS_n)) (notS_n) (notS_n) (notS_n) (fun a h1 h2 i => (notS_n)) (fun a h1 h2 i => (notS_n)) hcv, (fun hq => GA_f ht hz hst (notS_n) (notS_n) (fun i => (notS_n)) (fun a h1 h2 i => (notS_n)) hq), hst.2.2.1 _ _ (notS_n)⟩)⟩)
    · skip
      refine r_c0 (pc' := 21) rfl rfl ?_
      exact r_ri rfl (po_I hst ⟨by decide, by decide⟩ ⟨rfl, rfl, rfl, by omega, by omega, (by refine ⟨?_, by omega⟩; first | exact ⟨hcv, fun q => q, rfl⟩ | exact ⟨CV_f ht hz hst (notS_n) (notS_n) (notS_n) (notS_n) (notS_n) (fun i => (notS_n)) (fun i => (notS_n)) (fun i => (notS_n)) (fun a h1 h2 i => (notS_n)) (notS_n) (notS_n) (notS_n) (fun a h1 h2 i => (notS_n)) (fun a h1 h2 i => (notS_n)) hcv, (fun hq => GA_f ht hz hst (notS_n) (notS_n) (fun i => (notS_n)) (fun a h1 h2 i => (notS_n)) hq), hst.2.2.1 _ _ (notS_n)⟩)⟩)
/-- LoopGround flip -/
abbrev S_112x  : mS := []
abbrev E_112x (t : Nat) (u : Nat) (a1 : Int) (a2 : Int) (z0 w0 : mZ) (tx it tt ct : Option Nat) : Int → mZ → mZ → mP → Prop := fun v z w p => p = (pq (some t) (some u) tx it (some t) tt ct) ∧ z0 = z ∧ w0 = w ∧ (-1) ≤ v ∧ v ≤ 31 ∧ ((CV z w t ∧ (GA z0 z0 t → GA z z t) ∧ z 1 15 = z0 1 15) ∧ ((¬ ((0 ≤ a1 ∧ a1 < z0 t 3) ∧ z0 (17 + 2 * a1.toNat) 0 = 2 ∧ 0 ≤ a2 ∧ a2 < z0 (17 + 2 * a1.toNat) 1) ∧ v = -1) ∨ (((0 ≤ a1 ∧ a1 < z0 t 3) ∧ z0 (17 + 2 * a1.toNat) 0 = 2 ∧ 0 ≤ a2 ∧ a2 < z0 (17 + 2 * a1.toNat) 1) ∧ v = z0 (18 + 2 * a1.toNat) a2.toNat % 32)))
theorem m_112x {d : Nat} {z0 w0 : mZ} {tx it tt ct : Option Nat} (t : Nat) (u : Nat) (a1 : Int) (a2 : Int) (hz : rz z0) (hw : rw_ w0) (ha1 : (-2147483648) ≤ a1 ∧ a1 ≤ 2147483647) (ha2 : (-2147483648) ≤ a2 ∧ a2 ≤ 2147483647) (ht : isT t) (hu : isT u) (hcv : CV z0 w0 t) : wc (d + 2) 112 [.ref 1, .int (Int32.ofInt a1), .int (Int32.ofInt a2)] (mk z0 w0 (pq (some t) (some u) tx it (some t) tt ct)) (poI S_112x z0 w0 (E_112x t u a1 a2 z0 w0 tx it tt ct)) := by
  have hst : st_ S_112x z0 w0 z0 w0 := st_rf hz hw
  have htb : 159 ≤ t ∧ t ≤ 192 := by have := ht; unfold isT at this; omega
  have hub : 159 ≤ u ∧ u ≤ 192 := by have := hu; unfold isT at this; omega
  have hz22 := rd_1_15 hz
  have hz23 := rd_T_3 ht hz
  have hwt := hcv.1
  have hzt3 := rd_T_3 ht hz
  have h390 := rd_39_0 hz
  have h391 := rd_39_1 hz
  have h392 := rd_39_2 hz
  refine w_m rfl rfl ?_
  refine r_ld (pc' := 1) rfl rfl rfl rfl ?_
  refine r_gr (b := 10) (pc' := 4) rfl rfl sh_1 rfl pp_1_3 ?_
  refine r_ld (pc' := 5) rfl rfl rfl rfl ?_
  refine r_cVR (pc' := 8) rfl rfl rfl rfl rfl sh_10 (m_22s (d := d) t a1 hst.1 hst.2.1 ⟨by omega, by omega⟩ ht) (fun v24 z25 w26 p27 hs29 hE30 => ?_)
  rcases hE30 with ⟨rfl, rfl, rfl, rfl, hrn⟩ | ⟨rfl, rfl, rfl, rfl, hrx⟩
  · skip
    refine r_st (pc' := 9) (lv' := [(3, _), (0, _), (1, _), (2, _)]) rfl rfl rfl rfl ?_
    refine r_ld (pc' := 10) rfl rfl rfl rfl ?_
    refine r_nul_t rfl ?_
    refine r_c0 (pc' := 34) rfl rfl ?_
    exact r_ri rfl (po_I hst ⟨by decide, by decide⟩ ⟨rfl, rfl, rfl, by omega, by omega, (by refine ⟨?_, by omega⟩; first | exact ⟨hcv, fun q => q, rfl⟩ | exact ⟨CV_f ht hz hst (notS_n) (notS_n) (notS_n) (notS_n) (notS_n) (fun i => (notS_n)) (fun i => (notS_n)) (fun i => (notS_n)) (fun a h1 h2 i => (notS_n)) (notS_n) (notS_n) (notS_n) (fun a h1 h2 i => (notS_n)) (fun a h1 h2 i => (notS_n)) hcv, (fun hq => GA_f ht hz hst (notS_n) (notS_n) (fun i => (notS_n)) (fun a h1 h2 i => (notS_n)) hq), hst.2.2.1 _ _ (notS_n)⟩)⟩)
  · skip
    refine r_st (pc' := 9) (lv' := [(3, _), (0, _), (1, _), (2, _)]) rfl rfl rfl rfl ?_
    refine r_ld (pc' := 10) rfl rfl rfl rfl ?_
    refine r_nul_f (pc' := 13) rfl rfl ?_
    refine r_ld (pc' := 14) rfl rfl rfl rfl ?_
    have hb32 := rd_R_0 (k := a1.toNat) (by omega) hz
    refine r_gi (pc' := 17) rfl rfl (sh_R (k := a1.toNat) (by omega)) rfl rfl ?_
    refine r_c0 (pc' := 18) rfl rfl ?_
    refine r_ine (pc' := 21) rfl rfl ⟨by omega, by omega⟩ ⟨by decide, by decide⟩ (fun hc33 => ?_) (fun hc33 => ?_)
    · skip
      refine r_c0 (pc' := 34) rfl rfl ?_
      exact r_ri rfl (po_I hst ⟨by decide, by decide⟩ ⟨rfl, rfl, rfl, by omega, by omega, (by refine ⟨?_, by omega⟩; first | exact ⟨hcv, fun q => q, rfl⟩ | exact ⟨CV_f ht hz hst (notS_n) (notS_n) (notS_n) (notS_n) (notS_n) (fun i => (notS_n)) (fun i => (notS_n)) (fun i => (notS_n)) (fun a h1 h2 i => (notS_n)) (notS_n) (notS_n) (notS_n) (fun a h1 h2 i => (notS_n)) (fun a h1 h2 i => (notS_n)) hcv, (fun hq => GA_f ht hz hst (notS_n) (notS_n) (fun i => (notS_n)) (fun a h1 h2 i => (notS_n)) hq), hst.2.2.1 _ _ (notS_n)⟩)⟩)
    · skip
      refine r_ld (pc' := 22) rfl rfl rfl rfl ?_
      refine r_zlt (pc' := 25) rfl rfl ⟨by omega, by omega⟩ (fun hc34 => ?_) (fun hc34 => ?_)
      · skip
        refine r_c0 (pc' := 34) rfl rfl ?_
        exact r_ri rfl (po_I hst ⟨by decide, by decide⟩ ⟨rfl, rfl, rfl, by omega, by omega, (by refine ⟨?_, by omega⟩; first | exact ⟨hcv, fun q => q, rfl⟩ | exact ⟨CV_f ht hz hst (notS_n) (notS_n) (notS_n) (notS_n) (notS_n) (fun i => (notS_n)) (fun i => (notS_n)) (fun i => (notS_n)) (fun a h1 h2 i => (notS_n)) (notS_n) (notS_n) (notS_n) (fun a h1 h2 i => (notS_n)) (fun a h1 h2 i => (notS_n)) hcv, (fun hq => GA_f ht hz hst (notS_n) (notS_n) (fun i => (notS_n)) (fun a h1 h2 i => (notS_n)) hq), hst.2.2.1 _ _ (notS_n)⟩)⟩)
      · skip
        refine r_ld (pc' := 26) rfl rfl rfl rfl ?_
        refine r_ld (pc' := 27) rfl rfl rfl rfl ?_
        have hb35 := rd_R_1 (k := a1.toNat) (by omega) hz
        refine r_gi (pc' := 30) rfl rfl (sh_R (k := a1.toNat) (by omega)) rfl rfl ?_
        refine r_ilt (pc' := 33) rfl rfl ⟨by omega, by omega⟩ ⟨by omega, by omega⟩ (fun hc36 => ?_) (fun hc36 => ?_)
        · skip
          refine r_ld (pc' := 36) rfl rfl rfl rfl ?_
          refine r_ld (pc' := 37) rfl rfl rfl rfl ?_
          refine r_cVI (pc' := 40) rfl rfl rfl rfl rfl (sh_R (k := a1.toNat) (by omega)) (m_51x (d := d) a1.toNat a2 hst.1 hst.2.1 ⟨by omega, by omega⟩ (by first | omega | assumption)) (fun v37 z38 w39 p40 h41 hs42 hE43 => ?_)
          obtain ⟨rfl, rfl, rfl, hE43⟩ := hE43
          have hef := hE43.2.2
          exact r_ri rfl (po_I hst ⟨by omega, by omega⟩ ⟨rfl, rfl, rfl, by omega, by omega, (by refine ⟨?_, by omega⟩; first | exact ⟨hcv, fun q => q, rfl⟩ | exact ⟨CV_f ht hz hst (notS_n) (notS_n) (notS_n) (notS_n) (notS_n) (fun i => (notS_n)) (fun i => (notS_n)) (fun i => (notS_n)) (fun a h1 h2 i => (notS_n)) (notS_n) (notS_n) (notS_n) (fun a h1 h2 i => (notS_n)) (fun a h1 h2 i => (notS_n)) hcv, (fun hq => GA_f ht hz hst (notS_n) (notS_n) (fun i => (notS_n)) (fun a h1 h2 i => (notS_n)) hq), hst.2.2.1 _ _ (notS_n)⟩)⟩)
        · skip
          refine r_c0 (pc' := 34) rfl rfl ?_
          exact r_ri rfl (po_I hst ⟨by decide, by decide⟩ ⟨rfl, rfl, rfl, by omega, by omega, (by refine ⟨?_, by omega⟩; first | exact ⟨hcv, fun q => q, rfl⟩ | exact ⟨CV_f ht hz hst (notS_n) (notS_n) (notS_n) (notS_n) (notS_n) (fun i => (notS_n)) (fun i => (notS_n)) (fun i => (notS_n)) (fun a h1 h2 i => (notS_n)) (notS_n) (notS_n) (notS_n) (fun a h1 h2 i => (notS_n)) (fun a h1 h2 i => (notS_n)) hcv, (fun hq => GA_f ht hz hst (notS_n) (notS_n) (fun i => (notS_n)) (fun a h1 h2 i => (notS_n)) hq), hst.2.2.1 _ _ (notS_n)⟩)⟩)
