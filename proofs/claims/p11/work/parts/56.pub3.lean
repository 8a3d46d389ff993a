/-! methods, printed by wip/tools/vcg.py -/
/-- LoopGround undo -/
abbrev S_127v  : mS := [(39, 39, 0, 0), (39, 39, 1, 1)]
abbrev E_127v (t : Nat) (z0 w0 : mZ) (x y tx it mt tt ct : Option Nat) : Int → mZ → mZ → mP → Prop := fun v z w p => p = (pq x y tx it mt tt ct) ∧ 0 ≤ v ∧ v ≤ 1 ∧ (CV z w t ∧ (GA z0 z0 t → GA z z t) ∧ z 1 15 = z0 1 15)
theorem m_127v {d : Nat} {z0 w0 : mZ} {x y tx it mt tt ct : Option Nat} (t : Nat) (hz : rz z0) (hw : rw_ w0) (ht : isT t) (hcv : CV z0 w0 t) : wc (d + 2) 127 [.ref 1] (mk z0 w0 (pq x y tx it mt tt ct)) (poI S_127v z0 w0 (E_127v t z0 w0 x y tx it mt tt ct)) := by
  have hst : st_ S_127v z0 w0 z0 w0 := st_rf hz hw
  have htb : 159 ≤ t ∧ t ≤ 192 := by have := ht; unfold isT at this; omega
  have hz15 := rd_1_15 hz
  have hwt := hcv.1
  have hzt3 := rd_T_3 ht hz
  have h390 := rd_39_0 hz
  have h391 := rd_39_1 hz
  have h392 := rd_39_2 hz
  refine w_m rfl rfl ?_
  refine r_ld (pc' := 1) rfl rfl rfl rfl ?_
  refine r_gr (b := 39) (pc' := 4) rfl rfl sh_1 rfl pp_1_6 ?_
  have hb16 := rd_39_0 hz
  have hb17 := rd_39_1 hz
  refine r_cVI (pc' := 7) rfl rfl rfl rfl rfl sh_39 (m_5 (d := d)  hst.1 hst.2.1 (by exact hcv.2.2.1.1)) (fun v18 z19 w20 p21 h22 hs23 hE24 => ?_)
  have hs25 := st_tr hst hs23 (sub_B rfl)
  obtain ⟨rfl, hE24⟩ := hE24
  have hsb := hE24
  have hb26 := rd_1_15 hz
  have hf27 : z19 1 15 = z0 1 15 := (hs23.2.2.1 _ _ (notS_c (by omega) (notS_c (by omega) notS_n)))
  have hb28 := rd_39_0 hs25.1
  have hb29 := rd_39_1 hs25.1
  exact r_rz rfl (by omega) (po_I hs25 ⟨by omega, by omega⟩ ⟨rfl, by omega, by omega, (by exact ⟨CV_a ht hz hs25 (notS_c (by omega) (notS_c (by omega) (notS_n))) (notS_c (by omega) (notS_c (by omega) (notS_n))) (notS_c (by omega) (notS_c (by omega) (notS_n))) (notS_c (by omega) (notS_c (by omega) (notS_n))) (notS_c (by omega) (notS_c (by omega) (notS_n))) (fun i => (notS_c (by omega) (notS_c (by omega) (notS_n)))) (fun i => (notS_c (by omega) (notS_c (by omega) (notS_n)))) (fun i => (notS_c (by omega) (notS_c (by omega) (notS_n)))) (fun a h1 h2 i => (notS_c (by omega) (notS_c (by omega) (notS_n)))) (fun a h1 h2 i => (notS_c (by omega) (notS_c (by omega) (notS_n)))) hcv (AK_s hcv.2.2.1 (hs25.2.2.1 _ _ (notS_c (by omega) (notS_c (by omega) (notS_n)))) (funext fun i => hs25.2.2.1 _ _ (notS_c (by omega) (notS_c (by omega) (notS_n)))) (by omega) (hs25.2.2.1 _ _ (notS_c (by omega) (notS_c (by omega) (notS_n)))) (fun a h1 h2 => funext fun i => hs25.2.2.2 _ _ (notS_c (by omega) (notS_c (by omega) (notS_n))))), (fun hq => GA_f ht hz hs25 (notS_c (by omega) (notS_c (by omega) (notS_n))) (notS_c (by omega) (notS_c (by omega) (notS_n))) (fun i => (notS_c (by omega) (notS_c (by omega) (notS_n)))) (fun a h1 h2 i => (notS_c (by omega) (notS_c (by omega) (notS_n)))) hq), hs25.2.2.1 _ _ (notS_c (by omega) (notS_c (by omega) (notS_n)))⟩)⟩)
/-- LoopGround redo -/
abbrev S_128v  : mS := [(39, 39, 1, 1), (39, 39, 0, 0)]
abbrev E_128v (t : Nat) (z0 w0 : mZ) (x y tx it mt tt ct : Option Nat) : Int → mZ → mZ → mP → Prop := fun v z w p => p = (pq x y tx it mt tt ct) ∧ 0 ≤ v ∧ v ≤ 1 ∧ (CV z w t ∧ (GA z0 z0 t → GA z z t) ∧ z 1 15 = z0 1 15)
theorem m_128v {d : Nat} {z0 w0 : mZ} {x y tx it mt tt ct : Option Nat} (t : Nat) (hz : rz z0) (hw : rw_ w0) (ht : isT t) (hcv : CV z0 w0 t) : wc (d + 2) 128 [.ref 1] (mk z0 w0 (pq x y tx it mt tt ct)) (poI S_128v z0 w0 (E_128v t z0 w0 x y tx it mt tt ct)) := by
  have hst : st_ S_128v z0 w0 z0 w0 := st_rf hz hw
  have htb : 159 ≤ t ∧ t ≤ 192 := by have := ht; unfold isT at this; omega
  have hz15 := rd_1_15 hz
  have hwt := hcv.1
  have hzt3 := rd_T_3 ht hz
  have h390 := rd_39_0 hz
  have h391 := rd_39_1 hz
  have h392 := rd_39_2 hz
  refine w_m rfl rfl ?_
  refine r_ld (pc' := 1) rfl rfl rfl rfl ?_
  refine r_gr (b := 39) (pc' := 4) rfl rfl sh_1 rfl pp_1_6 ?_
  have hb16 := rd_39_0 hz
  have hb17 := rd_39_1 hz
  refine r_cVI (pc' := 7) rfl rfl rfl rfl rfl sh_39 (m_6 (d := d)  hst.1 hst.2.1 (by exact hcv.2.2.1.1)) (fun v18 z19 w20 p21 h22 hs23 hE24 => ?_)
  have hs25 := st_tr hst hs23 (sub_B rfl)
  obtain ⟨rfl, hE24⟩ := hE24
  have hsb := hE24
  have hb26 := rd_1_15 hz
  have hf27 : z19 1 15 = z0 1 15 := (hs23.2.2.1 _ _ (notS_c (by omega) (notS_c (by omega) notS_n)))
  have hb28 := rd_39_0 hs25.1
  have hb29 := rd_39_1 hs25.1
  exact r_rz rfl (by omega) (po_I hs25 ⟨by omega, by omega⟩ ⟨rfl, by omega, by omega, (by exact ⟨CV_a ht hz hs25 (notS_c (by omega) (notS_c (by omega) (notS_n))) (notS_c (by omega) (notS_c (by omega) (notS_n))) (notS_c (by omega) (notS_c (by omega) (notS_n))) (notS_c (by omega) (notS_c (by omega) (notS_n))) (notS_c (by omega) (notS_c (by omega) (notS_n))) (fun i => (notS_c (by omega) (notS_c (by omega) (notS_n)))) (fun i => (notS_c (by omega) (notS_c (by omega) (notS_n)))) (fun i => (notS_c (by omega) (notS_c (by omega) (notS_n)))) (fun a h1 h2 i => (notS_c (by omega) (notS_c (by omega) (notS_n)))) (fun a h1 h2 i => (notS_c (by omega) (notS_c (by omega) (notS_n)))) hcv (AK_s hcv.2.2.1 (hs25.2.2.1 _ _ (notS_c (by omega) (notS_c (by omega) (notS_n)))) (funext fun i => hs25.2.2.1 _ _ (notS_c (by omega) (notS_c (by omega) (notS_n)))) (by omega) (hs25.2.2.1 _ _ (notS_c (by omega) (notS_c (by omega) (notS_n)))) (fun a h1 h2 => funext fun i => hs25.2.2.2 _ _ (notS_c (by omega) (notS_c (by omega) (notS_n))))), (fun hq => GA_f ht hz hs25 (notS_c (by omega) (notS_c (by omega) (notS_n))) (notS_c (by omega) (notS_c (by omega) (notS_n))) (fun i => (notS_c (by omega) (notS_c (by omega) (notS_n)))) (fun a h1 h2 i => (notS_c (by omega) (notS_c (by omega) (notS_n)))) hq), hs25.2.2.1 _ _ (notS_c (by omega) (notS_c (by omega) (notS_n)))⟩)⟩)
/-- LoopGround image -/
abbrev S_130v  : mS := [(144, 146, 0, 17), (147, 147, 0, 2)]
abbrev E_130v (t : Nat) (a1 : Int) (z0 w0 : mZ) (x y tx it mt tt ct : Option Nat) : Int → mZ → mZ → mP → Prop := fun v z w p => p = (pq x y tx it mt tt ct) ∧ (-9223372036854775808) ≤ v ∧ v ≤ 9223372036854775807 ∧ (CV z w t ∧ (GA z0 z0 t → GA z z t) ∧ z 1 15 = z0 1 15)
theorem m_130v {d : Nat} {z0 w0 : mZ} {x y tx it mt tt ct : Option Nat} (t : Nat) (a1 : Int) (hz : rz z0) (hw : rw_ w0) (ha1 : (-2147483648) ≤ a1 ∧ a1 ≤ 2147483647) (ht : isT t) (hcv : CV z0 w0 t) : wc (d + 2) 130 [.ref 1, .int (Int32.ofInt a1)] (mk z0 w0 (pq x y tx it mt tt ct)) (poL S_130v z0 w0 (E_130v t a1 z0 w0 x y tx it mt tt ct)) := by
  have hst : st_ S_130v z0 w0 z0 w0 := st_rf hz hw
  have htb : 159 ≤ t ∧ t ≤ 192 := by have := ht; unfold isT at this; omega
  have hz36 := rd_1_15 hz
  have hwt := hcv.1
  have hzt3 := rd_T_3 ht hz
  have h390 := rd_39_0 hz
  have h391 := rd_39_1 hz
  have h392 := rd_39_2 hz
  refine w_m rfl rfl ?_
  refine r_ld (pc' := 1) rfl rfl rfl rfl ?_
  refine r_zlt (pc' := 4) rfl rfl ⟨by omega, by omega⟩ (fun hc37 => ?_) (fun hc37 => ?_)
  · skip
    refine r_al (pc' := 12) rfl rfl rfl rfl ?_
    have hb38 := rd_1_15 hz
    exact r_rl rfl (po_L hst ⟨by decide, by decide⟩ ⟨rfl, by omega, by omega, (by first | exact ⟨hcv, fun q => q, rfl⟩ | exact ⟨CV_b ht hz hst (notS_c (by omega) (notS_c (by omega) (notS_n))) (notS_c (by omega) (notS_c (by omega) (notS_n))) (notS_c (by omega) (notS_c (by omega) (notS_n))) (notS_c (by omega) (notS_c (by omega) (notS_n))) (notS_c (by omega) (notS_c (by omega) (notS_n))) (fun i => (notS_c (by omega) (notS_c (by omega) (notS_n)))) (fun i => (notS_c (by omega) (notS_c (by omega) (notS_n)))) (fun i => (notS_c (by omega) (notS_c (by omega) (notS_n)))) (fun a h1 h2 i => (notS_c (by omega) (notS_c (by omega) (notS_n)))) (notS_c (by omega) (notS_c (by omega) (notS_n))) (notS_c (by omega) (notS_c (by omega) (notS_n))) (notS_c (by omega) (notS_c (by omega) (notS_n))) (fun a h1 h2 i => (notS_c (by omega) (notS_c (by omega) (notS_n)))) hcv hbx, (fun hq => GA_f ht hz hst (notS_c (by omega) (notS_c (by omega) (notS_n))) (notS_c (by omega) (notS_c (by omega) (notS_n))) (fun i => (notS_c (by omega) (notS_c (by omega) (notS_n)))) (fun a h1 h2 i => (notS_c (by omega) (notS_c (by omega) (notS_n)))) hq), hst.2.2.1 _ _ (notS_c (by omega) (notS_c (by omega) (notS_n)))⟩)⟩)
  · skip
    refine r_ld (pc' := 5) rfl rfl rfl rfl ?_
    refine r_c0 (pc' := 6) rfl rfl ?_
    refine r_ilt (pc' := 9) rfl rfl ⟨by omega, by omega⟩ ⟨by decide, by decide⟩ (fun hc39 => ?_) (fun hc39 => ?_)
    · skip
      refine r_ld (pc' := 14) rfl rfl rfl rfl ?_
      refine r_gr (b := 39) (pc' := 17) rfl rfl sh_1 rfl pp_1_6 ?_
      refine r_cVR (pc' := 20) rfl rfl rfl rfl rfl sh_39 (m_2 (d := d)  hst.1 hst.2.1 ) (fun v40 z41 w42 p43 hs45 hE46 => ?_)
      rcases hE46 with ⟨rfl, rfl, rfl, rfl, hrw⟩
      have hb48 := rd_39_2 hz
      have hb49 := rd_39_0 hz
      refine r_ld (pc' := 21) rfl rfl rfl rfl ?_
      refine r_gr (b := 143) (pc' := 24) rfl rfl sh_1 rfl pp_1_8 ?_
      refine r_ld (pc' := 25) rfl rfl rfl rfl ?_
      refine r_aa (b := 144 + a1.toNat) (pc' := 26) rfl rfl sh_143 (Or.inl rfl) rfl (by omega) (by omega) (pa_143 (by omega)) ?_
      refine r_cSV (pc' := 29) rfl rfl rfl rfl rfl (m_140b (d := d) (41 + ((z0 39 2 + (z0 39 0)) % 61).toNat) (144 + a1.toNat) hst.1 hst.2.1 (by first | omega | assumption) (by exact NB_A (by omega) hw) (lr_41 (k := ((z0 39 2 + (z0 39 0)) % 61).toNat) (by omega) ) (by first | omega | assumption) (lr_144 (k := a1.toNat) (by omega) ) (wrb_144 (k := a1.toNat) (by omega) ) (by first | omega | assumption)) (fun z51 w52 p53 hs55 hE56 => ?_)
      have hs57 := st_tr hst hs55 (subS_c (fun _ _ _ _ _ _ => inS_0 (by omega) (by omega) (by omega) (by omega)) subS_n)
      obtain ⟨rfl, hE56⟩ := hE56
      have hcp := hE56
      refine r_ld (pc' := 30) rfl rfl rfl rfl ?_
      refine r_gr (b := 147) (pc' := 33) rfl rfl sh_1 rfl pp_1_9 ?_
      refine r_ld (pc' := 34) rfl rfl rfl rfl ?_
      refine r_c0 (pc' := 35) rfl rfl ?_
      refine r_zs (pc' := 36) rfl rfl sh_147 rfl (by omega) (by omega) (by omega) hs57 (inS_s (inS_0 (by omega) (by omega) (by omega) (by omega))) (wr_147 ⟨by omega, by omega⟩) (fun z58 hq59 hs60 => ?_)
      have hqb := hq59
      have hbx : BX z58 w52 t := BX_i (b0 := a1.toNat) hwt hcv.2.2.2.1 (hs60.2.2.1 _ _ (notS_c (by omega) (notS_c (by omega) (notS_n)))) (funext fun i => hs60.2.2.1 _ _ (notS_c (by omega) (notS_c (by omega) (notS_n)))) (AK_now hcv.2.2.1 (by omega) (by omega)) (fun j hj => hcp j hj) (fun b hb hne => ⟨funext fun i => (hs55.2.2.2 _ _ (notS_c (by omega) notS_n)), (((congrFun (congrFun hq59 _) _).trans (mu_ne (by omega))).trans (hs55.2.2.1 _ _ (notS_c (by omega) notS_n)))⟩)
      refine r_ld (pc' := 37) rfl rfl rfl rfl ?_
      refine r_gr (b := 143) (pc' := 40) rfl rfl sh_1 rfl pp_1_8 ?_
      refine r_ld (pc' := 41) rfl rfl rfl rfl ?_
      refine r_aa (b := 144 + a1.toNat) (pc' := 42) rfl rfl sh_143 (Or.inl rfl) rfl (by omega) (by omega) (pa_143 (by omega)) ?_
      refine r_cSL (pc' := 45) rfl rfl rfl rfl rfl (m_142 (d := d) (144 + a1.toNat) hs60.1 hs60.2.1 (lr_144 (k := a1.toNat) (by omega) ) (by first | omega | assumption)) (fun v61 z62 w63 p64 h65 hs66 hE67 => ?_)
      obtain ⟨rfl, rfl, rfl, hE67⟩ := hE67
      have hb69 := rd_1_15 hz
      have hf70 : z58 1 15 = z0 1 15 := (((congrFun (congrFun hq59 _) _).trans (mu_ne (by omega))).trans (hs55.2.2.1 _ _ (notS_c (by omega) notS_n)))
      exact r_rl rfl (po_L hs60 ⟨by omega, by omega⟩ ⟨rfl, by omega, by omega, (by first | exact ⟨hcv, fun q => q, rfl⟩ | exact ⟨CV_b ht hz hs60 (notS_c (by omega) (notS_c (by omega) (notS_n))) (notS_c (by omega) (notS_c (by omega) (notS_n))) (notS_c (by omega) (notS_c (by omega) (notS_n))) (notS_c (by omega) (notS_c (by omega) (notS_n))) (notS_c (by omega) (notS_c (by omega) (notS_n))) (fun i => (notS_c (by omega) (notS_c (by omega) (notS_n)))) (fun i => (notS_c (by omega) (notS_c (by omega) (notS_n)))) (fun i => (notS_c (by omega) (notS_c (by omega) (notS_n)))) (fun a h1 h2 i => (notS_c (by omega) (notS_c (by omega) (notS_n)))) (notS_c (by omega) (notS_c (by omega) (notS_n))) (notS_c (by omega) (notS_c (by omega) (notS_n))) (notS_c (by omega) (notS_c (by omega) (notS_n))) (fun a h1 h2 i => (notS_c (by omega) (notS_c (by omega) (notS_n)))) hcv hbx, (fun hq => GA_f ht hz hs60 (notS_c (by omega) (notS_c (by omega) (notS_n))) (notS_c (by omega) (notS_c (by omega) (notS_n))) (fun i => (notS_c (by omega) (notS_c (by omega) (notS_n)))) (fun a h1 h2 i => (notS_c (by omega) (notS_c (by omega) (notS_n)))) hq), hs60.2.2.1 _ _ (notS_c (by omega) (notS_c (by omega) (notS_n)))⟩)⟩)
    · skip
      refine r_al (pc' := 12) rfl rfl rfl rfl ?_
      have hb71 := rd_1_15 hz
      exact r_rl rfl (po_L hst ⟨by decide, by decide⟩ ⟨rfl, by omega, by omega, (by first | exact ⟨hcv, fun q => q, rfl⟩ | exact ⟨CV_b ht hz hst (notS_c (by omega) (notS_c (by omega) (notS_n))) (notS_c (by omega) (notS_c (by omega) (notS_n))) (notS_c (by omega) (notS_c (by omega) (notS_n))) (notS_c (by omega) (notS_c (by omega) (notS_n))) (notS_c (by omega) (notS_c (by omega) (notS_n))) (fun i => (notS_c (by omega) (notS_c (by omega) (notS_n)))) (fun i => (notS_c (by omega) (notS_c (by omega) (notS_n)))) (fun i => (notS_c (by omega) (notS_c (by omega) (notS_n)))) (fun a h1 h2 i => (notS_c (by omega) (notS_c (by omega) (notS_n)))) (notS_c (by omega) (notS_c (by omega) (notS_n))) (notS_c (by omega) (notS_c (by omega) (notS_n))) (notS_c (by omega) (notS_c (by omega) (notS_n))) (fun a h1 h2 i => (notS_c (by omega) (notS_c (by omega) (notS_n)))) hcv hbx, (fun hq => GA_f ht hz hst (notS_c (by omega) (notS_c (by omega) (notS_n))) (notS_c (by omega) (notS_c (by omega) (notS_n))) (fun i => (notS_c (by omega) (notS_c (by omega) (notS_n)))) (fun a h1 h2 i => (notS_c (by omega) (notS_c (by omega) (notS_n)))) hq), hst.2.2.1 _ _ (notS_c (by omega) (notS_c (by omega) (notS_n)))⟩)⟩)
/-- Counter wrongEdge -/
abbrev S_10v  : mS := []
abbrev E_10v (t : Nat) (z0 w0 : mZ) (x y tx it mt tt : Option Nat) : Int → mZ → mZ → mP → Prop := fun v z w p => p = (pq x y tx it mt tt (some t)) ∧ z0 = z ∧ w0 = w ∧ (-1) ≤ v ∧ v ≤ 17 ∧ ((v = -1 → FTt z0 t (w0 34)))
theorem m_10v {d : Nat} {z0 w0 : mZ} {x y tx it mt tt : Option Nat} (t : Nat) (hz : rz z0) (hw : rw_ w0) (ht : isT t) : wc (d + 3) 10 [.ref 33] (mk z0 w0 (pq x y tx it mt tt (some t))) (poI S_10v z0 w0 (E_10v t z0 w0 x y tx it mt tt)) := by
  have hst : st_ S_10v z0 w0 z0 w0 := st_rf hz hw
  have htb : 159 ≤ t ∧ t ≤ 192 := by have := ht; unfold isT at this; omega
  have hz22 := rd_T_0 ht hz
  have key : ∀ N : Nat, (∀ (x1 x2 : Int) , (-1) ≤ x1 ∧ x1 ≤ 17 → 0 ≤ x2 ∧ x2 ≤ 12 → (x1 = -1 → ∀ q : Nat, (q : Int) < x2 → tri (w0 34 (vT (z0 (t + 1)) (3 * q))) (w0 34 (vT (z0 (t + 1)) (3 * q + 1))) (w0 34 (vT (z0 (t + 1)) (3 * q + 2)))) → (x2 ≤ z0 t 0) → 35 * (12 - x2) + 30 < (N : Int) → wp_ (d + 2) 10 4 (some .int) (4, [(0, .ref 33), (1, .int (Int32.ofInt x1)), (2, .int (Int32.ofInt x2))], [], mk z0 w0 (pq x y tx it mt tt (some t))) (poI S_10v z0 w0 (E_10v t z0 w0 x y tx it mt tt))) ∧ (∀ (x2 x3 : Int) , 0 ≤ x2 ∧ x2 ≤ 11 → 0 ≤ x3 ∧ x3 ≤ 17 → 1 ≤ z0 t 0 ∧ z0 t 0 ≤ 12 → (x2 < z0 t 0) → 35 * (12 - x2) + 6 < (N : Int) → wp_ (d + 2) 10 4 (some .int) (49, [(0, .ref 33), (2, .int (Int32.ofInt x2)), (3, .int (Int32.ofInt x3))], [], mk z0 w0 (pq x y tx it mt tt (some t))) (poI S_10v z0 w0 (E_10v t z0 w0 x y tx it mt tt))) := by
    intro N
    induction N with
    | zero =>
      refine ⟨?_, ?_⟩
      · intro x1 x2 
        intros; exfalso; omega
      · intro x2 x3 
        intros; exfalso; omega
    | succ N ih =>
      obtain ⟨ih0, ih1⟩ := ih
      refine ⟨?_, ?_⟩
      · intro x1 x2  hx1 hx2 as1 as2 hM
        refine r_ld (pc' := 5) rfl rfl rfl rfl ?_
        refine r_ld (pc' := 6) rfl rfl rfl rfl ?_
        refine r_gr (b := t) (pc' := 9) rfl rfl sh_33 rfl pp_33_1 ?_
        have hb23 := rd_T_0 ht hz
        refine r_gi (pc' := 12) rfl rfl (sh_T ht) rfl rfl ?_
        refine r_ige (pc' := 15) rfl rfl ⟨by omega, by omega⟩ ⟨by omega, by omega⟩ (fun hc24 => ?_) (fun hc24 => ?_)
        · skip
          refine r_ld (pc' := 62) rfl rfl rfl rfl ?_
          exact r_ri rfl (po_I hst ⟨by omega, by omega⟩ ⟨rfl, rfl, rfl, by omega, by omega, (by intro h; exact FT_of (fun e he => (rd_34 hw (i := e) he).1) (fun q hq => as1 (by omega) q (by omega)))⟩)
        · skip
          refine r_ld (pc' := 16) rfl rfl rfl rfl ?_
          refine r_gr (b := t) (pc' := 19) rfl rfl sh_33 rfl pp_33_1 ?_
          refine r_ld (pc' := 20) rfl rfl rfl rfl ?_
          refine r_ld (pc' := 21) rfl rfl rfl rfl ?_
          refine r_gr (b := 34) (pc' := 24) rfl rfl sh_33 rfl pp_33_0 ?_
          refine r_cVI (pc' := 27) rfl rfl rfl rfl rfl (sh_T ht) (m_79 (d := d + 1) t x2 34 hst.1 hst.2.1 ⟨by omega, by omega⟩ ht lr_34 (by first | omega | assumption) (fun e he => by have q := rd_34 hst.2.1 (i := e) he; exact ⟨by omega, by omega⟩)) (fun v25 z26 w27 p28 h29 hs30 hE31 => ?_)
          obtain ⟨rfl, rfl, rfl, hE31⟩ := hE31
          have hfi := hE31.2.2
          refine r_zne (pc' := 30) rfl rfl ⟨by omega, by omega⟩ (fun hc33 => ?_) (fun hc33 => ?_)
          · skip
            refine r_inc (pc' := 58) (lv' := [(0, _), (1, _)]) rfl rfl rfl rfl rfl ?_
            refine r_go rfl ?_
            exact w_lv (sub_c rfl (sub_c rfl (sub_c rfl sub_n))) rfl (ih0 x1 (x2 + 1) ⟨by omega, by omega⟩ ⟨by omega, by omega⟩ (by first | (intro h; exfalso; omega) | (intro h q hq; exfalso; omega) | (intro h q hq; by_cases k : (q : Int) = x2; (have h9 := hfi (by omega); rw [show (3 * x2).toNat = 3 * q by omega, show (3 * x2 + 1).toNat = 3 * q + 1 by omega, show (3 * x2 + 2).toNat = 3 * q + 2 by omega] at h9; exact h9); exact as1 h q (by omega))) (by first | omega | assumption) (by omega))
          · skip
            refine r_ld (pc' := 31) rfl rfl rfl rfl ?_
            refine r_gr (b := t) (pc' := 34) rfl rfl sh_33 rfl pp_33_1 ?_
            refine r_ld (pc' := 35) rfl rfl rfl rfl ?_
            refine r_cVI (pc' := 38) rfl rfl rfl rfl rfl (sh_T ht) (m_81 (d := d) t x2 hst.1 hst.2.1 ⟨by omega, by omega⟩ ht) (fun v34 z35 w36 p37 h38 hs39 hE40 => ?_)
            obtain ⟨rfl, rfl, rfl, hE40⟩ := hE40
            refine r_st (pc' := 39) (lv' := [(3, _), (0, _), (1, _), (2, _)]) rfl rfl rfl rfl ?_
            refine r_ld (pc' := 40) rfl rfl rfl rfl ?_
            refine r_c0 (pc' := 41) rfl rfl ?_
            refine r_ieq (pc' := 44) rfl rfl ⟨by omega, by omega⟩ ⟨by decide, by decide⟩ (fun hc42 => ?_) (fun hc42 => ?_)
            · skip
              exact w_lv (sub_c rfl (sub_c rfl (sub_c rfl sub_n))) rfl (ih1 x2 v34 ⟨by omega, by omega⟩ ⟨by omega, by omega⟩ ⟨by omega, by omega⟩ (by first | omega | assumption) (by omega))
            · skip
              refine r_ld (pc' := 45) rfl rfl rfl rfl ?_
              refine r_ld (pc' := 46) rfl rfl rfl rfl ?_
              refine r_ige (pc' := 49) rfl rfl ⟨by omega, by omega⟩ ⟨by omega, by omega⟩ (fun hc43 => ?_) (fun hc43 => ?_)
              · skip
                refine r_ld (pc' := 54) rfl rfl rfl rfl ?_
                refine r_st (pc' := 55) (lv' := [(1, _), (3, _), (0, _), (2, _)]) rfl rfl rfl rfl ?_
                refine r_inc (pc' := 58) (lv' := [(1, _), (3, _), (0, _)]) rfl rfl rfl rfl rfl ?_
                refine r_go rfl ?_
                exact w_lv (sub_c rfl (sub_c rfl (sub_c rfl sub_n))) rfl (ih0 x1 (x2 + 1) ⟨by omega, by omega⟩ ⟨by omega, by omega⟩ (by first | (intro h; exfalso; omega) | (intro h q hq; exfalso; omega) | (intro h q hq; by_cases k : (q : Int) = x2; (have h9 := hfi (by omega); rw [show (3 * x2).toNat = 3 * q by omega, show (3 * x2 + 1).toNat = 3 * q + 1 by omega, show (3 * x2 + 2).toNat = 3 * q + 2 by omega] at h9; exact h9); exact as1 h q (by omega))) (by first | omega | assumption) (by omega))
              · skip
                exact w_lv (sub_c rfl (sub_c rfl (sub_c rfl sub_n))) rfl (ih1 x2 v34 ⟨by omega, by omega⟩ ⟨by omega, by omega⟩ ⟨by omega, by omega⟩ (by first | omega | assumption) (by omega))
      · intro x2 x3  hx2 hx3 hz0_0 as2 hM
        refine r_ld (pc' := 50) rfl rfl rfl rfl ?_
        refine r_go rfl ?_
        refine r_st (pc' := 55) (lv' := [(1, _), (0, _), (2, _), (3, _)]) rfl rfl rfl rfl ?_
        refine r_inc (pc' := 58) (lv' := [(1, _), (0, _), (3, _)]) rfl rfl rfl rfl rfl ?_
        refine r_go rfl ?_
        exact w_lv (sub_c rfl (sub_c rfl (sub_c rfl sub_n))) rfl (ih0 x3 (x2 + 1) ⟨by omega, by omega⟩ ⟨by omega, by omega⟩ (by first | (intro h; exfalso; omega) | (intro h q hq; exfalso; omega) | (intro h q hq; by_cases k : (q : Int) = x2; (have h9 := hfi (by omega); rw [show (3 * x2).toNat = 3 * q by omega, show (3 * x2 + 1).toNat = 3 * q + 1 by omega, show (3 * x2 + 2).toNat = 3 * q + 2 by omega] at h9; exact h9); exact as1 h q (by omega))) (by first | omega | assumption) (by omega))
  refine w_m rfl rfl ?_
  refine r_c0 (pc' := 1) rfl rfl ?_
  refine r_st (pc' := 2) (lv' := [(1, _), (0, _)]) rfl rfl rfl rfl ?_
  refine r_c0 (pc' := 3) rfl rfl ?_
  refine r_st (pc' := 4) (lv' := [(2, _), (1, _), (0, _)]) rfl rfl rfl rfl ?_
  exact w_lv (sub_c rfl (sub_c rfl (sub_c rfl sub_n))) rfl ((key ((35 * (12 - 0) + 30 : Int).toNat + 1)).1 ((-1)) 0 ⟨by omega, by omega⟩ ⟨by omega, by omega⟩ (by first | (intro h; exfalso; omega) | (intro h q hq; exfalso; omega) | (intro h q hq; by_cases k : (q : Int) = x2; (have h9 := hfi (by omega); rw [show (3 * x2).toNat = 3 * q by omega, show (3 * x2 + 1).toNat = 3 * q + 1 by omega, show (3 * x2 + 2).toNat = 3 * q + 2 by omega] at h9; exact h9); exact as1 h q (by omega))) (by first | omega | assumption) (by omega))
/-- LoopGround act -/
abbrev S_126  : mS := [(39, 39, 1, 1), (39, 39, 2, 2), (39, 39, 0, 0), (41, 101, 0, 17)]
abbrev E_126 (t : Nat) (a1 : Int) (z0 w0 : mZ) (x y tx it mt tt ct : Option Nat) : Int → mZ → mZ → mP → Prop := fun v z w p => p = (pq x y tx it mt tt ct) ∧ (-9223372036854775808) ≤ v ∧ v ≤ 9223372036854775807 ∧ (CV z w t ∧ (GA z0 z0 t → GA z z t) ∧ z 1 15 = z0 1 15)
theorem m_126 {d : Nat} {z0 w0 : mZ} {x y tx it mt tt ct : Option Nat} (t : Nat) (a1 : Int) (hz : rz z0) (hw : rw_ w0) (ha1 : 0 ≤ a1 ∧ a1 ≤ 1) (ht : isT t) (hcv : CV z0 w0 t) (hri : a1 = 1 → FTt z0 t (w0 157) ∧ NBr w0 157) : wc (d + 3) 126 [.ref 1, .int (Int32.ofInt a1)] (mk z0 w0 (pq x y tx it mt tt ct)) (poL S_126 z0 w0 (E_126 t a1 z0 w0 x y tx it mt tt ct)) := by
  have hst : st_ S_126 z0 w0 z0 w0 := st_rf hz hw
  have htb : 159 ≤ t ∧ t ≤ 192 := by have := ht; unfold isT at this; omega
  have hz21 := rd_1_15 hz
  have hwt := hcv.1
  have hzt3 := rd_T_3 ht hz
  have h390 := rd_39_0 hz
  have h391 := rd_39_1 hz
  have h392 := rd_39_2 hz
  refine w_m rfl rfl ?_
  refine r_ld (pc' := 1) rfl rfl rfl rfl ?_
  refine r_zne (pc' := 4) rfl rfl ⟨by omega, by omega⟩ (fun hc22 => ?_) (fun hc22 => ?_)
  · skip
    refine r_ld (pc' := 9) rfl rfl rfl rfl ?_
    refine r_gr (b := 39) (pc' := 12) rfl rfl sh_1 rfl pp_1_6 ?_
    refine r_ld (pc' := 13) rfl rfl rfl rfl ?_
    refine r_gr (b := 157) (pc' := 16) rfl rfl sh_1 rfl pp_1_11 ?_
    refine r_cVV (pc' := 19) rfl rfl rfl rfl rfl sh_39 (m_3 (d := d) t 157 hst.1 hst.2.1 ht (by exact hwt) (by exact hcv.2.2.1) (by exact (hri (by omega)).1) (by exact (hri (by omega)).2) (by first | omega | assumption) lr_157 (by first | omega | assumption)) (fun z24 w25 p26 hs28 hE29 => ?_)
    have hs30 := st_tr hst hs28 (sub_B rfl)
    obtain ⟨rfl, hE29⟩ := hE29
    have hak2 := hE29
    refine r_ld (pc' := 20) rfl rfl rfl rfl ?_
    refine r_gr (b := 157) (pc' := 23) rfl rfl sh_1 rfl pp_1_11 ?_
    refine r_cSL (pc' := 26) rfl rfl rfl rfl rfl (m_142 (d := d + 1) 157 hs30.1 hs30.2.1 lr_157 (by first | omega | assumption)) (fun v31 z32 w33 p34 h35 hs36 hE37 => ?_)
    obtain ⟨rfl, rfl, rfl, hE37⟩ := hE37
    have hb39 := rd_1_15 hz
    have hf40 : z24 1 15 = z0 1 15 := (hs28.2.2.1 _ _ (notS_c (by omega) (notS_c (by omega) (notS_c (by omega) (notS_c (by omega) notS_n)))))
    exact r_rl rfl (po_L hs30 ⟨by omega, by omega⟩ ⟨rfl, by omega, by omega, (by first | exact ⟨hcv, fun q => q, rfl⟩ | exact ⟨CV_a ht hz hs30 (notS_c (by omega) (notS_c (by omega) (notS_c (by omega) (notS_c (by omega) (notS_n))))) (notS_c (by omega) (notS_c (by omega) (notS_c (by omega) (notS_c (by omega) (notS_n))))) (notS_c (by omega) (notS_c (by omega) (notS_c (by omega) (notS_c (by omega) (notS_n))))) (notS_c (by omega) (notS_c (by omega) (notS_c (by omega) (notS_c (by omega) (notS_n))))) (notS_c (by omega) (notS_c (by omega) (notS_c (by omega) (notS_c (by omega) (notS_n))))) (fun i => (notS_c (by omega) (notS_c (by omega) (notS_c (by omega) (notS_c (by omega) (notS_n)))))) (fun i => (notS_c (by omega) (notS_c (by omega) (notS_c (by omega) (notS_c (by omega) (notS_n)))))) (fun i => (notS_c (by omega) (notS_c (by omega) (notS_c (by omega) (notS_c (by omega) (notS_n)))))) (fun a h1 h2 i => (notS_c (by omega) (notS_c (by omega) (notS_c (by omega) (notS_c (by omega) (notS_n)))))) (fun a h1 h2 i => (notS_c (by omega) (notS_c (by omega) (notS_c (by omega) (notS_c (by omega) (notS_n)))))) hcv hak2, (fun hq => GA_f ht hz hs30 (notS_c (by omega) (notS_c (by omega) (notS_c (by omega) (notS_c (by omega) (notS_n))))) (notS_c (by omega) (notS_c (by omega) (notS_c (by omega) (notS_c (by omega) (notS_n))))) (fun i => (notS_c (by omega) (notS_c (by omega) (notS_c (by omega) (notS_c (by omega) (notS_n)))))) (fun a h1 h2 i => (notS_c (by omega) (notS_c (by omega) (notS_c (by omega) (notS_c (by omega) (notS_n)))))) hq), hs30.2.2.1 _ _ (notS_c (by omega) (notS_c (by omega) (notS_c (by omega) (notS_c (by omega) (notS_n)))))⟩ | exact ⟨CV_f ht hz hs30 (notS_c (by omega) (notS_c (by omega) (notS_c (by omega) (notS_c (by omega) (notS_n))))) (notS_c (by omega) (notS_c (by omega) (notS_c (by omega) (notS_c (by omega) (notS_n))))) (notS_c (by omega) (notS_c (by omega) (notS_c (by omega) (notS_c (by omega) (notS_n))))) (notS_c (by omega) (notS_c (by omega) (notS_c (by omega) (notS_c (by omega) (notS_n))))) (notS_c (by omega) (notS_c (by omega) (notS_c (by omega) (notS_c (by omega) (notS_n))))) (fun i => (notS_c (by omega) (notS_c (by omega) (notS_c (by omega) (notS_c (by omega) (notS_n)))))) (fun i => (notS_c (by omega) (notS_c (by omega) (notS_c (by omega) (notS_c (by omega) (notS_n)))))) (fun i => (notS_c (by omega) (notS_c (by omega) (notS_c (by omega) (notS_c (by omega) (notS_n)))))) (fun a h1 h2 i => (notS_c (by omega) (notS_c (by omega) (notS_c (by omega) (notS_c (by omega) (notS_n)))))) (notS_c (by omega) (notS_c (by omega) (notS_c (by omega) (notS_c (by omega) (notS_n))))) (notS_c (by omega) (notS_c (by omega) (notS_c (by omega) (notS_c (by omega) (notS_n))))) (notS_c (by omega) (notS_c (by omega) (notS_c (by omega) (notS_c (by omega) (notS_n))))) (fun a h1 h2 i => (notS_c (by omega) (notS_c (by omega) (notS_c (by omega) (notS_c (by omega) (notS_n)))))) (fun a h1 h2 i => (notS_c (by omega) (notS_c (by omega) (notS_c (by omega) (notS_c (by omega) (notS_n)))))) hcv, (fun hq => GA_f ht hz hs30 (notS_c (by omega) (notS_c (by omega) (notS_c (by omega) (notS_c (by omega) (notS_n))))) (notS_c (by omega) (notS_c (by omega) (notS_c (by omega) (notS_c (by omega) (notS_n))))) (fun i => (notS_c (by omega) (notS_c (by omega) (notS_c (by omega) (notS_c (by omega) (notS_n)))))) (fun a h1 h2 i => (notS_c (by omega) (notS_c (by omega) (notS_c (by omega) (notS_c (by omega) (notS_n)))))) hq), hs30.2.2.1 _ _ (notS_c (by omega) (notS_c (by omega) (notS_c (by omega) (notS_c (by omega) (notS_n)))))⟩)⟩)
  · skip
    refine r_al (pc' := 7) rfl rfl rfl rfl ?_
    have hb41 := rd_1_15 hz
    exact r_rl rfl (po_L hst ⟨by decide, by decide⟩ ⟨rfl, by omega, by omega, (by first | exact ⟨hcv, fun q => q, rfl⟩ | exact ⟨CV_a ht hz hst (notS_c (by omega) (notS_c (by omega) (notS_c (by omega) (notS_c (by omega) (notS_n))))) (notS_c (by omega) (notS_c (by omega) (notS_c (by omega) (notS_c (by omega) (notS_n))))) (notS_c (by omega) (notS_c (by omega) (notS_c (by omega) (notS_c (by omega) (notS_n))))) (notS_c (by omega) (notS_c (by omega) (notS_c (by omega) (notS_c (by omega) (notS_n))))) (notS_c (by omega) (notS_c (by omega) (notS_c (by omega) (notS_c (by omega) (notS_n))))) (fun i => (notS_c (by omega) (notS_c (by omega) (notS_c (by omega) (notS_c (by omega) (notS_n)))))) (fun i => (notS_c (by omega) (notS_c (by omega) (notS_c (by omega) (notS_c (by omega) (notS_n)))))) (fun i => (notS_c (by omega) (notS_c (by omega) (notS_c (by omega) (notS_c (by omega) (notS_n)))))) (fun a h1 h2 i => (notS_c (by omega) (notS_c (by omega) (notS_c (by omega) (notS_c (by omega) (notS_n)))))) (fun a h1 h2 i => (notS_c (by omega) (notS_c (by omega) (notS_c (by omega) (notS_c (by omega) (notS_n)))))) hcv hak2, (fun hq => GA_f ht hz hst (notS_c (by omega) (notS_c (by omega) (notS_c (by omega) (notS_c (by omega) (notS_n))))) (notS_c (by omega) (notS_c (by omega) (notS_c (by omega) (notS_c (by omega) (notS_n))))) (fun i => (notS_c (by omega) (notS_c (by omega) (notS_c (by omega) (notS_c (by omega) (notS_n)))))) (fun a h1 h2 i => (notS_c (by omega) (notS_c (by omega) (notS_c (by omega) (notS_c (by omega) (notS_n)))))) hq), hst.2.2.1 _ _ (notS_c (by omega) (notS_c (by omega) (notS_c (by omega) (notS_c (by omega) (notS_n)))))⟩ | exact ⟨CV_f ht hz hst (notS_c (by omega) (notS_c (by omega) (notS_c (by omega) (notS_c (by omega) (notS_n))))) (notS_c (by omega) (notS_c (by omega) (notS_c (by omega) (notS_c (by omega) (notS_n))))) (notS_c (by omega) (notS_c (by omega) (notS_c (by omega) (notS_c (by omega) (notS_n))))) (notS_c (by omega) (notS_c (by omega) (notS_c (by omega) (notS_c (by omega) (notS_n))))) (notS_c (by omega) (notS_c (by omega) (notS_c (by omega) (notS_c (by omega) (notS_n))))) (fun i => (notS_c (by omega) (notS_c (by omega) (notS_c (by omega) (notS_c (by omega) (notS_n)))))) (fun i => (notS_c (by omega) (notS_c (by omega) (notS_c (by omega) (notS_c (by omega) (notS_n)))))) (fun i => (notS_c (by omega) (notS_c (by omega) (notS_c (by omega) (notS_c (by omega) (notS_n)))))) (fun a h1 h2 i => (notS_c (by omega) (notS_c (by omega) (notS_c (by omega) (notS_c (by omega) (notS_n)))))) (notS_c (by omega) (notS_c (by omega) (notS_c (by omega) (notS_c (by omega) (notS_n))))) (notS_c (by omega) (notS_c (by omega) (notS_c (by omega) (notS_c (by omega) (notS_n))))) (notS_c (by omega) (notS_c (by omega) (notS_c (by omega) (notS_c (by omega) (notS_n))))) (fun a h1 h2 i => (notS_c (by omega) (notS_c (by omega) (notS_c (by omega) (notS_c (by omega) (notS_n)))))) (fun a h1 h2 i => (notS_c (by omega) (notS_c (by omega) (notS_c (by omega) (notS_c (by omega) (notS_n)))))) hcv, (fun hq => GA_f ht hz hst (notS_c (by omega) (notS_c (by omega) (notS_c (by omega) (notS_c (by omega) (notS_n))))) (notS_c (by omega) (notS_c (by omega) (notS_c (by omega) (notS_c (by omega) (notS_n))))) (fun i => (notS_c (by omega) (notS_c (by omega) (notS_c (by omega) (notS_c (by omega) (notS_n)))))) (fun a h1 h2 i => (notS_c (by omega) (notS_c (by omega) (notS_c (by omega) (notS_c (by omega) (notS_n)))))) hq), hst.2.2.1 _ _ (notS_c (by omega) (notS_c (by omega) (notS_c (by omega) (notS_c (by omega) (notS_n)))))⟩)⟩)
/-- LoopGround back -/
abbrev S_131v  : mS := [(39, 39, 0, 0), (39, 39, 1, 1), (41, 101, 0, 17)]
abbrev E_131v (t : Nat) (a1 : Int) (z0 w0 : mZ) (x y tx it mt tt ct : Option Nat) : Int → mZ → mZ → mP → Prop := fun v z w p => p = (pq x y tx it mt tt ct) ∧ (-9223372036854775808) ≤ v ∧ v ≤ 9223372036854775807 ∧ (CV z w t ∧ (GA z0 z0 t → GA z z t) ∧ z 1 15 = z0 1 15)
theorem m_131v {d : Nat} {z0 w0 : mZ} {x y tx it mt tt ct : Option Nat} (t : Nat) (a1 : Int) (hz : rz z0) (hw : rw_ w0) (ha1 : (-2147483648) ≤ a1 ∧ a1 ≤ 2147483647) (ht : isT t) (hcv : CV z0 w0 t) : wc (d + 3) 131 [.ref 1, .int (Int32.ofInt a1)] (mk z0 w0 (pq x y tx it mt tt ct)) (poL S_131v z0 w0 (E_131v t a1 z0 w0 x y tx it mt tt ct)) := by
  have hst : st_ S_131v z0 w0 z0 w0 := st_rf hz hw
  have htb : 159 ≤ t ∧ t ≤ 192 := by have := ht; unfold isT at this; omega
  have hz27 := rd_1_15 hz
  have hwt := hcv.1
  have hzt3 := rd_T_3 ht hz
  have h390 := rd_39_0 hz
  have h391 := rd_39_1 hz
  have h392 := rd_39_2 hz
  refine w_m rfl rfl ?_
  refine r_ld (pc' := 1) rfl rfl rfl rfl ?_
  refine r_zlt (pc' := 4) rfl rfl ⟨by omega, by omega⟩ (fun hc28 => ?_) (fun hc28 => ?_)
  · skip
    refine r_al (pc' := 21) rfl rfl rfl rfl ?_
    have hb29 := rd_1_15 hz
    exact r_rl rfl (po_L hst ⟨by decide, by decide⟩ ⟨rfl, by omega, by omega, (by first | exact ⟨hcv, fun q => q, rfl⟩ | exact ⟨CV_a ht hz hst (notS_c (by omega) (notS_c (by omega) (notS_c (by omega) (notS_n)))) (notS_c (by omega) (notS_c (by omega) (notS_c (by omega) (notS_n)))) (notS_c (by omega) (notS_c (by omega) (notS_c (by omega) (notS_n)))) (notS_c (by omega) (notS_c (by omega) (notS_c (by omega) (notS_n)))) (notS_c (by omega) (notS_c (by omega) (notS_c (by omega) (notS_n)))) (fun i => (notS_c (by omega) (notS_c (by omega) (notS_c (by omega) (notS_n))))) (fun i => (notS_c (by omega) (notS_c (by omega) (notS_c (by omega) (notS_n))))) (fun i => (notS_c (by omega) (notS_c (by omega) (notS_c (by omega) (notS_n))))) (fun a h1 h2 i => (notS_c (by omega) (notS_c (by omega) (notS_c (by omega) (notS_n))))) (fun a h1 h2 i => (notS_c (by omega) (notS_c (by omega) (notS_c (by omega) (notS_n))))) hcv hak2, (fun hq => GA_f ht hz hst (notS_c (by omega) (notS_c (by omega) (notS_c (by omega) (notS_n)))) (notS_c (by omega) (notS_c (by omega) (notS_c (by omega) (notS_n)))) (fun i => (notS_c (by omega) (notS_c (by omega) (notS_c (by omega) (notS_n))))) (fun a h1 h2 i => (notS_c (by omega) (notS_c (by omega) (notS_c (by omega) (notS_n))))) hq), hst.2.2.1 _ _ (notS_c (by omega) (notS_c (by omega) (notS_c (by omega) (notS_n))))⟩ | exact ⟨CV_f ht hz hst (notS_c (by omega) (notS_c (by omega) (notS_c (by omega) (notS_n)))) (notS_c (by omega) (notS_c (by omega) (notS_c (by omega) (notS_n)))) (notS_c (by omega) (notS_c (by omega) (notS_c (by omega) (notS_n)))) (notS_c (by omega) (notS_c (by omega) (notS_c (by omega) (notS_n)))) (notS_c (by omega) (notS_c (by omega) (notS_c (by omega) (notS_n)))) (fun i => (notS_c (by omega) (notS_c (by omega) (notS_c (by omega) (notS_n))))) (fun i => (notS_c (by omega) (notS_c (by omega) (notS_c (by omega) (notS_n))))) (fun i => (notS_c (by omega) (notS_c (by omega) (notS_c (by omega) (notS_n))))) (fun a h1 h2 i => (notS_c (by omega) (notS_c (by omega) (notS_c (by omega) (notS_n))))) (notS_c (by omega) (notS_c (by omega) (notS_c (by omega) (notS_n)))) (notS_c (by omega) (notS_c (by omega) (notS_c (by omega) (notS_n)))) (notS_c (by omega) (notS_c (by omega) (notS_c (by omega) (notS_n)))) (fun a h1 h2 i => (notS_c (by omega) (notS_c (by omega) (notS_c (by omega) (notS_n))))) (fun a h1 h2 i => (notS_c (by omega) (notS_c (by omega) (notS_c (by omega) (notS_n))))) hcv, (fun hq => GA_f ht hz hst (notS_c (by omega) (notS_c (by omega) (notS_c (by omega) (notS_n)))) (notS_c (by omega) (notS_c (by omega) (notS_c (by omega) (notS_n)))) (fun i => (notS_c (by omega) (notS_c (by omega) (notS_c (by omega) (notS_n))))) (fun a h1 h2 i => (notS_c (by omega) (notS_c (by omega) (notS_c (by omega) (notS_n))))) hq), hst.2.2.1 _ _ (notS_c (by omega) (notS_c (by omega) (notS_c (by omega) (notS_n))))⟩)⟩)
  · skip
    refine r_ld (pc' := 5) rfl rfl rfl rfl ?_
    refine r_c0 (pc' := 6) rfl rfl ?_
    refine r_ige (pc' := 9) rfl rfl ⟨by omega, by omega⟩ ⟨by decide, by decide⟩ (fun hc30 => ?_) (fun hc30 => ?_)
    · skip
      refine r_al (pc' := 21) rfl rfl rfl rfl ?_
      have hb31 := rd_1_15 hz
      exact r_rl rfl (po_L hst ⟨by decide, by decide⟩ ⟨rfl, by omega, by omega, (by first | exact ⟨hcv, fun q => q, rfl⟩ | exact ⟨CV_a ht hz hst (notS_c (by omega) (notS_c (by omega) (notS_c (by omega) (notS_n)))) (notS_c (by omega) (notS_c (by omega) (notS_c (by omega) (notS_n)))) (notS_c (by omega) (notS_c (by omega) (notS_c (by omega) (notS_n)))) (notS_c (by omega) (notS_c (by omega) (notS_c (by omega) (notS_n)))) (notS_c (by omega) (notS_c (by omega) (notS_c (by omega) (notS_n)))) (fun i => (notS_c (by omega) (notS_c (by omega) (notS_c (by omega) (notS_n))))) (fun i => (notS_c (by omega) (notS_c (by omega) (notS_c (by omega) (notS_n))))) (fun i => (notS_c (by omega) (notS_c (by omega) (notS_c (by omega) (notS_n))))) (fun a h1 h2 i => (notS_c (by omega) (notS_c (by omega) (notS_c (by omega) (notS_n))))) (fun a h1 h2 i => (notS_c (by omega) (notS_c (by omega) (notS_c (by omega) (notS_n))))) hcv hak2, (fun hq => GA_f ht hz hst (notS_c (by omega) (notS_c (by omega) (notS_c (by omega) (notS_n)))) (notS_c (by omega) (notS_c (by omega) (notS_c (by omega) (notS_n)))) (fun i => (notS_c (by omega) (notS_c (by omega) (notS_c (by omega) (notS_n))))) (fun a h1 h2 i => (notS_c (by omega) (notS_c (by omega) (notS_c (by omega) (notS_n))))) hq), hst.2.2.1 _ _ (notS_c (by omega) (notS_c (by omega) (notS_c (by omega) (notS_n))))⟩ | exact ⟨CV_f ht hz hst (notS_c (by omega) (notS_c (by omega) (notS_c (by omega) (notS_n)))) (notS_c (by omega) (notS_c (by omega) (notS_c (by omega) (notS_n)))) (notS_c (by omega) (notS_c (by omega) (notS_c (by omega) (notS_n)))) (notS_c (by omega) (notS_c (by omega) (notS_c (by omega) (notS_n)))) (notS_c (by omega) (notS_c (by omega) (notS_c (by omega) (notS_n)))) (fun i => (notS_c (by omega) (notS_c (by omega) (notS_c (by omega) (notS_n))))) (fun i => (notS_c (by omega) (notS_c (by omega) (notS_c (by omega) (notS_n))))) (fun i => (notS_c (by omega) (notS_c (by omega) (notS_c (by omega) (notS_n))))) (fun a h1 h2 i => (notS_c (by omega) (notS_c (by omega) (notS_c (by omega) (notS_n))))) (notS_c (by omega) (notS_c (by omega) (notS_c (by omega) (notS_n)))) (notS_c (by omega) (notS_c (by omega) (notS_c (by omega) (notS_n)))) (notS_c (by omega) (notS_c (by omega) (notS_c (by omega) (notS_n)))) (fun a h1 h2 i => (notS_c (by omega) (notS_c (by omega) (notS_c (by omega) (notS_n))))) (fun a h1 h2 i => (notS_c (by omega) (notS_c (by omega) (notS_c (by omega) (notS_n))))) hcv, (fun hq => GA_f ht hz hst (notS_c (by omega) (notS_c (by omega) (notS_c (by omega) (notS_n)))) (notS_c (by omega) (notS_c (by omega) (notS_c (by omega) (notS_n)))) (fun i => (notS_c (by omega) (notS_c (by omega) (notS_c (by omega) (notS_n))))) (fun a h1 h2 i => (notS_c (by omega) (notS_c (by omega) (notS_c (by omega) (notS_n))))) hq), hst.2.2.1 _ _ (notS_c (by omega) (notS_c (by omega) (notS_c (by omega) (notS_n))))⟩)⟩)
    · skip
      refine r_ld (pc' := 10) rfl rfl rfl rfl ?_
      refine r_gr (b := 147) (pc' := 13) rfl rfl sh_1 rfl pp_1_9 ?_
      refine r_ld (pc' := 14) rfl rfl rfl rfl ?_
      have hb32 := rd_147 hz (i := a1.toNat) (by omega)
      refine r_ba (pc' := 15) rfl rfl sh_147 (Or.inr rfl) rfl (by omega) (by omega) rfl ?_
      refine r_zne (pc' := 18) rfl rfl ⟨by omega, by omega⟩ (fun hc33 => ?_) (fun hc33 => ?_)
      · skip
        refine r_ld (pc' := 23) rfl rfl rfl rfl ?_
        refine r_gr (b := 39) (pc' := 26) rfl rfl sh_1 rfl pp_1_6 ?_
        refine r_ld (pc' := 27) rfl rfl rfl rfl ?_
        refine r_gr (b := 143) (pc' := 30) rfl rfl sh_1 rfl pp_1_8 ?_
        refine r_ld (pc' := 31) rfl rfl rfl rfl ?_
        refine r_aa (b := 144 + a1.toNat) (pc' := 32) rfl rfl sh_143 (Or.inl rfl) rfl (by omega) (by omega) (pa_143 (by omega)) ?_
        have hb34 := rd_39_2 hz
        refine r_cVV (pc' := 35) rfl rfl rfl rfl rfl sh_39 (m_4b (d := d) (144 + a1.toNat) hst.1 hst.2.1 (by first | omega | assumption) (by exact fun e he => rd_144 (k := a1.toNat) (by omega) hw (i := e) he) (lr_144 (k := a1.toNat) (by omega) ) (by first | omega | assumption)) (fun z36 w37 p38 hs40 hE41 => ?_)
        have hs42 := st_tr hst hs40 (sub_B rfl)
        obtain ⟨rfl, hE41⟩ := hE41
        have hcl := hE41
        have hak2 : AK z36 w37 t := AK_c hcl.1 hcl.2.1 (FTt_fr (hs42.2.2.1 _ _ (notS_c (by omega) (notS_c (by omega) (notS_c (by omega) (notS_n))))) (funext fun i => hs42.2.2.1 _ _ (notS_c (by omega) (notS_c (by omega) (notS_c (by omega) (notS_n))))) (FTt_cg hwt hcl.2.2.2 (hcv.2.2.2.1 a1.toNat (by omega) (by omega))))
        refine r_ld (pc' := 36) rfl rfl rfl rfl ?_
        refine r_gr (b := 143) (pc' := 39) rfl rfl sh_1 rfl pp_1_8 ?_
        refine r_ld (pc' := 40) rfl rfl rfl rfl ?_
        refine r_aa (b := 144 + a1.toNat) (pc' := 41) rfl rfl sh_143 (Or.inl rfl) rfl (by omega) (by omega) (pa_143 (by omega)) ?_
        refine r_cSL (pc' := 44) rfl rfl rfl rfl rfl (m_142 (d := d + 1) (144 + a1.toNat) hs42.1 hs42.2.1 (lr_144 (k := a1.toNat) (by omega) ) (by first | omega | assumption)) (fun v43 z44 w45 p46 h47 hs48 hE49 => ?_)
        obtain ⟨rfl, rfl, rfl, hE49⟩ := hE49
        have hb51 := rd_1_15 hz
        have hf52 : z36 1 15 = z0 1 15 := (hs40.2.2.1 _ _ (notS_c (by omega) (notS_c (by omega) (notS_c (by omega) notS_n))))
        exact r_rl rfl (po_L hs42 ⟨by omega, by omega⟩ ⟨rfl, by omega, by omega, (by first | exact ⟨hcv, fun q => q, rfl⟩ | exact ⟨CV_a ht hz hs42 (notS_c (by omega) (notS_c (by omega) (notS_c (by omega) (notS_n)))) (notS_c (by omega) (notS_c (by omega) (notS_c (by omega) (notS_n)))) (notS_c (by omega) (notS_c (by omega) (notS_c (by omega) (notS_n)))) (notS_c (by omega) (notS_c (by omega) (notS_c (by omega) (notS_n)))) (notS_c (by omega) (notS_c (by omega) (notS_c (by omega) (notS_n)))) (fun i => (notS_c (by omega) (notS_c (by omega) (notS_c (by omega) (notS_n))))) (fun i => (notS_c (by omega) (notS_c (by omega) (notS_c (by omega) (notS_n))))) (fun i => (notS_c (by omega) (notS_c (by omega) (notS_c (by omega) (notS_n))))) (fun a h1 h2 i => (notS_c (by omega) (notS_c (by omega) (notS_c (by omega) (notS_n))))) (fun a h1 h2 i => (notS_c (by omega) (notS_c (by omega) (notS_c (by omega) (notS_n))))) hcv hak2, (fun hq => GA_f ht hz hs42 (notS_c (by omega) (notS_c (by omega) (notS_c (by omega) (notS_n)))) (notS_c (by omega) (notS_c (by omega) (notS_c (by omega) (notS_n)))) (fun i => (notS_c (by omega) (notS_c (by omega) (notS_c (by omega) (notS_n))))) (fun a h1 h2 i => (notS_c (by omega) (notS_c (by omega) (notS_c (by omega) (notS_n))))) hq), hs42.2.2.1 _ _ (notS_c (by omega) (notS_c (by omega) (notS_c (by omega) (notS_n))))⟩ | exact ⟨CV_f ht hz hs42 (notS_c (by omega) (notS_c (by omega) (notS_c (by omega) (notS_n)))) (notS_c (by omega) (notS_c (by omega) (notS_c (by omega) (notS_n)))) (notS_c (by omega) (notS_c (by omega) (notS_c (by omega) (notS_n)))) (notS_c (by omega) (notS_c (by omega) (notS_c (by omega) (notS_n)))) (notS_c (by omega) (notS_c (by omega) (notS_c (by omega) (notS_n)))) (fun i => (notS_c (by omega) (notS_c (by omega) (notS_c (by omega) (notS_n))))) (fun i => (notS_c (by omega) (notS_c (by omega) (notS_c (by omega) (notS_n))))) (fun i => (notS_c (by omega) (notS_c (by omega) (notS_c (by omega) (notS_n))))) (fun a h1 h2 i => (notS_c (by omega) (notS_c (by omega) (notS_c (by omega) (notS_n))))) (notS_c (by omega) (notS_c (by omega) (notS_c (by omega) (notS_n)))) (notS_c (by omega) (notS_c (by omega) (notS_c (by omega) (notS_n)))) (notS_c (by omega) (notS_c (by omega) (notS_c (by omega) (notS_n)))) (fun a h1 h2 i => (notS_c (by omega) (notS_c (by omega) (notS_c (by omega) (notS_n))))) (fun a h1 h2 i => (notS_c (by omega) (notS_c (by omega) (notS_c (by omega) (notS_n))))) hcv, (fun hq => GA_f ht hz hs42 (notS_c (by omega) (notS_c (by omega) (notS_c (by omega) (notS_n)))) (notS_c (by omega) (notS_c (by omega) (notS_c (by omega) (notS_n)))) (fun i => (notS_c (by omega) (notS_c (by omega) (notS_c (by omega) (notS_n))))) (fun a h1 h2 i => (notS_c (by omega) (notS_c (by omega) (notS_c (by omega) (notS_n))))) hq), hs42.2.2.1 _ _ (notS_c (by omega) (notS_c (by omega) (notS_c (by omega) (notS_n))))⟩)⟩)
      · skip
        refine r_al (pc' := 21) rfl rfl rfl rfl ?_
        have hb53 := rd_1_15 hz
        exact r_rl rfl (po_L hst ⟨by decide, by decide⟩ ⟨rfl, by omega, by omega, (by first | exact ⟨hcv, fun q => q, rfl⟩ | exact ⟨CV_a ht hz hst (notS_c (by omega) (notS_c (by omega) (notS_c (by omega) (notS_n)))) (notS_c (by omega) (notS_c (by omega) (notS_c (by omega) (notS_n)))) (notS_c (by omega) (notS_c (by omega) (notS_c (by omega) (notS_n)))) (notS_c (by omega) (notS_c (by omega) (notS_c (by omega) (notS_n)))) (notS_c (by omega) (notS_c (by omega) (notS_c (by omega) (notS_n)))) (fun i => (notS_c (by omega) (notS_c (by omega) (notS_c (by omega) (notS_n))))) (fun i => (notS_c (by omega) (notS_c (by omega) (notS_c (by omega) (notS_n))))) (fun i => (notS_c (by omega) (notS_c (by omega) (notS_c (by omega) (notS_n))))) (fun a h1 h2 i => (notS_c (by omega) (notS_c (by omega) (notS_c (by omega) (notS_n))))) (fun a h1 h2 i => (notS_c (by omega) (notS_c (by omega) (notS_c (by omega) (notS_n))))) hcv hak2, (fun hq => GA_f ht hz hst (notS_c (by omega) (notS_c (by omega) (notS_c (by omega) (notS_n)))) (notS_c (by omega) (notS_c (by omega) (notS_c (by omega) (notS_n)))) (fun i => (notS_c (by omega) (notS_c (by omega) (notS_c (by omega) (notS_n))))) (fun a h1 h2 i => (notS_c (by omega) (notS_c (by omega) (notS_c (by omega) (notS_n))))) hq), hst.2.2.1 _ _ (notS_c (by omega) (notS_c (by omega) (notS_c (by omega) (notS_n))))⟩ | exact ⟨CV_f ht hz hst (notS_c (by omega) (notS_c (by omega) (notS_c (by omega) (notS_n)))) (notS_c (by omega) (notS_c (by omega) (notS_c (by omega) (notS_n)))) (notS_c (by omega) (notS_c (by omega) (notS_c (by omega) (notS_n)))) (notS_c (by omega) (notS_c (by omega) (notS_c (by omega) (notS_n)))) (notS_c (by omega) (notS_c (by omega) (notS_c (by omega) (notS_n)))) (fun i => (notS_c (by omega) (notS_c (by omega) (notS_c (by omega) (notS_n))))) (fun i => (notS_c (by omega) (notS_c (by omega) (notS_c (by omega) (notS_n))))) (fun i => (notS_c (by omega) (notS_c (by omega) (notS_c (by omega) (notS_n))))) (fun a h1 h2 i => (notS_c (by omega) (notS_c (by omega) (notS_c (by omega) (notS_n))))) (notS_c (by omega) (notS_c (by omega) (notS_c (by omega) (notS_n)))) (notS_c (by omega) (notS_c (by omega) (notS_c (by omega) (notS_n)))) (notS_c (by omega) (notS_c (by omega) (notS_c (by omega) (notS_n)))) (fun a h1 h2 i => (notS_c (by omega) (notS_c (by omega) (notS_c (by omega) (notS_n))))) (fun a h1 h2 i => (notS_c (by omega) (notS_c (by omega) (notS_c (by omega) (notS_n))))) hcv, (fun hq => GA_f ht hz hst (notS_c (by omega) (notS_c (by omega) (notS_c (by omega) (notS_n)))) (notS_c (by omega) (notS_c (by omega) (notS_c (by omega) (notS_n)))) (fun i => (notS_c (by omega) (notS_c (by omega) (notS_c (by omega) (notS_n))))) (fun a h1 h2 i => (notS_c (by omega) (notS_c (by omega) (notS_c (by omega) (notS_n))))) hq), hst.2.2.1 _ _ (notS_c (by omega) (notS_c (by omega) (notS_c (by omega) (notS_n))))⟩)⟩)
/-- Counter nextFit -/
abbrev S_9v  : mS := [(34, 34, 0, 17)]
abbrev E_9v (t : Nat) (z0 w0 : mZ) (x y tx it mt tt : Option Nat) : Int → mZ → mZ → mP → Prop := fun v z w p => p = (pq x y tx it mt tt (some t)) ∧ 0 ≤ v ∧ v ≤ 1 ∧ ((v = 1 → FTt z t (w 34)))
theorem m_9v {d : Nat} {z0 w0 : mZ} {x y tx it mt tt : Option Nat} (t : Nat) (hz : rz z0) (hw : rw_ w0) (ht : isT t) : wc (d + 4) 9 [.ref 33] (mk z0 w0 (pq x y tx it mt tt (some t))) (poI S_9v z0 w0 (E_9v t z0 w0 x y tx it mt tt)) := by
  have hst : st_ S_9v z0 w0 z0 w0 := st_rf hz hw
  have htb : 159 ≤ t ∧ t ≤ 192 := by have := ht; unfold isT at this; omega
  have key : ∀ N : Nat, (∀ (x1 x2 : Int) (z w : mZ), (-1) ≤ x1 ∧ x1 ≤ 17 → 0 ≤ x2 ∧ x2 ≤ 60000 → st_ S_9v z0 w0 z w → 29 * (60000 - x2) + 20 < (N : Int) → wp_ (d + 3) 9 4 (some .boolean) (12, [(0, .ref 33), (1, .int (Int32.ofInt x1)), (2, .int (Int32.ofInt x2))], [], mk z w (pq x y tx it mt tt (some t))) (poI S_9v z0 w0 (E_9v t z0 w0 x y tx it mt tt))) := by
    intro N
    induction N with
    | zero =>
      intro x1 x2 z w
      intros; exfalso; omega
    | succ N ih =>
      have ih0 := ih; clear ih
      intro x1 x2 z w  hx1 hx2 hst hM
      refine r_ld (pc' := 13) rfl rfl rfl rfl ?_
      refine r_al (pc' := 15) rfl rfl rfl rfl ?_
      refine r_ige (pc' := 18) rfl rfl ⟨by omega, by omega⟩ ⟨by decide, by decide⟩ (fun hc21 => ?_) (fun hc21 => ?_)
      · skip
        refine r_c0 (pc' := 47) rfl rfl ?_
        exact r_rz rfl (by omega) (po_I hst ⟨by decide, by decide⟩ ⟨rfl, by omega, by omega, (by first | (intro h; exfalso; omega) | (intro _; exact hwe (by omega)))⟩)
      · skip
        refine r_ld (pc' := 19) rfl rfl rfl rfl ?_
        refine r_ld (pc' := 20) rfl rfl rfl rfl ?_
        refine r_cVI (pc' := 23) rfl rfl rfl rfl rfl sh_33 (m_11 (d := d + 2) t x1 hst.1 hst.2.1 ⟨by omega, by omega⟩ ht) (fun v22 z23 w24 p25 h26 hs27 hE28 => ?_)
        have hs29 := st_tr hst hs27 (sub_B rfl)
        obtain ⟨rfl, hE28⟩ := hE28
        refine r_zeq (pc' := 26) rfl rfl ⟨by omega, by omega⟩ (fun hc30 => ?_) (fun hc30 => ?_)
        · skip
          refine r_c0 (pc' := 47) rfl rfl ?_
          exact r_rz rfl (by omega) (po_I hs29 ⟨by decide, by decide⟩ ⟨rfl, by omega, by omega, (by first | (intro h; exfalso; omega) | (intro _; exact hwe (by omega)))⟩)
        · skip
          refine r_ld (pc' := 27) rfl rfl rfl rfl ?_
          refine r_cVI (pc' := 30) rfl rfl rfl rfl rfl sh_33 (m_10v (d := d) t hs29.1 hs29.2.1 ht) (fun v31 z32 w33 p34 h35 hs36 hE37 => ?_)
          obtain ⟨rfl, rfl, rfl, hE37⟩ := hE37
          have hwe := hE37.2.2
          refine r_st (pc' := 31) (lv' := [(3, _), (0, _), (1, _), (2, _)]) rfl rfl rfl rfl ?_
          refine r_ld (pc' := 32) rfl rfl rfl rfl ?_
          refine r_c0 (pc' := 33) rfl rfl ?_
          refine r_ine (pc' := 36) rfl rfl ⟨by omega, by omega⟩ ⟨by decide, by decide⟩ (fun hc39 => ?_) (fun hc39 => ?_)
          · skip
            refine r_ld (pc' := 39) rfl rfl rfl rfl ?_
            refine r_st (pc' := 40) (lv' := [(1, _), (3, _), (0, _), (2, _)]) rfl rfl rfl rfl ?_
            refine r_inc (pc' := 43) (lv' := [(1, _), (3, _), (0, _)]) rfl rfl rfl rfl rfl ?_
            refine r_go rfl ?_
            exact w_lv (sub_c rfl (sub_c rfl (sub_c rfl sub_n))) rfl (ih0 v31 (x2 + 1) z23 w24 ⟨by omega, by omega⟩ ⟨by omega, by omega⟩ hs29 (by omega))
          · skip
            refine r_c0 (pc' := 37) rfl rfl ?_
            exact r_rz rfl (by omega) (po_I hs29 ⟨by decide, by decide⟩ ⟨rfl, by omega, by omega, (by first | (intro h; exfalso; omega) | (intro _; exact hwe (by omega)))⟩)
  refine w_m rfl rfl ?_
  refine r_ld (pc' := 1) rfl rfl rfl rfl ?_
  refine r_gr (b := t) (pc' := 4) rfl rfl sh_33 rfl pp_33_1 ?_
  have hb40 := rd_T_1 ht hz
  refine r_gi (pc' := 7) rfl rfl (sh_T ht) rfl rfl ?_
  refine r_c0 (pc' := 8) rfl rfl ?_
  refine r_sub (pc' := 9) rfl rfl ?_
  refine r_st (pc' := 10) (lv' := [(1, _), (0, _)]) rfl rfl rfl rfl ?_
  refine r_c0 (pc' := 11) rfl rfl ?_
  refine r_st (pc' := 12) (lv' := [(2, _), (1, _), (0, _)]) rfl rfl rfl rfl ?_
  exact w_lv (sub_c rfl (sub_c rfl (sub_c rfl sub_n))) rfl ((key ((29 * (60000 - 0) + 20 : Int).toNat + 1)) ((z0 t 1) - 1) 0 z0 w0 ⟨by omega, by omega⟩ ⟨by omega, by omega⟩ hst (by omega))
/-- LoopGround twist -/
abbrev S_124s  : mS := [(157, 157, 0, 17), (39, 39, 1, 1), (39, 39, 2, 2), (39, 39, 0, 0), (41, 101, 0, 17)]
abbrev E_124s (t : Nat) (u : Nat) (a1 : Int) (a2 : Int) (z0 w0 : mZ) (tx it tt ct : Option Nat) : Int → mZ → mZ → mP → Prop := fun v z w p => p = (pq (some t) (some u) tx it (some t) tt ct) ∧ (-9223372036854775808) ≤ v ∧ v ≤ 9223372036854775807 ∧ (CV z w t ∧ (GA z0 z0 t → GA z z t) ∧ z 1 15 = z0 1 15)
theorem m_124s {d : Nat} {z0 w0 : mZ} {tx it tt ct : Option Nat} (t : Nat) (u : Nat) (a1 : Int) (a2 : Int) (hz : rz z0) (hw : rw_ w0) (ha1 : (-2147483648) ≤ a1 ∧ a1 ≤ 2147483647) (ha2 : (-2147483648) ≤ a2 ∧ a2 ≤ 2147483647) (ht : isT t) (hu : isT u) (hcv : CV z0 w0 t) (hga : GA z0 z0 t) : wc (d + 5) 124 [.ref 1, .int (Int32.ofInt a1), .int (Int32.ofInt a2)] (mk z0 w0 (pq (some t) (some u) tx it (some t) tt ct)) (poL S_124s z0 w0 (E_124s t u a1 a2 z0 w0 tx it tt ct)) := by
  have hst : st_ S_124s z0 w0 z0 w0 := st_rf hz hw
  have htb : 159 ≤ t ∧ t ≤ 192 := by have := ht; unfold isT at this; omega
  have hub : 159 ≤ u ∧ u ≤ 192 := by have := hu; unfold isT at this; omega
  have hz57 := rd_1_15 hz
  have hwt := hcv.1
  have hzt3 := rd_T_3 ht hz
  have h390 := rd_39_0 hz
  have h391 := rd_39_1 hz
  have h392 := rd_39_2 hz
  refine w_m rfl rfl ?_
  refine r_ld (pc' := 1) rfl rfl rfl rfl ?_
  refine r_gr (b := 10) (pc' := 4) rfl rfl sh_1 rfl pp_1_3 ?_
  refine r_ld (pc' := 5) rfl rfl rfl rfl ?_
  have hb58 := rd_T_3 ht hz
  refine r_cVI (pc' := 8) rfl rfl rfl rfl rfl sh_10 (m_23s (d := d + 2) t a1 hst.1 hst.2.1 ⟨by omega, by omega⟩ ht) (fun v59 z60 w61 p62 h63 hs64 hE65 => ?_)
  obtain ⟨rfl, rfl, rfl, hE65⟩ := hE65
  have hfl := hE65.2.2
  refine r_zeq (pc' := 11) rfl rfl ⟨by omega, by omega⟩ (fun hc67 => ?_) (fun hc67 => ?_)
  · skip
    refine r_al (pc' := 30) rfl rfl rfl rfl ?_
    have hb68 := rd_1_15 hz
    exact r_rl rfl (po_L hst ⟨by decide, by decide⟩ ⟨rfl, by omega, by omega, (by first | exact ⟨hcv, fun q => q, rfl⟩ | exact ⟨hac.1, fun q => hac.2.1 (hg0 q), hac.2.2.trans hl0⟩)⟩)
  · skip
    refine r_ld (pc' := 12) rfl rfl rfl rfl ?_
    refine r_zeq (pc' := 15) rfl rfl ⟨by omega, by omega⟩ (fun hc69 => ?_) (fun hc69 => ?_)
    · skip
      refine r_al (pc' := 30) rfl rfl rfl rfl ?_
      have hb70 := rd_1_15 hz
      exact r_rl rfl (po_L hst ⟨by decide, by decide⟩ ⟨rfl, by omega, by omega, (by first | exact ⟨hcv, fun q => q, rfl⟩ | exact ⟨hac.1, fun q => hac.2.1 (hg0 q), hac.2.2.trans hl0⟩)⟩)
    · skip
      refine r_ld (pc' := 16) rfl rfl rfl rfl ?_
      refine r_cb (pc' := 18) rfl (by decide) rfl ?_
      refine r_ilt (pc' := 21) rfl rfl ⟨by omega, by omega⟩ ⟨by decide, by decide⟩ (fun hc71 => ?_) (fun hc71 => ?_)
      · skip
        refine r_al (pc' := 30) rfl rfl rfl rfl ?_
        have hb72 := rd_1_15 hz
        exact r_rl rfl (po_L hst ⟨by decide, by decide⟩ ⟨rfl, by omega, by omega, (by first | exact ⟨hcv, fun q => q, rfl⟩ | exact ⟨hac.1, fun q => hac.2.1 (hg0 q), hac.2.2.trans hl0⟩)⟩)
      · skip
        refine r_ld (pc' := 22) rfl rfl rfl rfl ?_
        refine r_cb (pc' := 24) rfl (by decide) rfl ?_
        refine r_ile (pc' := 27) rfl rfl ⟨by omega, by omega⟩ ⟨by decide, by decide⟩ (fun hc73 => ?_) (fun hc73 => ?_)
        · skip
          refine r_ld (pc' := 32) rfl rfl rfl rfl ?_
          refine r_gr (b := 39) (pc' := 35) rfl rfl sh_1 rfl pp_1_6 ?_
          refine r_cVR (pc' := 38) rfl rfl rfl rfl rfl sh_39 (m_2 (d := d + 3)  hst.1 hst.2.1 ) (fun v74 z75 w76 p77 hs79 hE80 => ?_)
          rcases hE80 with ⟨rfl, rfl, rfl, rfl, hrw⟩
          have hb82 := rd_39_2 hz
          have hb83 := rd_39_0 hz
          refine r_ld (pc' := 39) rfl rfl rfl rfl ?_
          refine r_gr (b := 157) (pc' := 42) rfl rfl sh_1 rfl pp_1_11 ?_
          refine r_cSV (pc' := 45) rfl rfl rfl rfl rfl (m_140 (d := d + 3) (41 + ((z0 39 2 + (z0 39 0)) % 61).toNat) 157 hst.1 hst.2.1 (by first | omega | assumption) (lr_41 (k := ((z0 39 2 + (z0 39 0)) % 61).toNat) (by omega) ) (by first | omega | assumption) lr_157 (by first | omega | assumption) wrr_157) (fun z85 w86 p87 hs89 hE90 => ?_)
          have hs91 := st_tr hst hs89 (sub_B rfl)
          obtain ⟨rfl, hE90⟩ := hE90
          have hcp := hE90
          have hs1 := hs89
          refine r_ld (pc' := 46) rfl rfl rfl rfl ?_
          refine r_ld (pc' := 47) rfl rfl rfl rfl ?_
          refine r_gr (b := 10) (pc' := 50) rfl rfl sh_1 rfl pp_1_3 ?_
          refine r_ld (pc' := 51) rfl rfl rfl rfl ?_
          refine r_gr (b := 157) (pc' := 54) rfl rfl sh_1 rfl pp_1_11 ?_
          refine r_ld (pc' := 55) rfl rfl rfl rfl ?_
          refine r_ld (pc' := 56) rfl rfl rfl rfl ?_
          refine r_al (pc' := 57) rfl rfl rfl rfl ?_
          have e0 : z85 t 0 = z0 t 0 := hs91.2.2.1 _ _ (notS_c (by omega) (notS_c (by omega) (notS_c (by omega) (notS_c (by omega) (notS_c (by omega) (notS_n))))))
          have e1 : z85 (t + 1) = z0 (t + 1) := funext fun i => hs91.2.2.1 _ _ (notS_c (by omega) (notS_c (by omega) (notS_c (by omega) (notS_c (by omega) (notS_c (by omega) (notS_n))))))
          have hb92 := rd_R_0 (k := a1.toNat) (by omega) hz
          have hf93 : z85 (17 + 2 * a1.toNat) 0 = z0 (17 + 2 * a1.toNat) 0 := (hs89.2.2.1 _ _ (notS_c (by omega) notS_n))
          refine r_cVI (pc' := 60) rfl rfl rfl rfl rfl sh_10 (m_27n (d := d) t 157 a1 a2 hs91.1 hs91.2.1 ⟨by omega, by omega⟩ ⟨by omega, by omega⟩ ht (by exact NB_c hcp (NB_A (by omega) hw)) (by exact FTt_fr (hs91.2.2.1 _ _ (notS_c (by omega) (notS_c (by omega) (notS_c (by omega) (notS_c (by omega) (notS_c (by omega) (notS_n))))))) (funext fun i => hs91.2.2.1 _ _ (notS_c (by omega) (notS_c (by omega) (notS_c (by omega) (notS_c (by omega) (notS_c (by omega) (notS_n))))))) (FTt_cg hwt hcp (AK_now hcv.2.2.1 (by omega) (by omega)))) (by exact GRt_cg (hga a1.toNat (by omega)) (hs91.2.2.1 _ _ (notS_c (by omega) (notS_c (by omega) (notS_c (by omega) (notS_c (by omega) (notS_c (by omega) (notS_n))))))).symm (funext fun i => (hs91.2.2.1 _ _ (notS_c (by omega) (notS_c (by omega) (notS_c (by omega) (notS_c (by omega) (notS_c (by omega) (notS_n))))))).symm) (fun i _ => hs91.2.2.1 _ _ (notS_c (by omega) (notS_c (by omega) (notS_c (by omega) (notS_c (by omega) (notS_c (by omega) (notS_n))))))) (funext fun i => hs91.2.2.1 _ _ (notS_c (by omega) (notS_c (by omega) (notS_c (by omega) (notS_c (by omega) (notS_c (by omega) (notS_n)))))))) (by exact (hs91.2.2.1 _ _ (notS_c (by omega) (notS_c (by omega) (notS_c (by omega) (notS_c (by omega) (notS_c (by omega) (notS_n))))))).trans (hfl (by omega)).2.2.2) lr_157 (by first | omega | assumption | (simp only [hf93]; assumption)) wrr_157 (by first | omega | assumption | (simp only [hf93]; assumption))) (fun v94 z95 w96 p97 h98 hs99 hE100 => ?_)
          have hs101 := st_tr hs91 hs99 (sub_B rfl)
          obtain ⟨rfl, hE100⟩ := hE100
          have htw := hE100.2.2
          have hsm : st_ [(157, 157, 0, 17)] z0 w0 z95 w96 := st_tr hs1 hs99 (fun a i q => q)
          have hg0 : GA z0 z0 t → GA z95 z95 t := (fun hq => GA_f ht hz hs101 (notS_c (by omega) (notS_c (by omega) (notS_c (by omega) (notS_c (by omega) (notS_c (by omega) (notS_n)))))) (notS_c (by omega) (notS_c (by omega) (notS_c (by omega) (notS_c (by omega) (notS_c (by omega) (notS_n)))))) (fun i => (notS_c (by omega) (notS_c (by omega) (notS_c (by omega) (notS_c (by omega) (notS_c (by omega) (notS_n))))))) (fun a h1 h2 i => (notS_c (by omega) (notS_c (by omega) (notS_c (by omega) (notS_c (by omega) (notS_c (by omega) (notS_n))))))) hq)
          have hl0 : z95 1 15 = z0 1 15 := hs101.2.2.1 _ _ (notS_c (by omega) (notS_c (by omega) (notS_c (by omega) (notS_c (by omega) (notS_c (by omega) (notS_n))))))
          have hb102 := rd_1_15 hz
          have hf103 : z95 1 15 = z0 1 15 := ((hs99.2.2.1 _ _ (notS_c (by omega) notS_n)).trans (hs89.2.2.1 _ _ (notS_c (by omega) notS_n)))
          refine r_cVL (pc' := 63) rfl rfl rfl rfl rfl sh_1 (m_126 (d := d + 1) t v94 hs101.1 hs101.2.1 ⟨by omega, by omega⟩ ht (by exact CV_f ht hz hsm (notS_c (by omega) notS_n) (notS_c (by omega) notS_n) (notS_c (by omega) notS_n) (notS_c (by omega) notS_n) (notS_c (by omega) notS_n) (fun i => (notS_c (by omega) notS_n)) (fun i => (notS_c (by omega) notS_n)) (fun i => (notS_c (by omega) notS_n)) (fun a h1 h2 i => (notS_c (by omega) notS_n)) (notS_c (by omega) notS_n) (notS_c (by omega) notS_n) (notS_c (by omega) notS_n) (fun a h1 h2 i => (notS_c (by omega) notS_n)) (fun a h1 h2 i => (notS_c (by omega) notS_n)) hcv) (by exact fun q => ⟨FTt_fr (hs101.2.2.1 _ _ (notS_c (by omega) (notS_c (by omega) (notS_c (by omega) (notS_c (by omega) (notS_c (by omega) (notS_n))))))) (funext fun i => hs101.2.2.1 _ _ (notS_c (by omega) (notS_c (by omega) (notS_c (by omega) (notS_c (by omega) (notS_c (by omega) (notS_n))))))) (FTt_fr e0.symm e1.symm (htw q).1), (htw q).2⟩)) (fun v104 z105 w106 p107 h108 hs109 hE110 => ?_)
          have hs111 := st_tr hs101 hs109 (sub_B rfl)
          obtain ⟨rfl, hE110⟩ := hE110
          have hac := hE110.2.2
          have hf112 : z105 1 15 = z0 1 15 := ((hs109.2.2.1 _ _ (notS_c (by omega) (notS_c (by omega) (notS_c (by omega) (notS_c (by omega) notS_n))))).trans ((hs99.2.2.1 _ _ (notS_c (by omega) notS_n)).trans (hs89.2.2.1 _ _ (notS_c (by omega) notS_n))))
          exact r_rl rfl (po_L hs111 ⟨by omega, by omega⟩ ⟨rfl, by omega, by omega, (by first | exact ⟨hcv, fun q => q, rfl⟩ | exact ⟨hac.1, fun q => hac.2.1 (hg0 q), hac.2.2.trans hl0⟩)⟩)
        · skip
          refine r_al (pc' := 30) rfl rfl rfl rfl ?_
          have hb113 := rd_1_15 hz
          exact r_rl rfl (po_L hst ⟨by decide, by decide⟩ ⟨rfl, by omega, by omega, (by first | exact ⟨hcv, fun q => q, rfl⟩ | exact ⟨hac.1, fun q => hac.2.1 (hg0 q), hac.2.2.trans hl0⟩)⟩)
/-- LoopGround twist -/
abbrev S_124z  : mS := []
abbrev E_124z (t : Nat) (u : Nat) (a1 : Int) (a2 : Int) (z0 w0 : mZ) (tx it tt ct : Option Nat) : Int → mZ → mZ → mP → Prop := fun v z w p => p = (pq (some t) (some u) tx it none tt ct) ∧ z0 = z ∧ w0 = w ∧ (-1) ≤ v ∧ v ≤ (-1) ∧ (CV z w t ∧ (GA z0 z0 t → GA z z t) ∧ z 1 15 = z0 1 15)
theorem m_124z {d : Nat} {z0 w0 : mZ} {tx it tt ct : Option Nat} (t : Nat) (u : Nat) (a1 : Int) (a2 : Int) (hz : rz z0) (hw : rw_ w0) (ha1 : (-2147483648) ≤ a1 ∧ a1 ≤ 2147483647) (ha2 : (-2147483648) ≤ a2 ∧ a2 ≤ 2147483647) (ht : isT t) (hu : isT u) (hcv : CV z0 w0 t) : wc (d + 5) 124 [.ref 1, .int (Int32.ofInt a1), .int (Int32.ofInt a2)] (mk z0 w0 (pq (some t) (some u) tx it none tt ct)) (poL S_124z z0 w0 (E_124z t u a1 a2 z0 w0 tx it tt ct)) := by
  have hst : st_ S_124z z0 w0 z0 w0 := st_rf hz hw
  have htb : 159 ≤ t ∧ t ≤ 192 := by have := ht; unfold isT at this; omega
  have hub : 159 ≤ u ∧ u ≤ 192 := by have := hu; unfold isT at this; omega
  have hz10 := rd_1_15 hz
  have hwt := hcv.1
  have hzt3 := rd_T_3 ht hz
  have h390 := rd_39_0 hz
  have h391 := rd_39_1 hz
  have h392 := rd_39_2 hz
  refine w_m rfl rfl ?_
  refine r_ld (pc' := 1) rfl rfl rfl rfl ?_
  refine r_gr (b := 10) (pc' := 4) rfl rfl sh_1 rfl pp_1_3 ?_
  refine r_ld (pc' := 5) rfl rfl rfl rfl ?_
  refine r_cVI (pc' := 8) rfl rfl rfl rfl rfl sh_10 (m_23z (d := d + 2) a1 hst.1 hst.2.1 ⟨by omega, by omega⟩) (fun v11 z12 w13 p14 h15 hs16 hE17 => ?_)
  obtain ⟨rfl, rfl, rfl, hE17⟩ := hE17
  refine r_zeq (pc' := 11) rfl rfl ⟨by omega, by omega⟩ (fun hc19 => ?_) (fun hc19 => ?_)
  · skip
    refine r_al (pc' := 30) rfl rfl rfl rfl ?_
    exact r_rl rfl (po_L hst ⟨by decide, by decide⟩ ⟨rfl, rfl, rfl, by omega, by omega, (by first | exact ⟨hcv, fun q => q, rfl⟩ | exact ⟨CV_f ht hz hst (notS_n) (notS_n) (notS_n) (notS_n) (notS_n) (fun i => (notS_n)) (fun i => (notS_n)) (fun i => (notS_n)) (fun a h1 h2 i => (notS_n)) (notS_n) (notS_n) (notS_n) (fun a h1 h2 i => (notS_n)) (fun a h1 h2 i => (notS_n)) hcv, (fun hq => GA_f ht hz hst (notS_n) (notS_n) (fun i => (notS_n)) (fun a h1 h2 i => (notS_n)) hq), hst.2.2.1 _ _ (notS_n)⟩)⟩)
  · exfalso; omega
/-- LoopGround go -/
abbrev S_125s  : mS := [(157, 157, 0, 17), (39, 39, 1, 1), (39, 39, 2, 2), (39, 39, 0, 0), (41, 101, 0, 17)]
abbrev E_125s (t : Nat) (u : Nat) (a1 : Int) (z0 w0 : mZ) (tx it tt ct : Option Nat) : Int → mZ → mZ → mP → Prop := fun v z w p => p = (pq (some t) (some u) tx it (some t) tt ct) ∧ (-9223372036854775808) ≤ v ∧ v ≤ 9223372036854775807 ∧ (CV z w t ∧ (GA z0 z0 t → GA z z t) ∧ z 1 15 = z0 1 15)
theorem m_125s {d : Nat} {z0 w0 : mZ} {tx it tt ct : Option Nat} (t : Nat) (u : Nat) (a1 : Int) (hz : rz z0) (hw : rw_ w0) (ha1 : (-2147483648) ≤ a1 ∧ a1 ≤ 2147483647) (ht : isT t) (hu : isT u) (hcv : CV z0 w0 t) (hga : GA z0 z0 t) : wc (d + 6) 125 [.ref 1, .int (Int32.ofInt a1)] (mk z0 w0 (pq (some t) (some u) tx it (some t) tt ct)) (poL S_125s z0 w0 (E_125s t u a1 z0 w0 tx it tt ct)) := by
  have hst : st_ S_125s z0 w0 z0 w0 := st_rf hz hw
  have htb : 159 ≤ t ∧ t ≤ 192 := by have := ht; unfold isT at this; omega
  have hub : 159 ≤ u ∧ u ≤ 192 := by have := hu; unfold isT at this; omega
  have hz49 := rd_1_15 hz
  have hwt := hcv.1
  have hzt3 := rd_T_3 ht hz
  have h390 := rd_39_0 hz
  have h391 := rd_39_1 hz
  have h392 := rd_39_2 hz
  refine w_m rfl rfl ?_
  refine r_ld (pc' := 1) rfl rfl rfl rfl ?_
  refine r_gr (b := 10) (pc' := 4) rfl rfl sh_1 rfl pp_1_3 ?_
  refine r_ld (pc' := 5) rfl rfl rfl rfl ?_
  have hb50 := rd_T_4 ht hz
  refine r_cVI (pc' := 8) rfl rfl rfl rfl rfl sh_10 (m_24s (d := d + 2) t a1 hst.1 hst.2.1 ⟨by omega, by omega⟩ ht) (fun v51 z52 w53 p54 h55 hs56 hE57 => ?_)
  obtain ⟨rfl, rfl, rfl, hE57⟩ := hE57
  have hfv := hE57.2.2
  refine r_zne (pc' := 11) rfl rfl ⟨by omega, by omega⟩ (fun hc59 => ?_) (fun hc59 => ?_)
  · skip
    refine r_ld (pc' := 16) rfl rfl rfl rfl ?_
    refine r_gr (b := 39) (pc' := 19) rfl rfl sh_1 rfl pp_1_6 ?_
    refine r_cVR (pc' := 22) rfl rfl rfl rfl rfl sh_39 (m_2 (d := d + 4)  hst.1 hst.2.1 ) (fun v60 z61 w62 p63 hs65 hE66 => ?_)
    rcases hE66 with ⟨rfl, rfl, rfl, rfl, hrw⟩
    have hb68 := rd_39_2 hz
    have hb69 := rd_39_0 hz
    refine r_ld (pc' := 23) rfl rfl rfl rfl ?_
    refine r_gr (b := 157) (pc' := 26) rfl rfl sh_1 rfl pp_1_11 ?_
    refine r_cSV (pc' := 29) rfl rfl rfl rfl rfl (m_140 (d := d + 4) (41 + ((z0 39 2 + (z0 39 0)) % 61).toNat) 157 hst.1 hst.2.1 (by first | omega | assumption) (lr_41 (k := ((z0 39 2 + (z0 39 0)) % 61).toNat) (by omega) ) (by first | omega | assumption) lr_157 (by first | omega | assumption) wrr_157) (fun z71 w72 p73 hs75 hE76 => ?_)
    have hs77 := st_tr hst hs75 (sub_B rfl)
    obtain ⟨rfl, hE76⟩ := hE76
    have hcp := hE76
    have hs1 := hs75
    refine r_ld (pc' := 30) rfl rfl rfl rfl ?_
    refine r_ld (pc' := 31) rfl rfl rfl rfl ?_
    refine r_gr (b := 10) (pc' := 34) rfl rfl sh_1 rfl pp_1_3 ?_
    refine r_ld (pc' := 35) rfl rfl rfl rfl ?_
    refine r_gr (b := 157) (pc' := 38) rfl rfl sh_1 rfl pp_1_11 ?_
    refine r_ld (pc' := 39) rfl rfl rfl rfl ?_
    refine r_al (pc' := 40) rfl rfl rfl rfl ?_
    have e0 : z71 t 0 = z0 t 0 := hs77.2.2.1 _ _ (notS_c (by omega) (notS_c (by omega) (notS_c (by omega) (notS_c (by omega) (notS_c (by omega) (notS_n))))))
    have e1 : z71 (t + 1) = z0 (t + 1) := funext fun i => hs77.2.2.1 _ _ (notS_c (by omega) (notS_c (by omega) (notS_c (by omega) (notS_c (by omega) (notS_c (by omega) (notS_n))))))
    refine r_cVI (pc' := 43) rfl rfl rfl rfl rfl sh_10 (m_26n (d := d) t 157 a1 hs77.1 hs77.2.1 ⟨by omega, by omega⟩ ht (by exact NB_c hcp (NB_A (by omega) hw)) (by exact FTt_fr (hs77.2.2.1 _ _ (notS_c (by omega) (notS_c (by omega) (notS_c (by omega) (notS_c (by omega) (notS_c (by omega) (notS_n))))))) (funext fun i => hs77.2.2.1 _ _ (notS_c (by omega) (notS_c (by omega) (notS_c (by omega) (notS_c (by omega) (notS_c (by omega) (notS_n))))))) (FTt_cg hwt hcp (AK_now hcv.2.2.1 (by omega) (by omega)))) (by exact GA_f ht hz hs77 (notS_c (by omega) (notS_c (by omega) (notS_c (by omega) (notS_c (by omega) (notS_c (by omega) (notS_n)))))) (notS_c (by omega) (notS_c (by omega) (notS_c (by omega) (notS_c (by omega) (notS_c (by omega) (notS_n)))))) (fun i => (notS_c (by omega) (notS_c (by omega) (notS_c (by omega) (notS_c (by omega) (notS_c (by omega) (notS_n))))))) (fun a h1 h2 i => (notS_c (by omega) (notS_c (by omega) (notS_c (by omega) (notS_c (by omega) (notS_c (by omega) (notS_n))))))) hga) (by exact FW_f ht hz hs77 (by omega) (notS_c (by omega) (notS_c (by omega) (notS_c (by omega) (notS_c (by omega) (notS_c (by omega) (notS_n)))))) (fun i => (notS_c (by omega) (notS_c (by omega) (notS_c (by omega) (notS_c (by omega) (notS_c (by omega) (notS_n))))))) (fun a h1 h2 i => (notS_c (by omega) (notS_c (by omega) (notS_c (by omega) (notS_c (by omega) (notS_c (by omega) (notS_n))))))) (fun a h1 h2 i => (notS_c (by omega) (notS_c (by omega) (notS_c (by omega) (notS_c (by omega) (notS_c (by omega) (notS_n))))))) (hfv (by omega)).2.2.2) lr_157 (by first | omega | assumption) wrr_157 (by first | omega | assumption)) (fun v78 z79 w80 p81 h82 hs83 hE84 => ?_)
    have hs85 := st_tr hs77 hs83 (sub_B rfl)
    obtain ⟨rfl, hE84⟩ := hE84
    have htw := hE84.2.2
    have hsm : st_ [(157, 157, 0, 17)] z0 w0 z79 w80 := st_tr hs1 hs83 (fun a i q => q)
    have hg0 : GA z0 z0 t → GA z79 z79 t := (fun hq => GA_f ht hz hs85 (notS_c (by omega) (notS_c (by omega) (notS_c (by omega) (notS_c (by omega) (notS_c (by omega) (notS_n)))))) (notS_c (by omega) (notS_c (by omega) (notS_c (by omega) (notS_c (by omega) (notS_c (by omega) (notS_n)))))) (fun i => (notS_c (by omega) (notS_c (by omega) (notS_c (by omega) (notS_c (by omega) (notS_c (by omega) (notS_n))))))) (fun a h1 h2 i => (notS_c (by omega) (notS_c (by omega) (notS_c (by omega) (notS_c (by omega) (notS_c (by omega) (notS_n))))))) hq)
    have hl0 : z79 1 15 = z0 1 15 := hs85.2.2.1 _ _ (notS_c (by omega) (notS_c (by omega) (notS_c (by omega) (notS_c (by omega) (notS_c (by omega) (notS_n))))))
    have hb86 := rd_1_15 hz
    have hf87 : z79 1 15 = z0 1 15 := ((hs83.2.2.1 _ _ (notS_c (by omega) notS_n)).trans (hs75.2.2.1 _ _ (notS_c (by omega) notS_n)))
    refine r_cVL (pc' := 46) rfl rfl rfl rfl rfl sh_1 (m_126 (d := d + 2) t v78 hs85.1 hs85.2.1 ⟨by omega, by omega⟩ ht (by exact CV_f ht hz hsm (notS_c (by omega) notS_n) (notS_c (by omega) notS_n) (notS_c (by omega) notS_n) (notS_c (by omega) notS_n) (notS_c (by omega) notS_n) (fun i => (notS_c (by omega) notS_n)) (fun i => (notS_c (by omega) notS_n)) (fun i => (notS_c (by omega) notS_n)) (fun a h1 h2 i => (notS_c (by omega) notS_n)) (notS_c (by omega) notS_n) (notS_c (by omega) notS_n) (notS_c (by omega) notS_n) (fun a h1 h2 i => (notS_c (by omega) notS_n)) (fun a h1 h2 i => (notS_c (by omega) notS_n)) hcv) (by exact fun q => ⟨FTt_fr (hs85.2.2.1 _ _ (notS_c (by omega) (notS_c (by omega) (notS_c (by omega) (notS_c (by omega) (notS_c (by omega) (notS_n))))))) (funext fun i => hs85.2.2.1 _ _ (notS_c (by omega) (notS_c (by omega) (notS_c (by omega) (notS_c (by omega) (notS_c (by omega) (notS_n))))))) (FTt_fr e0.symm e1.symm (htw q).1), (htw q).2⟩)) (fun v88 z89 w90 p91 h92 hs93 hE94 => ?_)
    have hs95 := st_tr hs85 hs93 (sub_B rfl)
    obtain ⟨rfl, hE94⟩ := hE94
    have hac := hE94.2.2
    have hf96 : z89 1 15 = z0 1 15 := ((hs93.2.2.1 _ _ (notS_c (by omega) (notS_c (by omega) (notS_c (by omega) (notS_c (by omega) notS_n))))).trans ((hs83.2.2.1 _ _ (notS_c (by omega) notS_n)).trans (hs75.2.2.1 _ _ (notS_c (by omega) notS_n))))
    exact r_rl rfl (po_L hs95 ⟨by omega, by omega⟩ ⟨rfl, by omega, by omega, (by first | exact ⟨hcv, fun q => q, rfl⟩ | exact ⟨hac.1, fun q => hac.2.1 (hg0 q), hac.2.2.trans hl0⟩)⟩)
  · skip
    refine r_al (pc' := 14) rfl rfl rfl rfl ?_
    have hb97 := rd_1_15 hz
    exact r_rl rfl (po_L hst ⟨by decide, by decide⟩ ⟨rfl, by omega, by omega, (by first | exact ⟨hcv, fun q => q, rfl⟩ | exact ⟨hac.1, fun q => hac.2.1 (hg0 q), hac.2.2.trans hl0⟩)⟩)
/-- LoopGround go -/
abbrev S_125z  : mS := []
abbrev E_125z (t : Nat) (u : Nat) (a1 : Int) (z0 w0 : mZ) (tx it tt ct : Option Nat) : Int → mZ → mZ → mP → Prop := fun v z w p => p = (pq (some t) (some u) tx it none tt ct) ∧ z0 = z ∧ w0 = w ∧ (-1) ≤ v ∧ v ≤ (-1) ∧ (CV z w t ∧ (GA z0 z0 t → GA z z t) ∧ z 1 15 = z0 1 15)
theorem m_125z {d : Nat} {z0 w0 : mZ} {tx it tt ct : Option Nat} (t : Nat) (u : Nat) (a1 : Int) (hz : rz z0) (hw : rw_ w0) (ha1 : (-2147483648) ≤ a1 ∧ a1 ≤ 2147483647) (ht : isT t) (hu : isT u) (hcv : CV z0 w0 t) : wc (d + 6) 125 [.ref 1, .int (Int32.ofInt a1)] (mk z0 w0 (pq (some t) (some u) tx it none tt ct)) (poL S_125z z0 w0 (E_125z t u a1 z0 w0 tx it tt ct)) := by
  have hst : st_ S_125z z0 w0 z0 w0 := st_rf hz hw
  have htb : 159 ≤ t ∧ t ≤ 192 := by have := ht; unfold isT at this; omega
  have hub : 159 ≤ u ∧ u ≤ 192 := by have := hu; unfold isT at this; omega
  have hz10 := rd_1_15 hz
  have hwt := hcv.1
  have hzt3 := rd_T_3 ht hz
  have h390 := rd_39_0 hz
  have h391 := rd_39_1 hz
  have h392 := rd_39_2 hz
  refine w_m rfl rfl ?_
  refine r_ld (pc' := 1) rfl rfl rfl rfl ?_
  refine r_gr (b := 10) (pc' := 4) rfl rfl sh_1 rfl pp_1_3 ?_
  refine r_ld (pc' := 5) rfl rfl rfl rfl ?_
  refine r_cVI (pc' := 8) rfl rfl rfl rfl rfl sh_10 (m_24z (d := d + 2) a1 hst.1 hst.2.1 ⟨by omega, by omega⟩) (fun v11 z12 w13 p14 h15 hs16 hE17 => ?_)
  obtain ⟨rfl, rfl, rfl, hE17⟩ := hE17
  refine r_zne (pc' := 11) rfl rfl ⟨by omega, by omega⟩ (fun hc19 => ?_) (fun hc19 => ?_)
  · exfalso; omega
  · skip
    refine r_al (pc' := 14) rfl rfl rfl rfl ?_
    exact r_rl rfl (po_L hst ⟨by decide, by decide⟩ ⟨rfl, rfl, rfl, by omega, by omega, (by first | exact ⟨hcv, fun q => q, rfl⟩ | exact ⟨CV_f ht hz hst (notS_n) (notS_n) (notS_n) (notS_n) (notS_n) (fun i => (notS_n)) (fun i => (notS_n)) (fun i => (notS_n)) (fun a h1 h2 i => (notS_n)) (notS_n) (notS_n) (notS_n) (fun a h1 h2 i => (notS_n)) (fun a h1 h2 i => (notS_n)) hcv, (fun hq => GA_f ht hz hst (notS_n) (notS_n) (fun i => (notS_n)) (fun a h1 h2 i => (notS_n)) hq), hst.2.2.1 _ _ (notS_n)⟩)⟩)
/-- LoopGround least -/
abbrev S_121s  : mS := [(1, 1, 18, 18), (33, 33, 2, 2), (34, 34, 0, 17), (4, 4, 8, 8), (7, 7, 0, 17), (6, 6, 0, 17), (4, 4, 0, 0), (4, 4, 1, 1), (5, 5, 0, 281), (4, 4, 9, 9), (4, 4, 10, 10), (4, 4, 11, 11), (4, 4, 12, 12), (4, 4, 13, 13), (157, 157, 0, 17), (158, 158, 0, 17)]
abbrev E_121s (t : Nat) (u : Nat) (a1 : Int) (a2 : Int) (z0 w0 : mZ) (tx it tt ct : Option Nat) : Int → mZ → mZ → mP → Prop := fun v z w p => ∃ tt_e ct_e : Option Nat, p = (pq (some t) (some u) tx it (some t) tt_e ct_e) ∧ (-2147483648) ≤ v ∧ v ≤ 2147483647 ∧ (CV z w t ∧ (GA z0 z0 t → GA z z t) ∧ z 1 15 = z0 1 15)
theorem m_121s {d : Nat} {z0 w0 : mZ} {tx it tt ct : Option Nat} (t : Nat) (u : Nat) (a1 : Int) (a2 : Int) (hz : rz z0) (hw : rw_ w0) (ha1 : (-2147483648) ≤ a1 ∧ a1 ≤ 2147483647) (ha2 : (-2147483648) ≤ a2 ∧ a2 ≤ 2147483647) (ht : isT t) (hu : isT u) (hcv : CV z0 w0 t) (hga : GA z0 z0 t) : wc (d + 7) 121 [.ref 1, .int (Int32.ofInt a1), .int (Int32.ofInt a2)] (mk z0 w0 (pq (some t) (some u) tx it (some t) tt ct)) (poI S_121s z0 w0 (E_121s t u a1 a2 z0 w0 tx it tt ct)) := by
  have hst : st_ S_121s z0 w0 z0 w0 := st_rf hz hw
  have htb : 159 ≤ t ∧ t ≤ 192 := by have := ht; unfold isT at this; omega
  have hub : 159 ≤ u ∧ u ≤ 192 := by have := hu; unfold isT at this; omega
  have hz91 := rd_1_15 hz
  have hwt := hcv.1
  have hzt3 := rd_T_3 ht hz
  have h390 := rd_39_0 hz
  have h391 := rd_39_1 hz
  have h392 := rd_39_2 hz
  have key : ∀ N : Nat, (∀ (x3 : Int) (z w : mZ) (ttv : Option Nat), 0 ≤ x3 ∧ x3 ≤ 60000 → 0 ≤ a1 ∧ a1 ≤ 5 → 1 ≤ a2 ∧ a2 ≤ 3 → st_ S_121s z0 w0 z w → (0 ≤ a1 ∧ a1 ≤ 5 ∧ FW z0 t a1.toNat) → 65 * (60000 - x3) + 39 < (N : Int) → wp_ (d + 6) 121 4 (some .int) (48, [(0, .ref 1), (1, .int (Int32.ofInt a1)), (3, .int (Int32.ofInt x3))], [], mk z w (pq (some t) (some u) tx it (some t) ttv (some t))) (poI S_121s z0 w0 (E_121s t u a1 a2 z0 w0 tx it tt ct))) := by
    intro N
    induction N with
    | zero =>
      intro x3 z w ttv
      intros; exfalso; omega
    | succ N ih =>
      have ih0 := ih; clear ih
      intro x3 z w  ttv hx3 hpa1 hpa2 hst as1 hM
      refine r_ld (pc' := 49) rfl rfl rfl rfl ?_
      refine r_al (pc' := 51) rfl rfl rfl rfl ?_
      refine r_ige (pc' := 54) rfl rfl ⟨by omega, by omega⟩ ⟨by decide, by decide⟩ (fun hc92 => ?_) (fun hc92 => ?_)
      · skip
        refine r_c0 (pc' := 128) rfl rfl ?_
        have hb93 := rd_1_15 hz
        have hf94 : z 1 15 = z0 1 15 := (hst.2.2.1 _ _ (notS_c (by omega) (notS_c (by omega) (notS_c (by omega) (notS_c (by omega) (notS_c (by omega) (notS_c (by omega) (notS_c (by omega) (notS_c (by omega) (notS_c (by omega) (notS_c (by omega) (notS_c (by omega) (notS_c (by omega) (notS_c (by omega) (notS_c (by omega) (notS_c (by omega) (notS_c (by omega) notS_n)))))))))))))))))
        exact r_ri rfl (po_I hst ⟨by decide, by decide⟩ ⟨_, _, rfl, by omega, by omega, (by first | exact ⟨hcv, fun q => q, rfl⟩ | exact ⟨CV_f ht hz hst (notS_c (by omega) (notS_c (by omega) (notS_c (by omega) (notS_c (by omega) (notS_c (by omega) (notS_c (by omega) (notS_c (by omega) (notS_c (by omega) (notS_c (by omega) (notS_c (by omega) (notS_c (by omega) (notS_c (by omega) (notS_c (by omega) (notS_c (by omega) (notS_c (by omega) (notS_c (by omega) (notS_n))))))))))))))))) (notS_c (by omega) (notS_c (by omega) (notS_c (by omega) (notS_c (by omega) (notS_c (by omega) (notS_c (by omega) (notS_c (by omega) (notS_c (by omega) (notS_c (by omega) (notS_c (by omega) (notS_c (by omega) (notS_c (by omega) (notS_c (by omega) (notS_c (by omega) (notS_c (by omega) (notS_c (by omega) (notS_n))))))))))))))))) (notS_c (by omega) (notS_c (by omega) (notS_c (by omega) (notS_c (by omega) (notS_c (by omega) (notS_c (by omega) (notS_c (by omega) (notS_c (by omega) (notS_c (by omega) (notS_c (by omega) (notS_c (by omega) (notS_c (by omega) (notS_c (by omega) (notS_c (by omega) (notS_c (by omega) (notS_c (by omega) (notS_n))))))))))))))))) (notS_c (by omega) (notS_c (by omega) (notS_c (by omega) (notS_c (by omega) (notS_c (by omega) (notS_c (by omega) (notS_c (by omega) (notS_c (by omega) (notS_c (by omega) (notS_c (by omega) (notS_c (by omega) (notS_c (by omega) (notS_c (by omega) (notS_c (by omega) (notS_c (by omega) (notS_c (by omega) (notS_n))))))))))))))))) (notS_c (by omega) (notS_c (by omega) (notS_c (by omega) (notS_c (by omega) (notS_c (by omega) (notS_c (by omega) (notS_c (by omega) (notS_c (by omega) (notS_c (by omega) (notS_c (by omega) (notS_c (by omega) (notS_c (by omega) (notS_c (by omega) (notS_c (by omega) (notS_c (by omega) (notS_c (by omega) (notS_n))))))))))))))))) (fun i => (notS_c (by omega) (notS_c (by omega) (notS_c (by omega) (notS_c (by omega) (notS_c (by omega) (notS_c (by omega) (notS_c (by omega) (notS_c (by omega) (notS_c (by omega) (notS_c (by omega) (notS_c (by omega) (notS_c (by omega) (notS_c (by omega) (notS_c (by omega) (notS_c (by omega) (notS_c (by omega) (notS_n)))))))))))))))))) (fun i => (notS_c (by omega) (notS_c (by omega) (notS_c (by omega) (notS_c (by omega) (notS_c (by omega) (notS_c (by omega) (notS_c (by omega) (notS_c (by omega) (notS_c (by omega) (notS_c (by omega) (notS_c (by omega) (notS_c (by omega) (notS_c (by omega) (notS_c (by omega) (notS_c (by omega) (notS_c (by omega) (notS_n)))))))))))))))))) (fun i => (notS_c (by omega) (notS_c (by omega) (notS_c (by omega) (notS_c (by omega) (notS_c (by omega) (notS_c (by omega) (notS_c (by omega) (notS_c (by omega) (notS_c (by omega) (notS_c (by omega) (notS_c (by omega) (notS_c (by omega) (notS_c (by omega) (notS_c (by omega) (notS_c (by omega) (notS_c (by omega) (notS_n)))))))))))))))))) (fun a h1 h2 i => (notS_c (by omega) (notS_c (by omega) (notS_c (by omega) (notS_c (by omega) (notS_c (by omega) (notS_c (by omega) (notS_c (by omega) (notS_c (by omega) (notS_c (by omega) (notS_c (by omega) (notS_c (by omega) (notS_c (by omega) (notS_c (by omega) (notS_c (by omega) (notS_c (by omega) (notS_c (by omega) (notS_n)))))))))))))))))) (notS_c (by omega) (notS_c (by omega) (notS_c (by omega) (notS_c (by omega) (notS_c (by omega) (notS_c (by omega) (notS_c (by omega) (notS_c (by omega) (notS_c (by omega) (notS_c (by omega) (notS_c (by omega) (notS_c (by omega) (notS_c (by omega) (notS_c (by omega) (notS_c (by omega) (notS_c (by omega) (notS_n))))))))))))))))) (notS_c (by omega) (notS_c (by omega) (notS_c (by omega) (notS_c (by omega) (notS_c (by omega) (notS_c (by omega) (notS_c (by omega) (notS_c (by omega) (notS_c (by omega) (notS_c (by omega) (notS_c (by omega) (notS_c (by omega) (notS_c (by omega) (notS_c (by omega) (notS_c (by omega) (notS_c (by omega) (notS_n))))))))))))))))) (notS_c (by omega) (notS_c (by omega) (notS_c (by omega) (notS_c (by omega) (notS_c (by omega) (notS_c (by omega) (notS_c (by omega) (notS_c (by omega) (notS_c (by omega) (notS_c (by omega) (notS_c (by omega) (notS_c (by omega) (notS_c (by omega) (notS_c (by omega) (notS_c (by omega) (notS_c (by omega) (notS_n))))))))))))))))) (fun a h1 h2 i => (notS_c (by omega) (notS_c (by omega) (notS_c (by omega) (notS_c (by omega) (notS_c (by omega) (notS_c (by omega) (notS_c (by omega) (notS_c (by omega) (notS_c (by omega) (notS_c (by omega) (notS_c (by omega) (notS_c (by omega) (notS_c (by omega) (notS_c (by omega) (notS_c (by omega) (notS_c (by omega) (notS_n)))))))))))))))))) (fun a h1 h2 i => (notS_c (by omega) (notS_c (by omega) (notS_c (by omega) (notS_c (by omega) (notS_c (by omega) (notS_c (by omega) (notS_c (by omega) (notS_c (by omega) (notS_c (by omega) (notS_c (by omega) (notS_c (by omega) (notS_c (by omega) (notS_c (by omega) (notS_c (by omega) (notS_c (by omega) (notS_c (by omega) (notS_n)))))))))))))))))) hcv, (fun hq => GA_f ht hz hst (notS_c (by omega) (notS_c (by omega) (notS_c (by omega) (notS_c (by omega) (notS_c (by omega) (notS_c (by omega) (notS_c (by omega) (notS_c (by omega) (notS_c (by omega) (notS_c (by omega) (notS_c (by omega) (notS_c (by omega) (notS_c (by omega) (notS_c (by omega) (notS_c (by omega) (notS_c (by omega) (notS_n))))))))))))))))) (notS_c (by omega) (notS_c (by omega) (notS_c (by omega) (notS_c (by omega) (notS_c (by omega) (notS_c (by omega) (notS_c (by omega) (notS_c (by omega) (notS_c (by omega) (notS_c (by omega) (notS_c (by omega) (notS_c (by omega) (notS_c (by omega) (notS_c (by omega) (notS_c (by omega) (notS_c (by omega) (notS_n))))))))))))))))) (fun i => (notS_c (by omega) (notS_c (by omega) (notS_c (by omega) (notS_c (by omega) (notS_c (by omega) (notS_c (by omega) (notS_c (by omega) (notS_c (by omega) (notS_c (by omega) (notS_c (by omega) (notS_c (by omega) (notS_c (by omega) (notS_c (by omega) (notS_c (by omega) (notS_c (by omega) (notS_c (by omega) (notS_n)))))))))))))))))) (fun a h1 h2 i => (notS_c (by omega) (notS_c (by omega) (notS_c (by omega) (notS_c (by omega) (notS_c (by omega) (notS_c (by omega) (notS_c (by omega) (notS_c (by omega) (notS_c (by omega) (notS_c (by omega) (notS_c (by omega) (notS_c (by omega) (notS_c (by omega) (notS_c (by omega) (notS_c (by omega) (notS_c (by omega) (notS_n)))))))))))))))))) hq), hst.2.2.1 _ _ (notS_c (by omega) (notS_c (by omega) (notS_c (by omega) (notS_c (by omega) (notS_c (by omega) (notS_c (by omega) (notS_c (by omega) (notS_c (by omega) (notS_c (by omega) (notS_c (by omega) (notS_c (by omega) (notS_c (by omega) (notS_c (by omega) (notS_c (by omega) (notS_c (by omega) (notS_c (by omega) (notS_n)))))))))))))))))⟩)⟩)
      · skip
        refine r_ld (pc' := 55) rfl rfl rfl rfl ?_
        refine r_gr (b := 33) (pc' := 58) rfl rfl sh_1 rfl pp_1_4 ?_
        refine r_cVI (pc' := 61) rfl rfl rfl rfl rfl sh_33 (m_9v (d := d + 2) t hst.1 hst.2.1 ht) (fun v95 z96 w97 p98 h99 hs100 hE101 => ?_)
        have hs102 := st_tr hst hs100 (sub_B rfl)
        obtain ⟨rfl, hE101⟩ := hE101
        have hnf := hE101.2.2
        refine r_zeq (pc' := 64) rfl rfl ⟨by omega, by omega⟩ (fun hc103 => ?_) (fun hc103 => ?_)
        · skip
          refine r_c0 (pc' := 128) rfl rfl ?_
          have hb104 := rd_1_15 hz
          have hf105 : z96 1 15 = z0 1 15 := ((hs100.2.2.1 _ _ (notS_c (by omega) notS_n)).trans (hst.2.2.1 _ _ (notS_c (by omega) (notS_c (by omega) (notS_c (by omega) (notS_c (by omega) (notS_c (by omega) (notS_c (by omega) (notS_c (by omega) (notS_c (by omega) (notS_c (by omega) (notS_c (by omega) (notS_c (by omega) (notS_c (by omega) (notS_c (by omega) (notS_c (by omega) (notS_c (by omega) (notS_c (by omega) notS_n))))))))))))))))))
          exact r_ri rfl (po_I hs102 ⟨by decide, by decide⟩ ⟨_, _, rfl, by omega, by omega, (by first | exact ⟨hcv, fun q => q, rfl⟩ | exact ⟨CV_f ht hz hs102 (notS_c (by omega) (notS_c (by omega) (notS_c (by omega) (notS_c (by omega) (notS_c (by omega) (notS_c (by omega) (notS_c (by omega) (notS_c (by omega) (notS_c (by omega) (notS_c (by omega) (notS_c (by omega) (notS_c (by omega) (notS_c (by omega) (notS_c (by omega) (notS_c (by omega) (notS_c (by omega) (notS_n))))))))))))))))) (notS_c (by omega) (notS_c (by omega) (notS_c (by omega) (notS_c (by omega) (notS_c (by omega) (notS_c (by omega) (notS_c (by omega) (notS_c (by omega) (notS_c (by omega) (notS_c (by omega) (notS_c (by omega) (notS_c (by omega) (notS_c (by omega) (notS_c (by omega) (notS_c (by omega) (notS_c (by omega) (notS_n))))))))))))))))) (notS_c (by omega) (notS_c (by omega) (notS_c (by omega) (notS_c (by omega) (notS_c (by omega) (notS_c (by omega) (notS_c (by omega) (notS_c (by omega) (notS_c (by omega) (notS_c (by omega) (notS_c (by omega) (notS_c (by omega) (notS_c (by omega) (notS_c (by omega) (notS_c (by omega) (notS_c (by omega) (notS_n))))))))))))))))) (notS_c (by omega) (notS_c (by omega) (notS_c (by omega) (notS_c (by omega) (notS_c (by omega) (notS_c (by omega) (notS_c (by omega) (notS_c (by omega) (notS_c (by omega) (notS_c (by omega) (notS_c (by omega) (notS_c (by omega) (notS_c (by omega) (notS_c (by omega) (notS_c (by omega) (notS_c (by omega) (notS_n))))))))))))))))) (notS_c (by omega) (notS_c (by omega) (notS_c (by omega) (notS_c (by omega) (notS_c (by omega) (notS_c (by omega) (notS_c (by omega) (notS_c (by omega) (notS_c (by omega) (notS_c (by omega) (notS_c (by omega) (notS_c (by omega) (notS_c (by omega) (notS_c (by omega) (notS_c (by omega) (notS_c (by omega) (notS_n))))))))))))))))) (fun i => (notS_c (by omega) (notS_c (by omega) (notS_c (by omega) (notS_c (by omega) (notS_c (by omega) (notS_c (by omega) (notS_c (by omega) (notS_c (by omega) (notS_c (by omega) (notS_c (by omega) (notS_c (by omega) (notS_c (by omega) (notS_c (by omega) (notS_c (by omega) (notS_c (by omega) (notS_c (by omega) (notS_n)))))))))))))))))) (fun i => (notS_c (by omega) (notS_c (by omega) (notS_c (by omega) (notS_c (by omega) (notS_c (by omega) (notS_c (by omega) (notS_c (by omega) (notS_c (by omega) (notS_c (by omega) (notS_c (by omega) (notS_c (by omega) (notS_c (by omega) (notS_c (by omega) (notS_c (by omega) (notS_c (by omega) (notS_c (by omega) (notS_n)))))))))))))))))) (fun i => (notS_c (by omega) (notS_c (by omega) (notS_c (by omega) (notS_c (by omega) (notS_c (by omega) (notS_c (by omega) (notS_c (by omega) (notS_c (by omega) (notS_c (by omega) (notS_c (by omega) (notS_c (by omega) (notS_c (by omega) (notS_c (by omega) (notS_c (by omega) (notS_c (by omega) (notS_c (by omega) (notS_n)))))))))))))))))) (fun a h1 h2 i => (notS_c (by omega) (notS_c (by omega) (notS_c (by omega) (notS_c (by omega) (notS_c (by omega) (notS_c (by omega) (notS_c (by omega) (notS_c (by omega) (notS_c (by omega) (notS_c (by omega) (notS_c (by omega) (notS_c (by omega) (notS_c (by omega) (notS_c (by omega) (notS_c (by omega) (notS_c (by omega) (notS_n)))))))))))))))))) (notS_c (by omega) (notS_c (by omega) (notS_c (by omega) (notS_c (by omega) (notS_c (by omega) (notS_c (by omega) (notS_c (by omega) (notS_c (by omega) (notS_c (by omega) (notS_c (by omega) (notS_c (by omega) (notS_c (by omega) (notS_c (by omega) (notS_c (by omega) (notS_c (by omega) (notS_c (by omega) (notS_n))))))))))))))))) (notS_c (by omega) (notS_c (by omega) (notS_c (by omega) (notS_c (by omega) (notS_c (by omega) (notS_c (by omega) (notS_c (by omega) (notS_c (by omega) (notS_c (by omega) (notS_c (by omega) (notS_c (by omega) (notS_c (by omega) (notS_c (by omega) (notS_c (by omega) (notS_c (by omega) (notS_c (by omega) (notS_n))))))))))))))))) (notS_c (by omega) (notS_c (by omega) (notS_c (by omega) (notS_c (by omega) (notS_c (by omega) (notS_c (by omega) (notS_c (by omega) (notS_c (by omega) (notS_c (by omega) (notS_c (by omega) (notS_c (by omega) (notS_c (by omega) (notS_c (by omega) (notS_c (by omega) (notS_c (by omega) (notS_c (by omega) (notS_n))))))))))))))))) (fun a h1 h2 i => (notS_c (by omega) (notS_c (by omega) (notS_c (by omega) (notS_c (by omega) (notS_c (by omega) (notS_c (by omega) (notS_c (by omega) (notS_c (by omega) (notS_c (by omega) (notS_c (by omega) (notS_c (by omega) (notS_c (by omega) (notS_c (by omega) (notS_c (by omega) (notS_c (by omega) (notS_c (by omega) (notS_n)))))))))))))))))) (fun a h1 h2 i => (notS_c (by omega) (notS_c (by omega) (notS_c (by omega) (notS_c (by omega) (notS_c (by omega) (notS_c (by omega) (notS_c (by omega) (notS_c (by omega) (notS_c (by omega) (notS_c (by omega) (notS_c (by omega) (notS_c (by omega) (notS_c (by omega) (notS_c (by omega) (notS_c (by omega) (notS_c (by omega) (notS_n)))))))))))))))))) hcv, (fun hq => GA_f ht hz hs102 (notS_c (by omega) (notS_c (by omega) (notS_c (by omega) (notS_c (by omega) (notS_c (by omega) (notS_c (by omega) (notS_c (by omega) (notS_c (by omega) (notS_c (by omega) (notS_c (by omega) (notS_c (by omega) (notS_c (by omega) (notS_c (by omega) (notS_c (by omega) (notS_c (by omega) (notS_c (by omega) (notS_n))))))))))))))))) (notS_c (by omega) (notS_c (by omega) (notS_c (by omega) (notS_c (by omega) (notS_c (by omega) (notS_c (by omega) (notS_c (by omega) (notS_c (by omega) (notS_c (by omega) (notS_c (by omega) (notS_c (by omega) (notS_c (by omega) (notS_c (by omega) (notS_c (by omega) (notS_c (by omega) (notS_c (by omega) (notS_n))))))))))))))))) (fun i => (notS_c (by omega) (notS_c (by omega) (notS_c (by omega) (notS_c (by omega) (notS_c (by omega) (notS_c (by omega) (notS_c (by omega) (notS_c (by omega) (notS_c (by omega) (notS_c (by omega) (notS_c (by omega) (notS_c (by omega) (notS_c (by omega) (notS_c (by omega) (notS_c (by omega) (notS_c (by omega) (notS_n)))))))))))))))))) (fun a h1 h2 i => (notS_c (by omega) (notS_c (by omega) (notS_c (by omega) (notS_c (by omega) (notS_c (by omega) (notS_c (by omega) (notS_c (by omega) (notS_c (by omega) (notS_c (by omega) (notS_c (by omega) (notS_c (by omega) (notS_c (by omega) (notS_c (by omega) (notS_c (by omega) (notS_c (by omega) (notS_c (by omega) (notS_n)))))))))))))))))) hq), hs102.2.2.1 _ _ (notS_c (by omega) (notS_c (by omega) (notS_c (by omega) (notS_c (by omega) (notS_c (by omega) (notS_c (by omega) (notS_c (by omega) (notS_c (by omega) (notS_c (by omega) (notS_c (by omega) (notS_c (by omega) (notS_c (by omega) (notS_c (by omega) (notS_c (by omega) (notS_c (by omega) (notS_c (by omega) (notS_n)))))))))))))))))⟩)⟩)
        · skip
          refine r_ld (pc' := 65) rfl rfl rfl rfl ?_
          refine r_ld (pc' := 66) rfl rfl rfl rfl ?_
          refine r_gr (b := 33) (pc' := 69) rfl rfl sh_1 rfl pp_1_4 ?_
          refine r_gr (b := 34) (pc' := 72) rfl rfl sh_33 rfl pp_33_0 ?_
          refine r_cVI (pc' := 75) rfl rfl rfl rfl rfl sh_1 (m_137 (d := d + 1) t u 34 hs102.1 hs102.2.1 ht hu (by exact WTt_f hs102 (notS_c (by omega) (notS_c (by omega) (notS_c (by omega) (notS_c (by omega) (notS_c (by omega) (notS_c (by omega) (notS_c (by omega) (notS_c (by omega) (notS_c (by omega) (notS_c (by omega) (notS_c (by omega) (notS_c (by omega) (notS_c (by omega) (notS_c (by omega) (notS_c (by omega) (notS_c (by omega) (notS_n))))))))))))))))) (notS_c (by omega) (notS_c (by omega) (notS_c (by omega) (notS_c (by omega) (notS_c (by omega) (notS_c (by omega) (notS_c (by omega) (notS_c (by omega) (notS_c (by omega) (notS_c (by omega) (notS_c (by omega) (notS_c (by omega) (notS_c (by omega) (notS_c (by omega) (notS_c (by omega) (notS_c (by omega) (notS_n))))))))))))))))) (fun i => (notS_c (by omega) (notS_c (by omega) (notS_c (by omega) (notS_c (by omega) (notS_c (by omega) (notS_c (by omega) (notS_c (by omega) (notS_c (by omega) (notS_c (by omega) (notS_c (by omega) (notS_c (by omega) (notS_c (by omega) (notS_c (by omega) (notS_c (by omega) (notS_c (by omega) (notS_c (by omega) (notS_n)))))))))))))))))) (fun i => (notS_c (by omega) (notS_c (by omega) (notS_c (by omega) (notS_c (by omega) (notS_c (by omega) (notS_c (by omega) (notS_c (by omega) (notS_c (by omega) (notS_c (by omega) (notS_c (by omega) (notS_c (by omega) (notS_c (by omega) (notS_c (by omega) (notS_c (by omega) (notS_c (by omega) (notS_c (by omega) (notS_n)))))))))))))))))) (fun i => (notS_c (by omega) (notS_c (by omega) (notS_c (by omega) (notS_c (by omega) (notS_c (by omega) (notS_c (by omega) (notS_c (by omega) (notS_c (by omega) (notS_c (by omega) (notS_c (by omega) (notS_c (by omega) (notS_c (by omega) (notS_c (by omega) (notS_c (by omega) (notS_c (by omega) (notS_c (by omega) (notS_n)))))))))))))))))) hwt) (by exact hnf (by omega)) lr_34 (by first | omega | assumption) (fun e he => by have q := rd_34 hs102.2.1 (i := e) he; exact ⟨by omega, by omega⟩)) (fun v106 z107 w108 p109 h110 hs111 hE112 => ?_)
          have hs113 := st_tr hs102 hs111 (sub_B rfl)
          obtain ⟨rfl, hE112⟩ := hE112
          refine r_zeq (pc' := 78) rfl rfl ⟨by omega, by omega⟩ (fun hc114 => ?_) (fun hc114 => ?_)
          · skip
            refine r_inc (pc' := 124) (lv' := [(0, _), (1, _)]) rfl rfl rfl rfl rfl ?_
            refine r_go rfl ?_
            exact w_lv (sub_c rfl (sub_c rfl (sub_c rfl sub_n))) rfl (ih0 (x3 + 1) z107 w108 (some t) ⟨by omega, by omega⟩ ⟨by omega, by omega⟩ ⟨by omega, by omega⟩ hs113 (by first | exact as1 | exact ⟨by omega, by omega, hfw0 (by omega)⟩) (by omega))
          · skip
            refine r_ld (pc' := 79) rfl rfl rfl rfl ?_
            refine r_ld (pc' := 80) rfl rfl rfl rfl ?_
            refine r_ld (pc' := 81) rfl rfl rfl rfl ?_
            refine r_gr (b := 33) (pc' := 84) rfl rfl sh_1 rfl pp_1_4 ?_
            refine r_gr (b := 34) (pc' := 87) rfl rfl sh_33 rfl pp_33_0 ?_
            have hF115 : w108 34 = w97 34 := (funext fun _ => hs111.2.2.2 _ _ (notS_c (by omega) (notS_c (by omega) (notS_c (by omega) (notS_c (by omega) (notS_c (by omega) (notS_c (by omega) (notS_c (by omega) (notS_c (by omega) (notS_c (by omega) (notS_c (by omega) (notS_c (by omega) notS_n))))))))))))
            refine r_cVI (pc' := 90) rfl rfl rfl rfl rfl sh_1 (m_136 (d := d) t a1 34 hs113.1 hs113.2.1 ⟨by omega, by omega⟩ ht (by exact WTt_f hs113 (notS_c (by omega) (notS_c (by omega) (notS_c (by omega) (notS_c (by omega) (notS_c (by omega) (notS_c (by omega) (notS_c (by omega) (notS_c (by omega) (notS_c (by omega) (notS_c (by omega) (notS_c (by omega) (notS_c (by omega) (notS_c (by omega) (notS_c (by omega) (notS_c (by omega) (notS_c (by omega) (notS_n))))))))))))))))) (notS_c (by omega) (notS_c (by omega) (notS_c (by omega) (notS_c (by omega) (notS_c (by omega) (notS_c (by omega) (notS_c (by omega) (notS_c (by omega) (notS_c (by omega) (notS_c (by omega) (notS_c (by omega) (notS_c (by omega) (notS_c (by omega) (notS_c (by omega) (notS_c (by omega) (notS_c (by omega) (notS_n))))))))))))))))) (fun i => (notS_c (by omega) (notS_c (by omega) (notS_c (by omega) (notS_c (by omega) (notS_c (by omega) (notS_c (by omega) (notS_c (by omega) (notS_c (by omega) (notS_c (by omega) (notS_c (by omega) (notS_c (by omega) (notS_c (by omega) (notS_c (by omega) (notS_c (by omega) (notS_c (by omega) (notS_c (by omega) (notS_n)))))))))))))))))) (fun i => (notS_c (by omega) (notS_c (by omega) (notS_c (by omega) (notS_c (by omega) (notS_c (by omega) (notS_c (by omega) (notS_c (by omega) (notS_c (by omega) (notS_c (by omega) (notS_c (by omega) (notS_c (by omega) (notS_c (by omega) (notS_c (by omega) (notS_c (by omega) (notS_c (by omega) (notS_c (by omega) (notS_n)))))))))))))))))) (fun i => (notS_c (by omega) (notS_c (by omega) (notS_c (by omega) (notS_c (by omega) (notS_c (by omega) (notS_c (by omega) (notS_c (by omega) (notS_c (by omega) (notS_c (by omega) (notS_c (by omega) (notS_c (by omega) (notS_c (by omega) (notS_c (by omega) (notS_c (by omega) (notS_c (by omega) (notS_c (by omega) (notS_n)))))))))))))))))) hwt) (by rw [show w108 34 = w97 34 from funext fun i => (hs111.2.2.2 _ _ (notS_c (by omega) (notS_c (by omega) (notS_c (by omega) (notS_c (by omega) (notS_c (by omega) (notS_c (by omega) (notS_c (by omega) (notS_c (by omega) (notS_c (by omega) (notS_c (by omega) (notS_c (by omega) notS_n))))))))))))]; exact FTt_fr ((hs111.2.2.1 _ _ (notS_c (by omega) (notS_c (by omega) (notS_c (by omega) (notS_c (by omega) (notS_c (by omega) (notS_c (by omega) (notS_c (by omega) (notS_c (by omega) (notS_c (by omega) (notS_c (by omega) (notS_c (by omega) notS_n))))))))))))) (funext fun i => (hs111.2.2.1 _ _ (notS_c (by omega) (notS_c (by omega) (notS_c (by omega) (notS_c (by omega) (notS_c (by omega) (notS_c (by omega) (notS_c (by omega) (notS_c (by omega) (notS_c (by omega) (notS_c (by omega) (notS_c (by omega) notS_n))))))))))))) (hnf (by omega))) (by exact GA_f ht hz hs113 (notS_c (by omega) (notS_c (by omega) (notS_c (by omega) (notS_c (by omega) (notS_c (by omega) (notS_c (by omega) (notS_c (by omega) (notS_c (by omega) (notS_c (by omega) (notS_c (by omega) (notS_c (by omega) (notS_c (by omega) (notS_c (by omega) (notS_c (by omega) (notS_c (by omega) (notS_c (by omega) (notS_n))))))))))))))))) (notS_c (by omega) (notS_c (by omega) (notS_c (by omega) (notS_c (by omega) (notS_c (by omega) (notS_c (by omega) (notS_c (by omega) (notS_c (by omega) (notS_c (by omega) (notS_c (by omega) (notS_c (by omega) (notS_c (by omega) (notS_c (by omega) (notS_c (by omega) (notS_c (by omega) (notS_c (by omega) (notS_n))))))))))))))))) (fun i => (notS_c (by omega) (notS_c (by omega) (notS_c (by omega) (notS_c (by omega) (notS_c (by omega) (notS_c (by omega) (notS_c (by omega) (notS_c (by omega) (notS_c (by omega) (notS_c (by omega) (notS_c (by omega) (notS_c (by omega) (notS_c (by omega) (notS_c (by omega) (notS_c (by omega) (notS_c (by omega) (notS_n)))))))))))))))))) (fun a h1 h2 i => (notS_c (by omega) (notS_c (by omega) (notS_c (by omega) (notS_c (by omega) (notS_c (by omega) (notS_c (by omega) (notS_c (by omega) (notS_c (by omega) (notS_c (by omega) (notS_c (by omega) (notS_c (by omega) (notS_c (by omega) (notS_c (by omega) (notS_c (by omega) (notS_c (by omega) (notS_c (by omega) (notS_n)))))))))))))))))) hga) (by exact FW_f ht hz hs113 (by omega) (notS_c (by omega) (notS_c (by omega) (notS_c (by omega) (notS_c (by omega) (notS_c (by omega) (notS_c (by omega) (notS_c (by omega) (notS_c (by omega) (notS_c (by omega) (notS_c (by omega) (notS_c (by omega) (notS_c (by omega) (notS_c (by omega) (notS_c (by omega) (notS_c (by omega) (notS_c (by omega) (notS_n))))))))))))))))) (fun i => (notS_c (by omega) (notS_c (by omega) (notS_c (by omega) (notS_c (by omega) (notS_c (by omega) (notS_c (by omega) (notS_c (by omega) (notS_c (by omega) (notS_c (by omega) (notS_c (by omega) (notS_c (by omega) (notS_c (by omega) (notS_c (by omega) (notS_c (by omega) (notS_c (by omega) (notS_c (by omega) (notS_n)))))))))))))))))) (fun a h1 h2 i => (notS_c (by omega) (notS_c (by omega) (notS_c (by omega) (notS_c (by omega) (notS_c (by omega) (notS_c (by omega) (notS_c (by omega) (notS_c (by omega) (notS_c (by omega) (notS_c (by omega) (notS_c (by omega) (notS_c (by omega) (notS_c (by omega) (notS_c (by omega) (notS_c (by omega) (notS_c (by omega) (notS_n)))))))))))))))))) (fun a h1 h2 i => (notS_c (by omega) (notS_c (by omega) (notS_c (by omega) (notS_c (by omega) (notS_c (by omega) (notS_c (by omega) (notS_c (by omega) (notS_c (by omega) (notS_c (by omega) (notS_c (by omega) (notS_c (by omega) (notS_c (by omega) (notS_c (by omega) (notS_c (by omega) (notS_c (by omega) (notS_c (by omega) (notS_n)))))))))))))))))) as1.2.2) (by first | omega | assumption | (simp only [hF115]; assumption)) lr_34 (by first | omega | assumption | (simp only [hF115]; assumption)) (fun e he => by have q := rd_34 hs113.2.1 (i := e) he; exact ⟨by omega, by omega⟩)) (fun v116 z117 w118 p119 h120 hs121 hE122 => ?_)
            have hs123 := st_tr hs113 hs121 (sub_B rfl)
            obtain ⟨rfl, hE122⟩ := hE122
            refine r_zeq (pc' := 93) rfl rfl ⟨by omega, by omega⟩ (fun hc124 => ?_) (fun hc124 => ?_)
            · skip
              refine r_inc (pc' := 124) (lv' := [(0, _), (1, _)]) rfl rfl rfl rfl rfl ?_
              refine r_go rfl ?_
              exact w_lv (sub_c rfl (sub_c rfl (sub_c rfl sub_n))) rfl (ih0 (x3 + 1) z117 w118 (some t) ⟨by omega, by omega⟩ ⟨by omega, by omega⟩ ⟨by omega, by omega⟩ hs123 (by first | exact as1 | exact ⟨by omega, by omega, hfw0 (by omega)⟩) (by omega))
            · skip
              refine r_ld (pc' := 94) rfl rfl rfl rfl ?_
              refine r_gr (b := 33) (pc' := 97) rfl rfl sh_1 rfl pp_1_4 ?_
              refine r_gr (b := 34) (pc' := 100) rfl rfl sh_33 rfl pp_33_0 ?_
              refine r_ld (pc' := 101) rfl rfl rfl rfl ?_
              refine r_gr (b := 158) (pc' := 104) rfl rfl sh_1 rfl pp_1_12 ?_
              refine r_cSV (pc' := 107) rfl rfl rfl rfl rfl (m_140 (d := d + 5) 34 158 hs123.1 hs123.2.1 (by first | omega | assumption) lr_34 (by first | omega | assumption) lr_158 (by first | omega | assumption) wrr_158) (fun z126 w127 p128 hs130 hE131 => ?_)
              have hs132 := st_tr hs123 hs130 (sub_B rfl)
              obtain ⟨rfl, hE131⟩ := hE131
              refine r_ld (pc' := 108) rfl rfl rfl rfl ?_
              refine r_c0 (pc' := 109) rfl rfl ?_
              refine r_pi (pc' := 112) rfl rfl sh_1 rfl (fit_b (by omega)) hs132 (inS_0 (by omega) (by omega) (by omega) (by omega)) (wr_1_18 ⟨by omega, by omega⟩) (fun z133 hq134 hs135 => ?_)
              refine r_ld (pc' := 113) rfl rfl rfl rfl ?_
              refine r_gr (b := 158) (pc' := 116) rfl rfl sh_1 rfl pp_1_12 ?_
              refine r_cSL (pc' := 119) rfl rfl rfl rfl rfl (m_142 (d := d + 5) 158 hs135.1 hs135.2.1 lr_158 (by first | omega | assumption)) (fun v136 z137 w138 p139 h140 hs141 hE142 => ?_)
              obtain ⟨rfl, rfl, rfl, hE142⟩ := hE142
              refine r_l2i (pc' := 120) rfl rfl ?_
              refine w_hxi (fun v144 h145 h146 => ?_)
              have hb147 := rd_1_15 hz
              have hf148 : z133 1 15 = z0 1 15 := (((congrFun (congrFun hq134 _) _).trans (mu_ne (by omega))).trans ((hs130.2.2.1 _ _ (notS_c (by omega) notS_n)).trans ((hs121.2.2.1 _ _ (notS_c (by omega) notS_n)).trans ((hs111.2.2.1 _ _ (notS_c (by omega) (notS_c (by omega) (notS_c (by omega) (notS_c (by omega) (notS_c (by omega) (notS_c (by omega) (notS_c (by omega) (notS_c (by omega) (notS_c (by omega) (notS_c (by omega) (notS_c (by omega) notS_n)))))))))))).trans ((hs100.2.2.1 _ _ (notS_c (by omega) notS_n)).trans (hst.2.2.1 _ _ (notS_c (by omega) (notS_c (by omega) (notS_c (by omega) (notS_c (by omega) (notS_c (by omega) (notS_c (by omega) (notS_c (by omega) (notS_c (by omega) (notS_c (by omega) (notS_c (by omega) (notS_c (by omega) (notS_c (by omega) (notS_c (by omega) (notS_c (by omega) (notS_c (by omega) (notS_c (by omega) notS_n))))))))))))))))))))))
              exact r_ri rfl (po_I hs135 ⟨by omega, by omega⟩ ⟨_, _, rfl, by omega, by omega, (by first | exact ⟨hcv, fun q => q, rfl⟩ | exact ⟨CV_f ht hz hs135 (notS_c (by omega) (notS_c (by omega) (notS_c (by omega) (notS_c (by omega) (notS_c (by omega) (notS_c (by omega) (notS_c (by omega) (notS_c (by omega) (notS_c (by omega) (notS_c (by omega) (notS_c (by omega) (notS_c (by omega) (notS_c (by omega) (notS_c (by omega) (notS_c (by omega) (notS_c (by omega) (notS_n))))))))))))))))) (notS_c (by omega) (notS_c (by omega) (notS_c (by omega) (notS_c (by omega) (notS_c (by omega) (notS_c (by omega) (notS_c (by omega) (notS_c (by omega) (notS_c (by omega) (notS_c (by omega) (notS_c (by omega) (notS_c (by omega) (notS_c (by omega) (notS_c (by omega) (notS_c (by omega) (notS_c (by omega) (notS_n))))))))))))))))) (notS_c (by omega) (notS_c (by omega) (notS_c (by omega) (notS_c (by omega) (notS_c (by omega) (notS_c (by omega) (notS_c (by omega) (notS_c (by omega) (notS_c (by omega) (notS_c (by omega) (notS_c (by omega) (notS_c (by omega) (notS_c (by omega) (notS_c (by omega) (notS_c (by omega) (notS_c (by omega) (notS_n))))))))))))))))) (notS_c (by omega) (notS_c (by omega) (notS_c (by omega) (notS_c (by omega) (notS_c (by omega) (notS_c (by omega) (notS_c (by omega) (notS_c (by omega) (notS_c (by omega) (notS_c (by omega) (notS_c (by omega) (notS_c (by omega) (notS_c (by omega) (notS_c (by omega) (notS_c (by omega) (notS_c (by omega) (notS_n))))))))))))))))) (notS_c (by omega) (notS_c (by omega) (notS_c (by omega) (notS_c (by omega) (notS_c (by omega) (notS_c (by omega) (notS_c (by omega) (notS_c (by omega) (notS_c (by omega) (notS_c (by omega) (notS_c (by omega) (notS_c (by omega) (notS_c (by omega) (notS_c (by omega) (notS_c (by omega) (notS_c (by omega) (notS_n))))))))))))))))) (fun i => (notS_c (by omega) (notS_c (by omega) (notS_c (by omega) (notS_c (by omega) (notS_c (by omega) (notS_c (by omega) (notS_c (by omega) (notS_c (by omega) (notS_c (by omega) (notS_c (by omega) (notS_c (by omega) (notS_c (by omega) (notS_c (by omega) (notS_c (by omega) (notS_c (by omega) (notS_c (by omega) (notS_n)))))))))))))))))) (fun i => (notS_c (by omega) (notS_c (by omega) (notS_c (by omega) (notS_c (by omega) (notS_c (by omega) (notS_c (by omega) (notS_c (by omega) (notS_c (by omega) (notS_c (by omega) (notS_c (by omega) (notS_c (by omega) (notS_c (by omega) (notS_c (by omega) (notS_c (by omega) (notS_c (by omega) (notS_c (by omega) (notS_n)))))))))))))))))) (fun i => (notS_c (by omega) (notS_c (by omega) (notS_c (by omega) (notS_c (by omega) (notS_c (by omega) (notS_c (by omega) (notS_c (by omega) (notS_c (by omega) (notS_c (by omega) (notS_c (by omega) (notS_c (by omega) (notS_c (by omega) (notS_c (by omega) (notS_c (by omega) (notS_c (by omega) (notS_c (by omega) (notS_n)))))))))))))))))) (fun a h1 h2 i => (notS_c (by omega) (notS_c (by omega) (notS_c (by omega) (notS_c (by omega) (notS_c (by omega) (notS_c (by omega) (notS_c (by omega) (notS_c (by omega) (notS_c (by omega) (notS_c (by omega) (notS_c (by omega) (notS_c (by omega) (notS_c (by omega) (notS_c (by omega) (notS_c (by omega) (notS_c (by omega) (notS_n)))))))))))))))))) (notS_c (by omega) (notS_c (by omega) (notS_c (by omega) (notS_c (by omega) (notS_c (by omega) (notS_c (by omega) (notS_c (by omega) (notS_c (by omega) (notS_c (by omega) (notS_c (by omega) (notS_c (by omega) (notS_c (by omega) (notS_c (by omega) (notS_c (by omega) (notS_c (by omega) (notS_c (by omega) (notS_n))))))))))))))))) (notS_c (by omega) (notS_c (by omega) (notS_c (by omega) (notS_c (by omega) (notS_c (by omega) (notS_c (by omega) (notS_c (by omega) (notS_c (by omega) (notS_c (by omega) (notS_c (by omega) (notS_c (by omega) (notS_c (by omega) (notS_c (by omega) (notS_c (by omega) (notS_c (by omega) (notS_c (by omega) (notS_n))))))))))))))))) (notS_c (by omega) (notS_c (by omega) (notS_c (by omega) (notS_c (by omega) (notS_c (by omega) (notS_c (by omega) (notS_c (by omega) (notS_c (by omega) (notS_c (by omega) (notS_c (by omega) (notS_c (by omega) (notS_c (by omega) (notS_c (by omega) (notS_c (by omega) (notS_c (by omega) (notS_c (by omega) (notS_n))))))))))))))))) (fun a h1 h2 i => (notS_c (by omega) (notS_c (by omega) (notS_c (by omega) (notS_c (by omega) (notS_c (by omega) (notS_c (by omega) (notS_c (by omega) (notS_c (by omega) (notS_c (by omega) (notS_c (by omega) (notS_c (by omega) (notS_c (by omega) (notS_c (by omega) (notS_c (by omega) (notS_c (by omega) (notS_c (by omega) (notS_n)))))))))))))))))) (fun a h1 h2 i => (notS_c (by omega) (notS_c (by omega) (notS_c (by omega) (notS_c (by omega) (notS_c (by omega) (notS_c (by omega) (notS_c (by omega) (notS_c (by omega) (notS_c (by omega) (notS_c (by omega) (notS_c (by omega) (notS_c (by omega) (notS_c (by omega) (notS_c (by omega) (notS_c (by omega) (notS_c (by omega) (notS_n)))))))))))))))))) hcv, (fun hq => GA_f ht hz hs135 (notS_c (by omega) (notS_c (by omega) (notS_c (by omega) (notS_c (by omega) (notS_c (by omega) (notS_c (by omega) (notS_c (by omega) (notS_c (by omega) (notS_c (by omega) (notS_c (by omega) (notS_c (by omega) (notS_c (by omega) (notS_c (by omega) (notS_c (by omega) (notS_c (by omega) (notS_c (by omega) (notS_n))))))))))))))))) (notS_c (by omega) (notS_c (by omega) (notS_c (by omega) (notS_c (by omega) (notS_c (by omega) (notS_c (by omega) (notS_c (by omega) (notS_c (by omega) (notS_c (by omega) (notS_c (by omega) (notS_c (by omega) (notS_c (by omega) (notS_c (by omega) (notS_c (by omega) (notS_c (by omega) (notS_c (by omega) (notS_n))))))))))))))))) (fun i => (notS_c (by omega) (notS_c (by omega) (notS_c (by omega) (notS_c (by omega) (notS_c (by omega) (notS_c (by omega) (notS_c (by omega) (notS_c (by omega) (notS_c (by omega) (notS_c (by omega) (notS_c (by omega) (notS_c (by omega) (notS_c (by omega) (notS_c (by omega) (notS_c (by omega) (notS_c (by omega) (notS_n)))))))))))))))))) (fun a h1 h2 i => (notS_c (by omega) (notS_c (by omega) (notS_c (by omega) (notS_c (by omega) (notS_c (by omega) (notS_c (by omega) (notS_c (by omega) (notS_c (by omega) (notS_c (by omega) (notS_c (by omega) (notS_c (by omega) (notS_c (by omega) (notS_c (by omega) (notS_c (by omega) (notS_c (by omega) (notS_c (by omega) (notS_n)))))))))))))))))) hq), hs135.2.2.1 _ _ (notS_c (by omega) (notS_c (by omega) (notS_c (by omega) (notS_c (by omega) (notS_c (by omega) (notS_c (by omega) (notS_c (by omega) (notS_c (by omega) (notS_c (by omega) (notS_c (by omega) (notS_c (by omega) (notS_c (by omega) (notS_c (by omega) (notS_c (by omega) (notS_c (by omega) (notS_c (by omega) (notS_n)))))))))))))))))⟩)⟩)
  refine w_m rfl rfl ?_
  refine r_ld (pc' := 1) rfl rfl rfl rfl ?_
  refine r_c0 (pc' := 2) rfl rfl ?_
  refine r_pi (pc' := 5) rfl rfl sh_1 rfl (fit_b (by omega)) hst (inS_0 (by omega) (by omega) (by omega) (by omega)) (wr_1_18 ⟨by omega, by omega⟩) (fun z149 hq150 hs151 => ?_)
  refine r_ld (pc' := 6) rfl rfl rfl rfl ?_
  refine r_gr (b := 10) (pc' := 9) rfl rfl sh_1 rfl pp_1_3 ?_
  refine r_ld (pc' := 10) rfl rfl rfl rfl ?_
  have hb152 := rd_T_4 ht hz
  have hf153 : z149 t 4 = z0 t 4 := ((congrFun (congrFun hq150 _) _).trans (mu_ne (by omega)))
  refine r_cVI (pc' := 13) rfl rfl rfl rfl rfl sh_10 (m_24s (d := d + 3) t a1 hs151.1 hs151.2.1 ⟨by omega, by omega⟩ ht) (fun v154 z155 w156 p157 h158 hs159 hE160 => ?_)
  obtain ⟨rfl, rfl, rfl, hE160⟩ := hE160
  have hfv := hE160.2.2
  have hfw0 : v154 = 1 → FW z0 t a1.toNat := fun q => FW_c ht (fun b i hb => ((congrFun (congrFun hq150 _) _).trans (mu_ne (by omega)))) (hE160.2.2 q).2.2.2
  refine r_zeq (pc' := 16) rfl rfl ⟨by omega, by omega⟩ (fun hc162 => ?_) (fun hc162 => ?_)
  · skip
    refine r_c0 (pc' := 27) rfl rfl ?_
    have hb163 := rd_1_15 hz
    have hf164 : z149 1 15 = z0 1 15 := ((congrFun (congrFun hq150 _) _).trans (mu_ne (by omega)))
    exact r_ri rfl (po_I hs151 ⟨by decide, by decide⟩ ⟨_, _, rfl, by omega, by omega, (by first | exact ⟨hcv, fun q => q, rfl⟩ | exact ⟨CV_f ht hz hs151 (notS_c (by omega) (notS_c (by omega) (notS_c (by omega) (notS_c (by omega) (notS_c (by omega) (notS_c (by omega) (notS_c (by omega) (notS_c (by omega) (notS_c (by omega) (notS_c (by omega) (notS_c (by omega) (notS_c (by omega) (notS_c (by omega) (notS_c (by omega) (notS_c (by omega) (notS_c (by omega) (notS_n))))))))))))))))) (notS_c (by omega) (notS_c (by omega) (notS_c (by omega) (notS_c (by omega) (notS_c (by omega) (notS_c (by omega) (notS_c (by omega) (notS_c (by omega) (notS_c (by omega) (notS_c (by omega) (notS_c (by omega) (notS_c (by omega) (notS_c (by omega) (notS_c (by omega) (notS_c (by omega) (notS_c (by omega) (notS_n))))))))))))))))) (notS_c (by omega) (notS_c (by omega) (notS_c (by omega) (notS_c (by omega) (notS_c (by omega) (notS_c (by omega) (notS_c (by omega) (notS_c (by omega) (notS_c (by omega) (notS_c (by omega) (notS_c (by omega) (notS_c (by omega) (notS_c (by omega) (notS_c (by omega) (notS_c (by omega) (notS_c (by omega) (notS_n))))))))))))))))) (notS_c (by omega) (notS_c (by omega) (notS_c (by omega) (notS_c (by omega) (notS_c (by omega) (notS_c (by omega) (notS_c (by omega) (notS_c (by omega) (notS_c (by omega) (notS_c (by omega) (notS_c (by omega) (notS_c (by omega) (notS_c (by omega) (notS_c (by omega) (notS_c (by omega) (notS_c (by omega) (notS_n))))))))))))))))) (notS_c (by omega) (notS_c (by omega) (notS_c (by omega) (notS_c (by omega) (notS_c (by omega) (notS_c (by omega) (notS_c (by omega) (notS_c (by omega) (notS_c (by omega) (notS_c (by omega) (notS_c (by omega) (notS_c (by omega) (notS_c (by omega) (notS_c (by omega) (notS_c (by omega) (notS_c (by omega) (notS_n))))))))))))))))) (fun i => (notS_c (by omega) (notS_c (by omega) (notS_c (by omega) (notS_c (by omega) (notS_c (by omega) (notS_c (by omega) (notS_c (by omega) (notS_c (by omega) (notS_c (by omega) (notS_c (by omega) (notS_c (by omega) (notS_c (by omega) (notS_c (by omega) (notS_c (by omega) (notS_c (by omega) (notS_c (by omega) (notS_n)))))))))))))))))) (fun i => (notS_c (by omega) (notS_c (by omega) (notS_c (by omega) (notS_c (by omega) (notS_c (by omega) (notS_c (by omega) (notS_c (by omega) (notS_c (by omega) (notS_c (by omega) (notS_c (by omega) (notS_c (by omega) (notS_c (by omega) (notS_c (by omega) (notS_c (by omega) (notS_c (by omega) (notS_c (by omega) (notS_n)))))))))))))))))) (fun i => (notS_c (by omega) (notS_c (by omega) (notS_c (by omega) (notS_c (by omega) (notS_c (by omega) (notS_c (by omega) (notS_c (by omega) (notS_c (by omega) (notS_c (by omega) (notS_c (by omega) (notS_c (by omega) (notS_c (by omega) (notS_c (by omega) (notS_c (by omega) (notS_c (by omega) (notS_c (by omega) (notS_n)))))))))))))))))) (fun a h1 h2 i => (notS_c (by omega) (notS_c (by omega) (notS_c (by omega) (notS_c (by omega) (notS_c (by omega) (notS_c (by omega) (notS_c (by omega) (notS_c (by omega) (notS_c (by omega) (notS_c (by omega) (notS_c (by omega) (notS_c (by omega) (notS_c (by omega) (notS_c (by omega) (notS_c (by omega) (notS_c (by omega) (notS_n)))))))))))))))))) (notS_c (by omega) (notS_c (by omega) (notS_c (by omega) (notS_c (by omega) (notS_c (by omega) (notS_c (by omega) (notS_c (by omega) (notS_c (by omega) (notS_c (by omega) (notS_c (by omega) (notS_c (by omega) (notS_c (by omega) (notS_c (by omega) (notS_c (by omega) (notS_c (by omega) (notS_c (by omega) (notS_n))))))))))))))))) (notS_c (by omega) (notS_c (by omega) (notS_c (by omega) (notS_c (by omega) (notS_c (by omega) (notS_c (by omega) (notS_c (by omega) (notS_c (by omega) (notS_c (by omega) (notS_c (by omega) (notS_c (by omega) (notS_c (by omega) (notS_c (by omega) (notS_c (by omega) (notS_c (by omega) (notS_c (by omega) (notS_n))))))))))))))))) (notS_c (by omega) (notS_c (by omega) (notS_c (by omega) (notS_c (by omega) (notS_c (by omega) (notS_c (by omega) (notS_c (by omega) (notS_c (by omega) (notS_c (by omega) (notS_c (by omega) (notS_c (by omega) (notS_c (by omega) (notS_c (by omega) (notS_c (by omega) (notS_c (by omega) (notS_c (by omega) (notS_n))))))))))))))))) (fun a h1 h2 i => (notS_c (by omega) (notS_c (by omega) (notS_c (by omega) (notS_c (by omega) (notS_c (by omega) (notS_c (by omega) (notS_c (by omega) (notS_c (by omega) (notS_c (by omega) (notS_c (by omega) (notS_c (by omega) (notS_c (by omega) (notS_c (by omega) (notS_c (by omega) (notS_c (by omega) (notS_c (by omega) (notS_n)))))))))))))))))) (fun a h1 h2 i => (notS_c (by omega) (notS_c (by omega) (notS_c (by omega) (notS_c (by omega) (notS_c (by omega) (notS_c (by omega) (notS_c (by omega) (notS_c (by omega) (notS_c (by omega) (notS_c (by omega) (notS_c (by omega) (notS_c (by omega) (notS_c (by omega) (notS_c (by omega) (notS_c (by omega) (notS_c (by omega) (notS_n)))))))))))))))))) hcv, (fun hq => GA_f ht hz hs151 (notS_c (by omega) (notS_c (by omega) (notS_c (by omega) (notS_c (by omega) (notS_c (by omega) (notS_c (by omega) (notS_c (by omega) (notS_c (by omega) (notS_c (by omega) (notS_c (by omega) (notS_c (by omega) (notS_c (by omega) (notS_c (by omega) (notS_c (by omega) (notS_c (by omega) (notS_c (by omega) (notS_n))))))))))))))))) (notS_c (by omega) (notS_c (by omega) (notS_c (by omega) (notS_c (by omega) (notS_c (by omega) (notS_c (by omega) (notS_c (by omega) (notS_c (by omega) (notS_c (by omega) (notS_c (by omega) (notS_c (by omega) (notS_c (by omega) (notS_c (by omega) (notS_c (by omega) (notS_c (by omega) (notS_c (by omega) (notS_n))))))))))))))))) (fun i => (notS_c (by omega) (notS_c (by omega) (notS_c (by omega) (notS_c (by omega) (notS_c (by omega) (notS_c (by omega) (notS_c (by omega) (notS_c (by omega) (notS_c (by omega) (notS_c (by omega) (notS_c (by omega) (notS_c (by omega) (notS_c (by omega) (notS_c (by omega) (notS_c (by omega) (notS_c (by omega) (notS_n)))))))))))))))))) (fun a h1 h2 i => (notS_c (by omega) (notS_c (by omega) (notS_c (by omega) (notS_c (by omega) (notS_c (by omega) (notS_c (by omega) (notS_c (by omega) (notS_c (by omega) (notS_c (by omega) (notS_c (by omega) (notS_c (by omega) (notS_c (by omega) (notS_c (by omega) (notS_c (by omega) (notS_c (by omega) (notS_c (by omega) (notS_n)))))))))))))))))) hq), hs151.2.2.1 _ _ (notS_c (by omega) (notS_c (by omega) (notS_c (by omega) (notS_c (by omega) (notS_c (by omega) (notS_c (by omega) (notS_c (by omega) (notS_c (by omega) (notS_c (by omega) (notS_c (by omega) (notS_c (by omega) (notS_c (by omega) (notS_c (by omega) (notS_c (by omega) (notS_c (by omega) (notS_c (by omega) (notS_n)))))))))))))))))⟩)⟩)
  · skip
    refine r_ld (pc' := 17) rfl rfl rfl rfl ?_
    refine r_c0 (pc' := 18) rfl rfl ?_
    refine r_ilt (pc' := 21) rfl rfl ⟨by omega, by omega⟩ ⟨by decide, by decide⟩ (fun hc165 => ?_) (fun hc165 => ?_)
    · skip
      refine r_c0 (pc' := 27) rfl rfl ?_
      have hb166 := rd_1_15 hz
      have hf167 : z149 1 15 = z0 1 15 := ((congrFun (congrFun hq150 _) _).trans (mu_ne (by omega)))
      exact r_ri rfl (po_I hs151 ⟨by decide, by decide⟩ ⟨_, _, rfl, by omega, by omega, (by first | exact ⟨hcv, fun q => q, rfl⟩ | exact ⟨CV_f ht hz hs151 (notS_c (by omega) (notS_c (by omega) (notS_c (by omega) (notS_c (by omega) (notS_c (by omega) (notS_c (by omega) (notS_c (by omega) (notS_c (by omega) (notS_c (by omega) (notS_c (by omega) (notS_c (by omega) (notS_c (by omega) (notS_c (by omega) (notS_c (by omega) (notS_c (by omega) (notS_c (by omega) (notS_n))))))))))))))))) (notS_c (by omega) (notS_c (by omega) (notS_c (by omega) (notS_c (by omega) (notS_c (by omega) (notS_c (by omega) (notS_c (by omega) (notS_c (by omega) (notS_c (by omega) (notS_c (by omega) (notS_c (by omega) (notS_c (by omega) (notS_c (by omega) (notS_c (by omega) (notS_c (by omega) (notS_c (by omega) (notS_n))))))))))))))))) (notS_c (by omega) (notS_c (by omega) (notS_c (by omega) (notS_c (by omega) (notS_c (by omega) (notS_c (by omega) (notS_c (by omega) (notS_c (by omega) (notS_c (by omega) (notS_c (by omega) (notS_c (by omega) (notS_c (by omega) (notS_c (by omega) (notS_c (by omega) (notS_c (by omega) (notS_c (by omega) (notS_n))))))))))))))))) (notS_c (by omega) (notS_c (by omega) (notS_c (by omega) (notS_c (by omega) (notS_c (by omega) (notS_c (by omega) (notS_c (by omega) (notS_c (by omega) (notS_c (by omega) (notS_c (by omega) (notS_c (by omega) (notS_c (by omega) (notS_c (by omega) (notS_c (by omega) (notS_c (by omega) (notS_c (by omega) (notS_n))))))))))))))))) (notS_c (by omega) (notS_c (by omega) (notS_c (by omega) (notS_c (by omega) (notS_c (by omega) (notS_c (by omega) (notS_c (by omega) (notS_c (by omega) (notS_c (by omega) (notS_c (by omega) (notS_c (by omega) (notS_c (by omega) (notS_c (by omega) (notS_c (by omega) (notS_c (by omega) (notS_c (by omega) (notS_n))))))))))))))))) (fun i => (notS_c (by omega) (notS_c (by omega) (notS_c (by omega) (notS_c (by omega) (notS_c (by omega) (notS_c (by omega) (notS_c (by omega) (notS_c (by omega) (notS_c (by omega) (notS_c (by omega) (notS_c (by omega) (notS_c (by omega) (notS_c (by omega) (notS_c (by omega) (notS_c (by omega) (notS_c (by omega) (notS_n)))))))))))))))))) (fun i => (notS_c (by omega) (notS_c (by omega) (notS_c (by omega) (notS_c (by omega) (notS_c (by omega) (notS_c (by omega) (notS_c (by omega) (notS_c (by omega) (notS_c (by omega) (notS_c (by omega) (notS_c (by omega) (notS_c (by omega) (notS_c (by omega) (notS_c (by omega) (notS_c (by omega) (notS_c (by omega) (notS_n)))))))))))))))))) (fun i => (notS_c (by omega) (notS_c (by omega) (notS_c (by omega) (notS_c (by omega) (notS_c (by omega) (notS_c (by omega) (notS_c (by omega) (notS_c (by omega) (notS_c (by omega) (notS_c (by omega) (notS_c (by omega) (notS_c (by omega) (notS_c (by omega) (notS_c (by omega) (notS_c (by omega) (notS_c (by omega) (notS_n)))))))))))))))))) (fun a h1 h2 i => (notS_c (by omega) (notS_c (by omega) (notS_c (by omega) (notS_c (by omega) (notS_c (by omega) (notS_c (by omega) (notS_c (by omega) (notS_c (by omega) (notS_c (by omega) (notS_c (by omega) (notS_c (by omega) (notS_c (by omega) (notS_c (by omega) (notS_c (by omega) (notS_c (by omega) (notS_c (by omega) (notS_n)))))))))))))))))) (notS_c (by omega) (notS_c (by omega) (notS_c (by omega) (notS_c (by omega) (notS_c (by omega) (notS_c (by omega) (notS_c (by omega) (notS_c (by omega) (notS_c (by omega) (notS_c (by omega) (notS_c (by omega) (notS_c (by omega) (notS_c (by omega) (notS_c (by omega) (notS_c (by omega) (notS_c (by omega) (notS_n))))))))))))))))) (notS_c (by omega) (notS_c (by omega) (notS_c (by omega) (notS_c (by omega) (notS_c (by omega) (notS_c (by omega) (notS_c (by omega) (notS_c (by omega) (notS_c (by omega) (notS_c (by omega) (notS_c (by omega) (notS_c (by omega) (notS_c (by omega) (notS_c (by omega) (notS_c (by omega) (notS_c (by omega) (notS_n))))))))))))))))) (notS_c (by omega) (notS_c (by omega) (notS_c (by omega) (notS_c (by omega) (notS_c (by omega) (notS_c (by omega) (notS_c (by omega) (notS_c (by omega) (notS_c (by omega) (notS_c (by omega) (notS_c (by omega) (notS_c (by omega) (notS_c (by omega) (notS_c (by omega) (notS_c (by omega) (notS_c (by omega) (notS_n))))))))))))))))) (fun a h1 h2 i => (notS_c (by omega) (notS_c (by omega) (notS_c (by omega) (notS_c (by omega) (notS_c (by omega) (notS_c (by omega) (notS_c (by omega) (notS_c (by omega) (notS_c (by omega) (notS_c (by omega) (notS_c (by omega) (notS_c (by omega) (notS_c (by omega) (notS_c (by omega) (notS_c (by omega) (notS_c (by omega) (notS_n)))))))))))))))))) (fun a h1 h2 i => (notS_c (by omega) (notS_c (by omega) (notS_c (by omega) (notS_c (by omega) (notS_c (by omega) (notS_c (by omega) (notS_c (by omega) (notS_c (by omega) (notS_c (by omega) (notS_c (by omega) (notS_c (by omega) (notS_c (by omega) (notS_c (by omega) (notS_c (by omega) (notS_c (by omega) (notS_c (by omega) (notS_n)))))))))))))))))) hcv, (fun hq => GA_f ht hz hs151 (notS_c (by omega) (notS_c (by omega) (notS_c (by omega) (notS_c (by omega) (notS_c (by omega) (notS_c (by omega) (notS_c (by omega) (notS_c (by omega) (notS_c (by omega) (notS_c (by omega) (notS_c (by omega) (notS_c (by omega) (notS_c (by omega) (notS_c (by omega) (notS_c (by omega) (notS_c (by omega) (notS_n))))))))))))))))) (notS_c (by omega) (notS_c (by omega) (notS_c (by omega) (notS_c (by omega) (notS_c (by omega) (notS_c (by omega) (notS_c (by omega) (notS_c (by omega) (notS_c (by omega) (notS_c (by omega) (notS_c (by omega) (notS_c (by omega) (notS_c (by omega) (notS_c (by omega) (notS_c (by omega) (notS_c (by omega) (notS_n))))))))))))))))) (fun i => (notS_c (by omega) (notS_c (by omega) (notS_c (by omega) (notS_c (by omega) (notS_c (by omega) (notS_c (by omega) (notS_c (by omega) (notS_c (by omega) (notS_c (by omega) (notS_c (by omega) (notS_c (by omega) (notS_c (by omega) (notS_c (by omega) (notS_c (by omega) (notS_c (by omega) (notS_c (by omega) (notS_n)))))))))))))))))) (fun a h1 h2 i => (notS_c (by omega) (notS_c (by omega) (notS_c (by omega) (notS_c (by omega) (notS_c (by omega) (notS_c (by omega) (notS_c (by omega) (notS_c (by omega) (notS_c (by omega) (notS_c (by omega) (notS_c (by omega) (notS_c (by omega) (notS_c (by omega) (notS_c (by omega) (notS_c (by omega) (notS_c (by omega) (notS_n)))))))))))))))))) hq), hs151.2.2.1 _ _ (notS_c (by omega) (notS_c (by omega) (notS_c (by omega) (notS_c (by omega) (notS_c (by omega) (notS_c (by omega) (notS_c (by omega) (notS_c (by omega) (notS_c (by omega) (notS_c (by omega) (notS_c (by omega) (notS_c (by omega) (notS_c (by omega) (notS_c (by omega) (notS_c (by omega) (notS_c (by omega) (notS_n)))))))))))))))))⟩)⟩)
    · skip
      refine r_ld (pc' := 22) rfl rfl rfl rfl ?_
      refine r_c0 (pc' := 23) rfl rfl ?_
      refine r_ile (pc' := 26) rfl rfl ⟨by omega, by omega⟩ ⟨by decide, by decide⟩ (fun hc168 => ?_) (fun hc168 => ?_)
      · skip
        refine r_ld (pc' := 29) rfl rfl rfl rfl ?_
        refine r_gr (b := 33) (pc' := 32) rfl rfl sh_1 rfl pp_1_4 ?_
        refine r_ld (pc' := 33) rfl rfl rfl rfl ?_
        refine r_gr (b := t) (pc' := 36) rfl rfl sh_1 rfl pp_1_13 ?_
        refine r_ld (pc' := 37) rfl rfl rfl rfl ?_
        refine r_cVI (pc' := 40) rfl rfl rfl rfl rfl sh_33 (m_8 (d := d + 5) t a2 hs151.1 hs151.2.1 ⟨by omega, by omega⟩ ht) (fun v169 z170 w171 p172 h173 hs174 hE175 => ?_)
        have hs176 := st_tr hs151 hs174 (sub_B rfl)
        obtain ⟨rfl, hE175⟩ := hE175
        refine r_zne (pc' := 43) rfl rfl ⟨by omega, by omega⟩ (fun hc177 => ?_) (fun hc177 => ?_)
        · skip
          refine r_c0 (pc' := 47) rfl rfl ?_
          refine r_st (pc' := 48) (lv' := [(3, _), (0, _), (1, _), (2, _)]) rfl rfl rfl rfl ?_
          exact w_lv (sub_c rfl (sub_c rfl (sub_c rfl sub_n))) rfl ((key ((65 * (60000 - 0) + 39 : Int).toNat + 1)) 0 z170 w171 tt ⟨by omega, by omega⟩ ⟨by omega, by omega⟩ ⟨by omega, by omega⟩ hs176 (by first | exact as1 | exact ⟨by omega, by omega, hfw0 (by omega)⟩) (by omega))
        · skip
          refine r_cb (pc' := 45) rfl (by decide) rfl ?_
          have hb178 := rd_1_15 hz
          have hf179 : z170 1 15 = z0 1 15 := ((hs174.2.2.1 _ _ (notS_c (by omega) (notS_c (by omega) notS_n))).trans ((congrFun (congrFun hq150 _) _).trans (mu_ne (by omega))))
          exact r_ri rfl (po_I hs176 ⟨by decide, by decide⟩ ⟨_, _, rfl, by omega, by omega, (by first | exact ⟨hcv, fun q => q, rfl⟩ | exact ⟨CV_f ht hz hs176 (notS_c (by omega) (notS_c (by omega) (notS_c (by omega) (notS_c (by omega) (notS_c (by omega) (notS_c (by omega) (notS_c (by omega) (notS_c (by omega) (notS_c (by omega) (notS_c (by omega) (notS_c (by omega) (notS_c (by omega) (notS_c (by omega) (notS_c (by omega) (notS_c (by omega) (notS_c (by omega) (notS_n))))))))))))))))) (notS_c (by omega) (notS_c (by omega) (notS_c (by omega) (notS_c (by omega) (notS_c (by omega) (notS_c (by omega) (notS_c (by omega) (notS_c (by omega) (notS_c (by omega) (notS_c (by omega) (notS_c (by omega) (notS_c (by omega) (notS_c (by omega) (notS_c (by omega) (notS_c (by omega) (notS_c (by omega) (notS_n))))))))))))))))) (notS_c (by omega) (notS_c (by omega) (notS_c (by omega) (notS_c (by omega) (notS_c (by omega) (notS_c (by omega) (notS_c (by omega) (notS_c (by omega) (notS_c (by omega) (notS_c (by omega) (notS_c (by omega) (notS_c (by omega) (notS_c (by omega) (notS_c (by omega) (notS_c (by omega) (notS_c (by omega) (notS_n))))))))))))))))) (notS_c (by omega) (notS_c (by omega) (notS_c (by omega) (notS_c (by omega) (notS_c (by omega) (notS_c (by omega) (notS_c (by omega) (notS_c (by omega) (notS_c (by omega) (notS_c (by omega) (notS_c (by omega) (notS_c (by omega) (notS_c (by omega) (notS_c (by omega) (notS_c (by omega) (notS_c (by omega) (notS_n))))))))))))))))) (notS_c (by omega) (notS_c (by omega) (notS_c (by omega) (notS_c (by omega) (notS_c (by omega) (notS_c (by omega) (notS_c (by omega) (notS_c (by omega) (notS_c (by omega) (notS_c (by omega) (notS_c (by omega) (notS_c (by omega) (notS_c (by omega) (notS_c (by omega) (notS_c (by omega) (notS_c (by omega) (notS_n))))))))))))))))) (fun i => (notS_c (by omega) (notS_c (by omega) (notS_c (by omega) (notS_c (by omega) (notS_c (by omega) (notS_c (by omega) (notS_c (by omega) (notS_c (by omega) (notS_c (by omega) (notS_c (by omega) (notS_c (by omega) (notS_c (by omega) (notS_c (by omega) (notS_c (by omega) (notS_c (by omega) (notS_c (by omega) (notS_n)))))))))))))))))) (fun i => (notS_c (by omega) (notS_c (by omega) (notS_c (by omega) (notS_c (by omega) (notS_c (by omega) (notS_c (by omega) (notS_c (by omega) (notS_c (by omega) (notS_c (by omega) (notS_c (by omega) (notS_c (by omega) (notS_c (by omega) (notS_c (by omega) (notS_c (by omega) (notS_c (by omega) (notS_c (by omega) (notS_n)))))))))))))))))) (fun i => (notS_c (by omega) (notS_c (by omega) (notS_c (by omega) (notS_c (by omega) (notS_c (by omega) (notS_c (by omega) (notS_c (by omega) (notS_c (by omega) (notS_c (by omega) (notS_c (by omega) (notS_c (by omega) (notS_c (by omega) (notS_c (by omega) (notS_c (by omega) (notS_c (by omega) (notS_c (by omega) (notS_n)))))))))))))))))) (fun a h1 h2 i => (notS_c (by omega) (notS_c (by omega) (notS_c (by omega) (notS_c (by omega) (notS_c (by omega) (notS_c (by omega) (notS_c (by omega) (notS_c (by omega) (notS_c (by omega) (notS_c (by omega) (notS_c (by omega) (notS_c (by omega) (notS_c (by omega) (notS_c (by omega) (notS_c (by omega) (notS_c (by omega) (notS_n)))))))))))))))))) (notS_c (by omega) (notS_c (by omega) (notS_c (by omega) (notS_c (by omega) (notS_c (by omega) (notS_c (by omega) (notS_c (by omega) (notS_c (by omega) (notS_c (by omega) (notS_c (by omega) (notS_c (by omega) (notS_c (by omega) (notS_c (by omega) (notS_c (by omega) (notS_c (by omega) (notS_c (by omega) (notS_n))))))))))))))))) (notS_c (by omega) (notS_c (by omega) (notS_c (by omega) (notS_c (by omega) (notS_c (by omega) (notS_c (by omega) (notS_c (by omega) (notS_c (by omega) (notS_c (by omega) (notS_c (by omega) (notS_c (by omega) (notS_c (by omega) (notS_c (by omega) (notS_c (by omega) (notS_c (by omega) (notS_c (by omega) (notS_n))))))))))))))))) (notS_c (by omega) (notS_c (by omega) (notS_c (by omega) (notS_c (by omega) (notS_c (by omega) (notS_c (by omega) (notS_c (by omega) (notS_c (by omega) (notS_c (by omega) (notS_c (by omega) (notS_c (by omega) (notS_c (by omega) (notS_c (by omega) (notS_c (by omega) (notS_c (by omega) (notS_c (by omega) (notS_n))))))))))))))))) (fun a h1 h2 i => (notS_c (by omega) (notS_c (by omega) (notS_c (by omega) (notS_c (by omega) (notS_c (by omega) (notS_c (by omega) (notS_c (by omega) (notS_c (by omega) (notS_c (by omega) (notS_c (by omega) (notS_c (by omega) (notS_c (by omega) (notS_c (by omega) (notS_c (by omega) (notS_c (by omega) (notS_c (by omega) (notS_n)))))))))))))))))) (fun a h1 h2 i => (notS_c (by omega) (notS_c (by omega) (notS_c (by omega) (notS_c (by omega) (notS_c (by omega) (notS_c (by omega) (notS_c (by omega) (notS_c (by omega) (notS_c (by omega) (notS_c (by omega) (notS_c (by omega) (notS_c (by omega) (notS_c (by omega) (notS_c (by omega) (notS_c (by omega) (notS_c (by omega) (notS_n)))))))))))))))))) hcv, (fun hq => GA_f ht hz hs176 (notS_c (by omega) (notS_c (by omega) (notS_c (by omega) (notS_c (by omega) (notS_c (by omega) (notS_c (by omega) (notS_c (by omega) (notS_c (by omega) (notS_c (by omega) (notS_c (by omega) (notS_c (by omega) (notS_c (by omega) (notS_c (by omega) (notS_c (by omega) (notS_c (by omega) (notS_c (by omega) (notS_n))))))))))))))))) (notS_c (by omega) (notS_c (by omega) (notS_c (by omega) (notS_c (by omega) (notS_c (by omega) (notS_c (by omega) (notS_c (by omega) (notS_c (by omega) (notS_c (by omega) (notS_c (by omega) (notS_c (by omega) (notS_c (by omega) (notS_c (by omega) (notS_c (by omega) (notS_c (by omega) (notS_c (by omega) (notS_n))))))))))))))))) (fun i => (notS_c (by omega) (notS_c (by omega) (notS_c (by omega) (notS_c (by omega) (notS_c (by omega) (notS_c (by omega) (notS_c (by omega) (notS_c (by omega) (notS_c (by omega) (notS_c (by omega) (notS_c (by omega) (notS_c (by omega) (notS_c (by omega) (notS_c (by omega) (notS_c (by omega) (notS_c (by omega) (notS_n)))))))))))))))))) (fun a h1 h2 i => (notS_c (by omega) (notS_c (by omega) (notS_c (by omega) (notS_c (by omega) (notS_c (by omega) (notS_c (by omega) (notS_c (by omega) (notS_c (by omega) (notS_c (by omega) (notS_c (by omega) (notS_c (by omega) (notS_c (by omega) (notS_c (by omega) (notS_c (by omega) (notS_c (by omega) (notS_c (by omega) (notS_n)))))))))))))))))) hq), hs176.2.2.1 _ _ (notS_c (by omega) (notS_c (by omega) (notS_c (by omega) (notS_c (by omega) (notS_c (by omega) (notS_c (by omega) (notS_c (by omega) (notS_c (by omega) (notS_c (by omega) (notS_c (by omega) (notS_c (by omega) (notS_c (by omega) (notS_c (by omega) (notS_c (by omega) (notS_c (by omega) (notS_c (by omega) (notS_n)))))))))))))))))⟩)⟩)
      · skip
        refine r_c0 (pc' := 27) rfl rfl ?_
        have hb180 := rd_1_15 hz
        have hf181 : z149 1 15 = z0 1 15 := ((congrFun (congrFun hq150 _) _).trans (mu_ne (by omega)))
        exact r_ri rfl (po_I hs151 ⟨by decide, by decide⟩ ⟨_, _, rfl, by omega, by omega, (by first | exact ⟨hcv, fun q => q, rfl⟩ | exact ⟨CV_f ht hz hs151 (notS_c (by omega) (notS_c (by omega) (notS_c (by omega) (notS_c (by omega) (notS_c (by omega) (notS_c (by omega) (notS_c (by omega) (notS_c (by omega) (notS_c (by omega) (notS_c (by omega) (notS_c (by omega) (notS_c (by omega) (notS_c (by omega) (notS_c (by omega) (notS_c (by omega) (notS_c (by omega) (notS_n))))))))))))))))) (notS_c (by omega) (notS_c (by omega) (notS_c (by omega) (notS_c (by omega) (notS_c (by omega) (notS_c (by omega) (notS_c (by omega) (notS_c (by omega) (notS_c (by omega) (notS_c (by omega) (notS_c (by omega) (notS_c (by omega) (notS_c (by omega) (notS_c (by omega) (notS_c (by omega) (notS_c (by omega) (notS_n))))))))))))))))) (notS_c (by omega) (notS_c (by omega) (notS_c (by omega) (notS_c (by omega) (notS_c (by omega) (notS_c (by omega) (notS_c (by omega) (notS_c (by omega) (notS_c (by omega) (notS_c (by omega) (notS_c (by omega) (notS_c (by omega) (notS_c (by omega) (notS_c (by omega) (notS_c (by omega) (notS_c (by omega) (notS_n))))))))))))))))) (notS_c (by omega) (notS_c (by omega) (notS_c (by omega) (notS_c (by omega) (notS_c (by omega) (notS_c (by omega) (notS_c (by omega) (notS_c (by omega) (notS_c (by omega) (notS_c (by omega) (notS_c (by omega) (notS_c (by omega) (notS_c (by omega) (notS_c (by omega) (notS_c (by omega) (notS_c (by omega) (notS_n))))))))))))))))) (notS_c (by omega) (notS_c (by omega) (notS_c (by omega) (notS_c (by omega) (notS_c (by omega) (notS_c (by omega) (notS_c (by omega) (notS_c (by omega) (notS_c (by omega) (notS_c (by omega) (notS_c (by omega) (notS_c (by omega) (notS_c (by omega) (notS_c (by omega) (notS_c (by omega) (notS_c (by omega) (notS_n))))))))))))))))) (fun i => (notS_c (by omega) (notS_c (by omega) (notS_c (by omega) (notS_c (by omega) (notS_c (by omega) (notS_c (by omega) (notS_c (by omega) (notS_c (by omega) (notS_c (by omega) (notS_c (by omega) (notS_c (by omega) (notS_c (by omega) (notS_c (by omega) (notS_c (by omega) (notS_c (by omega) (notS_c (by omega) (notS_n)))))))))))))))))) (fun i => (notS_c (by omega) (notS_c (by omega) (notS_c (by omega) (notS_c (by omega) (notS_c (by omega) (notS_c (by omega) (notS_c (by omega) (notS_c (by omega) (notS_c (by omega) (notS_c (by omega) (notS_c (by omega) (notS_c (by omega) (notS_c (by omega) (notS_c (by omega) (notS_c (by omega) (notS_c (by omega) (notS_n)))))))))))))))))) (fun i => (notS_c (by omega) (notS_c (by omega) (notS_c (by omega) (notS_c (by omega) (notS_c (by omega) (notS_c (by omega) (notS_c (by omega) (notS_c (by omega) (notS_c (by omega) (notS_c (by omega) (notS_c (by omega) (notS_c (by omega) (notS_c (by omega) (notS_c (by omega) (notS_c (by omega) (notS_c (by omega) (notS_n)))))))))))))))))) (fun a h1 h2 i => (notS_c (by omega) (notS_c (by omega) (notS_c (by omega) (notS_c (by omega) (notS_c (by omega) (notS_c (by omega) (notS_c (by omega) (notS_c (by omega) (notS_c (by omega) (notS_c (by omega) (notS_c (by omega) (notS_c (by omega) (notS_c (by omega) (notS_c (by omega) (notS_c (by omega) (notS_c (by omega) (notS_n)))))))))))))))))) (notS_c (by omega) (notS_c (by omega) (notS_c (by omega) (notS_c (by omega) (notS_c (by omega) (notS_c (by omega) (notS_c (by omega) (notS_c (by omega) (notS_c (by omega) (notS_c (by omega) (notS_c (by omega) (notS_c (by omega) (notS_c (by omega) (notS_c (by omega) (notS_c (by omega) (notS_c (by omega) (notS_n))))))))))))))))) (notS_c (by omega) (notS_c (by omega) (notS_c (by omega) (notS_c (by omega) (notS_c (by omega) (notS_c (by omega) (notS_c (by omega) (notS_c (by omega) (notS_c (by omega) (notS_c (by omega) (notS_c (by omega) (notS_c (by omega) (notS_c (by omega) (notS_c (by omega) (notS_c (by omega) (notS_c (by omega) (notS_n))))))))))))))))) (notS_c (by omega) (notS_c (by omega) (notS_c (by omega) (notS_c (by omega) (notS_c (by omega) (notS_c (by omega) (notS_c (by omega) (notS_c (by omega) (notS_c (by omega) (notS_c (by omega) (notS_c (by omega) (notS_c (by omega) (notS_c (by omega) (notS_c (by omega) (notS_c (by omega) (notS_c (by omega) (notS_n))))))))))))))))) (fun a h1 h2 i => (notS_c (by omega) (notS_c (by omega) (notS_c (by omega) (notS_c (by omega) (notS_c (by omega) (notS_c (by omega) (notS_c (by omega) (notS_c (by omega) (notS_c (by omega) (notS_c (by omega) (notS_c (by omega) (notS_c (by omega) (notS_c (by omega) (notS_c (by omega) (notS_c (by omega) (notS_c (by omega) (notS_n)))))))))))))))))) (fun a h1 h2 i => (notS_c (by omega) (notS_c (by omega) (notS_c (by omega) (notS_c (by omega) (notS_c (by omega) (notS_c (by omega) (notS_c (by omega) (notS_c (by omega) (notS_c (by omega) (notS_c (by omega) (notS_c (by omega) (notS_c (by omega) (notS_c (by omega) (notS_c (by omega) (notS_c (by omega) (notS_c (by omega) (notS_n)))))))))))))))))) hcv, (fun hq => GA_f ht hz hs151 (notS_c (by omega) (notS_c (by omega) (notS_c (by omega) (notS_c (by omega) (notS_c (by omega) (notS_c (by omega) (notS_c (by omega) (notS_c (by omega) (notS_c (by omega) (notS_c (by omega) (notS_c (by omega) (notS_c (by omega) (notS_c (by omega) (notS_c (by omega) (notS_c (by omega) (notS_c (by omega) (notS_n))))))))))))))))) (notS_c (by omega) (notS_c (by omega) (notS_c (by omega) (notS_c (by omega) (notS_c (by omega) (notS_c (by omega) (notS_c (by omega) (notS_c (by omega) (notS_c (by omega) (notS_c (by omega) (notS_c (by omega) (notS_c (by omega) (notS_c (by omega) (notS_c (by omega) (notS_c (by omega) (notS_c (by omega) (notS_n))))))))))))))))) (fun i => (notS_c (by omega) (notS_c (by omega) (notS_c (by omega) (notS_c (by omega) (notS_c (by omega) (notS_c (by omega) (notS_c (by omega) (notS_c (by omega) (notS_c (by omega) (notS_c (by omega) (notS_c (by omega) (notS_c (by omega) (notS_c (by omega) (notS_c (by omega) (notS_c (by omega) (notS_c (by omega) (notS_n)))))))))))))))))) (fun a h1 h2 i => (notS_c (by omega) (notS_c (by omega) (notS_c (by omega) (notS_c (by omega) (notS_c (by omega) (notS_c (by omega) (notS_c (by omega) (notS_c (by omega) (notS_c (by omega) (notS_c (by omega) (notS_c (by omega) (notS_c (by omega) (notS_c (by omega) (notS_c (by omega) (notS_c (by omega) (notS_c (by omega) (notS_n)))))))))))))))))) hq), hs151.2.2.1 _ _ (notS_c (by omega) (notS_c (by omega) (notS_c (by omega) (notS_c (by omega) (notS_c (by omega) (notS_c (by omega) (notS_c (by omega) (notS_c (by omega) (notS_c (by omega) (notS_c (by omega) (notS_c (by omega) (notS_c (by omega) (notS_c (by omega) (notS_c (by omega) (notS_c (by omega) (notS_c (by omega) (notS_n)))))))))))))))))⟩)⟩)
/-- LoopGround least -/
abbrev S_121z  : mS := [(1, 1, 18, 18)]
abbrev E_121z (t : Nat) (u : Nat) (a1 : Int) (a2 : Int) (z0 w0 : mZ) (tx it tt ct : Option Nat) : Int → mZ → mZ → mP → Prop := fun v z w p => p = (pq (some t) (some u) tx it none tt ct) ∧ (-1) ≤ v ∧ v ≤ (-1) ∧ (CV z w t ∧ (GA z0 z0 t → GA z z t) ∧ z 1 15 = z0 1 15)
theorem m_121z {d : Nat} {z0 w0 : mZ} {tx it tt ct : Option Nat} (t : Nat) (u : Nat) (a1 : Int) (a2 : Int) (hz : rz z0) (hw : rw_ w0) (ha1 : (-2147483648) ≤ a1 ∧ a1 ≤ 2147483647) (ha2 : (-2147483648) ≤ a2 ∧ a2 ≤ 2147483647) (ht : isT t) (hu : isT u) (hcv : CV z0 w0 t) : wc (d + 7) 121 [.ref 1, .int (Int32.ofInt a1), .int (Int32.ofInt a2)] (mk z0 w0 (pq (some t) (some u) tx it none tt ct)) (poI S_121z z0 w0 (E_121z t u a1 a2 z0 w0 tx it tt ct)) := by
  have hst : st_ S_121z z0 w0 z0 w0 := st_rf hz hw
  have htb : 159 ≤ t ∧ t ≤ 192 := by have := ht; unfold isT at this; omega
  have hub : 159 ≤ u ∧ u ≤ 192 := by have := hu; unfold isT at this; omega
  have hz15 := rd_1_15 hz
  have hwt := hcv.1
  have hzt3 := rd_T_3 ht hz
  have h390 := rd_39_0 hz
  have h391 := rd_39_1 hz
  have h392 := rd_39_2 hz
  refine w_m rfl rfl ?_
  refine r_ld (pc' := 1) rfl rfl rfl rfl ?_
  refine r_c0 (pc' := 2) rfl rfl ?_
  refine r_pi (pc' := 5) rfl rfl sh_1 rfl (fit_b (by omega)) hst (inS_0 (by omega) (by omega) (by omega) (by omega)) (wr_1_18 ⟨by omega, by omega⟩) (fun z16 hq17 hs18 => ?_)
  refine r_ld (pc' := 6) rfl rfl rfl rfl ?_
  refine r_gr (b := 10) (pc' := 9) rfl rfl sh_1 rfl pp_1_3 ?_
  refine r_ld (pc' := 10) rfl rfl rfl rfl ?_
  refine r_cVI (pc' := 13) rfl rfl rfl rfl rfl sh_10 (m_24z (d := d + 3) a1 hs18.1 hs18.2.1 ⟨by omega, by omega⟩) (fun v19 z20 w21 p22 h23 hs24 hE25 => ?_)
  obtain ⟨rfl, rfl, rfl, hE25⟩ := hE25
  refine r_zeq (pc' := 16) rfl rfl ⟨by omega, by omega⟩ (fun hc27 => ?_) (fun hc27 => ?_)
  · skip
    refine r_c0 (pc' := 27) rfl rfl ?_
    have hb28 := rd_1_15 hz
    have hf29 : z16 1 15 = z0 1 15 := ((congrFun (congrFun hq17 _) _).trans (mu_ne (by omega)))
    exact r_ri rfl (po_I hs18 ⟨by decide, by decide⟩ ⟨rfl, by omega, by omega, (by first | exact ⟨hcv, fun q => q, rfl⟩ | exact ⟨CV_f ht hz hs18 (notS_c (by omega) (notS_n)) (notS_c (by omega) (notS_n)) (notS_c (by omega) (notS_n)) (notS_c (by omega) (notS_n)) (notS_c (by omega) (notS_n)) (fun i => (notS_c (by omega) (notS_n))) (fun i => (notS_c (by omega) (notS_n))) (fun i => (notS_c (by omega) (notS_n))) (fun a h1 h2 i => (notS_c (by omega) (notS_n))) (notS_c (by omega) (notS_n)) (notS_c (by omega) (notS_n)) (notS_c (by omega) (notS_n)) (fun a h1 h2 i => (notS_c (by omega) (notS_n))) (fun a h1 h2 i => (notS_c (by omega) (notS_n))) hcv, (fun hq => GA_f ht hz hs18 (notS_c (by omega) (notS_n)) (notS_c (by omega) (notS_n)) (fun i => (notS_c (by omega) (notS_n))) (fun a h1 h2 i => (notS_c (by omega) (notS_n))) hq), hs18.2.2.1 _ _ (notS_c (by omega) (notS_n))⟩)⟩)
  · exfalso; omega
