section
/-! methods, printed by wip/tools/vcg.py -/
/-- LoopGround numbersOf -/
abbrev S_135x  : mS := []
abbrev E_135x (t : Nat) (u : Nat) (a1 : Int) (z0 w0 : mZ) (tx it mt tt ct : Option Nat) : Option Nat → mZ → mZ → mP → Prop := fun o z w p => (o = some (41 + ((z0 39 2 + z0 39 0) % 61).toNat) ∧ z0 = z ∧ w0 = w ∧ p = (pq (some t) (some u) tx it mt tt ct) ∧ a1 = -1) ∨ (o = some (t + 8 + a1.toNat) ∧ z0 = z ∧ w0 = w ∧ p = (pq (some t) (some u) tx it mt tt ct) ∧ 0 ≤ a1 ∧ a1 < z0 t 3 ∧ a1 ≤ 7) ∨ (o = none ∧ z0 = z ∧ w0 = w ∧ p = (pq (some t) (some u) tx it mt tt ct) ∧ a1 ≠ -1 ∧ (a1 < 0 ∨ z0 t 3 ≤ a1))
theorem m_135x {d : Nat} {z0 w0 : mZ} {tx it mt tt ct : Option Nat} (t : Nat) (u : Nat) (a1 : Int) (hz : rz z0) (hw : rw_ w0) (ha1 : (-2147483648) ≤ a1 ∧ a1 ≤ 2147483647) (ht : isT t) (hu : isT u) : wc (d + 2) 135 [.ref 1, .int (Int32.ofInt a1)] (mk z0 w0 (pq (some t) (some u) tx it mt tt ct)) (poR S_135x z0 w0 (E_135x t u a1 z0 w0 tx it mt tt ct)) := by
  have hst : st_ S_135x z0 w0 z0 w0 := st_rf hz hw
  have htb : 159 ≤ t ∧ t ≤ 192 := by have := ht; unfold isT at this; omega
  have hub : 159 ≤ u ∧ u ≤ 192 := by have := hu; unfold isT at this; omega
  have hzt3 := rd_T_3 ht hz
  refine w_m rfl rfl ?_
  refine r_ld (pc' := 1) rfl rfl rfl rfl ?_
  refine r_c0 (pc' := 2) rfl rfl ?_
  refine r_ine (pc' := 5) rfl rfl ⟨by omega, by omega⟩ ⟨by decide, by decide⟩ (fun hc22 => ?_) (fun hc22 => ?_)
  · skip
    refine r_ld (pc' := 14) rfl rfl rfl rfl ?_
    refine r_ld (pc' := 15) rfl rfl rfl rfl ?_
    have hb23 := rd_T_3 ht hz
    refine r_cVI (pc' := 18) rfl rfl rfl rfl rfl sh_1 (m_134 (d := d) t u a1 hst.1 hst.2.1 ⟨by omega, by omega⟩ ht hu) (fun v24 z25 w26 p27 h28 hs29 hE30 => ?_)
    obtain ⟨rfl, rfl, rfl, hE30⟩ := hE30
    refine r_zeq (pc' := 21) rfl rfl ⟨by omega, by omega⟩ (fun hc32 => ?_) (fun hc32 => ?_)
    · skip
      refine r_al (pc' := 34) rfl rfl rfl rfl ?_
      exact r_raa (x := none) rfl (po_R hst (by first | exact Or.inl ⟨rfl, rfl, rfl, rfl, by omega⟩ | exact Or.inr (Or.inl ⟨rfl, rfl, rfl, rfl, by omega, by omega, by omega⟩) | exact Or.inr (Or.inr ⟨rfl, rfl, rfl, rfl, by omega, by omega⟩)))
    · skip
      refine r_ld (pc' := 22) rfl rfl rfl rfl ?_
      refine r_gr (b := t) (pc' := 25) rfl rfl sh_1 rfl pp_1_13 ?_
      refine r_gr (b := t + 7) (pc' := 28) rfl rfl (sh_T ht) rfl (pp_T_11 ht) ?_
      refine r_ld (pc' := 29) rfl rfl rfl rfl ?_
      refine r_aa (b := t + 8 + a1.toNat) (pc' := 30) rfl rfl (sh_T7 ht) (Or.inl rfl) rfl (by omega) (by omega) (pa_T7 ht (by omega)) ?_
      refine r_go rfl ?_
      exact r_raa (x := some (t + 8 + a1.toNat)) rfl (po_R hst (by first | exact Or.inl ⟨rfl, rfl, rfl, rfl, by omega⟩ | exact Or.inr (Or.inl ⟨rfl, rfl, rfl, rfl, by omega, by omega, by omega⟩) | exact Or.inr (Or.inr ⟨rfl, rfl, rfl, rfl, by omega, by omega⟩)))
  · skip
    refine r_ld (pc' := 6) rfl rfl rfl rfl ?_
    refine r_gr (b := 39) (pc' := 9) rfl rfl sh_1 rfl pp_1_6 ?_
    refine r_cVR (pc' := 12) rfl rfl rfl rfl rfl sh_39 (m_2 (d := d)  hst.1 hst.2.1 ) (fun v33 z34 w35 p36 hs38 hE39 => ?_)
    rcases hE39 with ⟨rfl, rfl, rfl, rfl, hrw⟩
    have hb41 := rd_39_2 hz
    have hb42 := rd_39_0 hz
    exact r_raa (x := some (41 + ((z0 39 2 + (z0 39 0)) % 61).toNat)) rfl (po_R hst (by first | exact Or.inl ⟨rfl, rfl, rfl, rfl, by omega⟩ | exact Or.inr (Or.inl ⟨rfl, rfl, rfl, rfl, by omega, by omega, by omega⟩) | exact Or.inr (Or.inr ⟨rfl, rfl, rfl, rfl, by omega, by omega⟩)))
/-- LoopGround number -/
abbrev S_108x  : mS := []
abbrev E_108x (t : Nat) (u : Nat) (a1 : Int) (a2 : Int) (z0 w0 : mZ) (tx it mt tt ct : Option Nat) : Int → mZ → mZ → mP → Prop := fun v z w p => p = (pq (some t) (some u) tx it mt tt ct) ∧ z0 = z ∧ w0 = w ∧ (-2) ≤ v ∧ v ≤ 100000000000000 ∧ ((CV z w t ∧ (GA z0 z0 t → GA z z t) ∧ z 1 15 = z0 1 15) ∧ (((a1 = -1 ∧ (0 ≤ a2 ∧ a2 < z0 t 1)) ∧ v = (w0 (aR z0 (z0 39 0))) a2.toNat) ∨ (((0 ≤ a1 ∧ a1 < z0 t 3) ∧ (0 ≤ a2 ∧ a2 < z0 t 1)) ∧ v = (w0 (t + 8 + a1.toNat)) a2.toNat) ∨ (¬ ((a1 = -1 ∨ (0 ≤ a1 ∧ a1 < z0 t 3)) ∧ (0 ≤ a2 ∧ a2 < z0 t 1)) ∧ v = -2)))
theorem m_108x {d : Nat} {z0 w0 : mZ} {tx it mt tt ct : Option Nat} (t : Nat) (u : Nat) (a1 : Int) (a2 : Int) (hz : rz z0) (hw : rw_ w0) (ha1 : (-2147483648) ≤ a1 ∧ a1 ≤ 2147483647) (ha2 : (-2147483648) ≤ a2 ∧ a2 ≤ 2147483647) (ht : isT t) (hu : isT u) (hcv : CV z0 w0 t) : wc (d + 3) 108 [.ref 1, .int (Int32.ofInt a1), .int (Int32.ofInt a2)] (mk z0 w0 (pq (some t) (some u) tx it mt tt ct)) (poL S_108x z0 w0 (E_108x t u a1 a2 z0 w0 tx it mt tt ct)) := by
  have hst : st_ S_108x z0 w0 z0 w0 := st_rf hz hw
  have htb : 159 ≤ t ∧ t ≤ 192 := by have := ht; unfold isT at this; omega
  have hub : 159 ≤ u ∧ u ≤ 192 := by have := hu; unfold isT at this; omega
  have hz33 := rd_1_15 hz
  have hz34 := rd_39_0 hz
  have hz35 := rd_T_1 ht hz
  have hz36 := rd_T_3 ht hz
  have hwt := hcv.1
  have hzt3 := rd_T_3 ht hz
  have h390 := rd_39_0 hz
  have h391 := rd_39_1 hz
  have h392 := rd_39_2 hz
  refine w_m rfl rfl ?_
  refine r_ld (pc' := 1) rfl rfl rfl rfl ?_
  refine r_ld (pc' := 2) rfl rfl rfl rfl ?_
  refine r_cVR (pc' := 5) rfl rfl rfl rfl rfl sh_1 (m_135x (d := d) t u a1 hst.1 hst.2.1 ⟨by omega, by omega⟩ ht hu) (fun v37 z38 w39 p40 hs42 hE43 => ?_)
  rcases hE43 with ⟨rfl, rfl, rfl, rfl, hra⟩ | ⟨rfl, rfl, rfl, rfl, hrt⟩ | ⟨rfl, rfl, rfl, rfl, hrn⟩
  · skip
    have hb45 := rd_39_2 hz
    have hb46 := rd_39_0 hz
    refine r_st (pc' := 6) (lv' := [(3, _), (0, _), (1, _), (2, _)]) rfl rfl rfl rfl ?_
    refine r_ld (pc' := 7) rfl rfl rfl rfl ?_
    refine r_nul_f (pc' := 10) rfl rfl ?_
    refine r_ld (pc' := 11) rfl rfl rfl rfl ?_
    refine r_ld (pc' := 12) rfl rfl rfl rfl ?_
    have hb47 := rd_T_1 ht hz
    refine r_cVI (pc' := 15) rfl rfl rfl rfl rfl sh_1 (m_133 (d := d + 1) t u a2 hst.1 hst.2.1 ⟨by omega, by omega⟩ ht hu) (fun v48 z49 w50 p51 h52 hs53 hE54 => ?_)
    obtain ⟨rfl, rfl, rfl, hE54⟩ := hE54
    refine r_zne (pc' := 18) rfl rfl ⟨by omega, by omega⟩ (fun hc56 => ?_) (fun hc56 => ?_)
    · skip
      refine r_ld (pc' := 23) rfl rfl rfl rfl ?_
      refine r_ld (pc' := 24) rfl rfl rfl rfl ?_
      have hb57 := rd_41 (k := ((z0 39 2 + (z0 39 0)) % 61).toNat) (by omega) hw (i := a2.toNat) (by omega)
      refine r_la (pc' := 25) rfl rfl (sh_41 (k := ((z0 39 2 + (z0 39 0)) % 61).toNat) (by omega)) rfl (by omega) (by omega) rfl ?_
      exact r_rl rfl (po_L hst ⟨by omega, by omega⟩ ⟨rfl, rfl, rfl, by omega, by omega, (by refine ⟨?_, ?_⟩; (first | exact ⟨hcv, fun q => q, rfl⟩ | exact ⟨CV_f ht hz hst (notS_n) (notS_n) (notS_n) (notS_n) (notS_n) (fun i => (notS_n)) (fun i => (notS_n)) (fun i => (notS_n)) (fun a h1 h2 i => (notS_n)) (notS_n) (notS_n) (notS_n) (fun a h1 h2 i => (notS_n)) (fun a h1 h2 i => (notS_n)) hcv, (fun hq => GA_f ht hz hst (notS_n) (notS_n) (fun i => (notS_n)) (fun a h1 h2 i => (notS_n)) hq), hst.2.2.1 _ _ (notS_n)⟩); first | exact Or.inl ⟨by omega, rfl⟩ | exact Or.inr (Or.inl ⟨by omega, rfl⟩) | exact Or.inr (Or.inr ⟨by omega, rfl⟩))⟩)
    · skip
      refine r_al (pc' := 21) rfl rfl rfl rfl ?_
      exact r_rl rfl (po_L hst ⟨by decide, by decide⟩ ⟨rfl, rfl, rfl, by omega, by omega, (by refine ⟨?_, ?_⟩; (first | exact ⟨hcv, fun q => q, rfl⟩ | exact ⟨CV_f ht hz hst (notS_n) (notS_n) (notS_n) (notS_n) (notS_n) (fun i => (notS_n)) (fun i => (notS_n)) (fun i => (notS_n)) (fun a h1 h2 i => (notS_n)) (notS_n) (notS_n) (notS_n) (fun a h1 h2 i => (notS_n)) (fun a h1 h2 i => (notS_n)) hcv, (fun hq => GA_f ht hz hst (notS_n) (notS_n) (fun i => (notS_n)) (fun a h1 h2 i => (notS_n)) hq), hst.2.2.1 _ _ (notS_n)⟩); first | exact Or.inl ⟨by omega, rfl⟩ | exact Or.inr (Or.inl ⟨by omega, rfl⟩) | exact Or.inr (Or.inr ⟨by omega, rfl⟩))⟩)
  · skip
    refine r_st (pc' := 6) (lv' := [(3, _), (0, _), (1, _), (2, _)]) rfl rfl rfl rfl ?_
    refine r_ld (pc' := 7) rfl rfl rfl rfl ?_
    refine r_nul_f (pc' := 10) rfl rfl ?_
    refine r_ld (pc' := 11) rfl rfl rfl rfl ?_
    refine r_ld (pc' := 12) rfl rfl rfl rfl ?_
    have hb58 := rd_T_1 ht hz
    refine r_cVI (pc' := 15) rfl rfl rfl rfl rfl sh_1 (m_133 (d := d + 1) t u a2 hst.1 hst.2.1 ⟨by omega, by omega⟩ ht hu) (fun v59 z60 w61 p62 h63 hs64 hE65 => ?_)
    obtain ⟨rfl, rfl, rfl, hE65⟩ := hE65
    refine r_zne (pc' := 18) rfl rfl ⟨by omega, by omega⟩ (fun hc67 => ?_) (fun hc67 => ?_)
    · skip
      refine r_ld (pc' := 23) rfl rfl rfl rfl ?_
      refine r_ld (pc' := 24) rfl rfl rfl rfl ?_
      have hb68 := rd_T8 ht (k := a1.toNat) (by omega) hw (i := a2.toNat) (by omega)
      refine r_la (pc' := 25) rfl rfl (sh_T8 ht (by omega)) rfl (by omega) (by omega) rfl ?_
      exact r_rl rfl (po_L hst ⟨by omega, by omega⟩ ⟨rfl, rfl, rfl, by omega, by omega, (by refine ⟨?_, ?_⟩; (first | exact ⟨hcv, fun q => q, rfl⟩ | exact ⟨CV_f ht hz hst (notS_n) (notS_n) (notS_n) (notS_n) (notS_n) (fun i => (notS_n)) (fun i => (notS_n)) (fun i => (notS_n)) (fun a h1 h2 i => (notS_n)) (notS_n) (notS_n) (notS_n) (fun a h1 h2 i => (notS_n)) (fun a h1 h2 i => (notS_n)) hcv, (fun hq => GA_f ht hz hst (notS_n) (notS_n) (fun i => (notS_n)) (fun a h1 h2 i => (notS_n)) hq), hst.2.2.1 _ _ (notS_n)⟩); first | exact Or.inl ⟨by omega, rfl⟩ | exact Or.inr (Or.inl ⟨by omega, rfl⟩) | exact Or.inr (Or.inr ⟨by omega, rfl⟩))⟩)
    · skip
      refine r_al (pc' := 21) rfl rfl rfl rfl ?_
      exact r_rl rfl (po_L hst ⟨by decide, by decide⟩ ⟨rfl, rfl, rfl, by omega, by omega, (by refine ⟨?_, ?_⟩; (first | exact ⟨hcv, fun q => q, rfl⟩ | exact ⟨CV_f ht hz hst (notS_n) (notS_n) (notS_n) (notS_n) (notS_n) (fun i => (notS_n)) (fun i => (notS_n)) (fun i => (notS_n)) (fun a h1 h2 i => (notS_n)) (notS_n) (notS_n) (notS_n) (fun a h1 h2 i => (notS_n)) (fun a h1 h2 i => (notS_n)) hcv, (fun hq => GA_f ht hz hst (notS_n) (notS_n) (fun i => (notS_n)) (fun a h1 h2 i => (notS_n)) hq), hst.2.2.1 _ _ (notS_n)⟩); first | exact Or.inl ⟨by omega, rfl⟩ | exact Or.inr (Or.inl ⟨by omega, rfl⟩) | exact Or.inr (Or.inr ⟨by omega, rfl⟩))⟩)
  · skip
    refine r_st (pc' := 6) (lv' := [(3, _), (0, _), (1, _), (2, _)]) rfl rfl rfl rfl ?_
    refine r_ld (pc' := 7) rfl rfl rfl rfl ?_
    refine r_nul_t rfl ?_
    refine r_al (pc' := 21) rfl rfl rfl rfl ?_
    exact r_rl rfl (po_L hst ⟨by decide, by decide⟩ ⟨rfl, rfl, rfl, by omega, by omega, (by refine ⟨?_, ?_⟩; (first | exact ⟨hcv, fun q => q, rfl⟩ | exact ⟨CV_f ht hz hst (notS_n) (notS_n) (notS_n) (notS_n) (notS_n) (fun i => (notS_n)) (fun i => (notS_n)) (fun i => (notS_n)) (fun a h1 h2 i => (notS_n)) (notS_n) (notS_n) (notS_n) (fun a h1 h2 i => (notS_n)) (fun a h1 h2 i => (notS_n)) hcv, (fun hq => GA_f ht hz hst (notS_n) (notS_n) (fun i => (notS_n)) (fun a h1 h2 i => (notS_n)) hq), hst.2.2.1 _ _ (notS_n)⟩); first | exact Or.inl ⟨by omega, rfl⟩ | exact Or.inr (Or.inl ⟨by omega, rfl⟩) | exact Or.inr (Or.inr ⟨by omega, rfl⟩))⟩)
end
section
/-! methods, printed by wip/tools/vcg.py -/
/-- LoopGroundModel number -/
abbrev S_191x  : mS := []
abbrev E_191x (a1 : Int) (a2 : Int) (z0 w0 : mZ) (x y tx it mt tt ct : Option Nat) : Int → mZ → mZ → mP → Prop := fun v z w p => p = (pq x y tx it mt tt ct) ∧ z0 = z ∧ w0 = w ∧ (-2) ≤ v ∧ v ≤ 100000000000000 ∧ (((a1 = -1 ∧ (0 ≤ a2 ∧ a2 < 3 * z0 225 26 / 2)) ∧ v = w0 270 a2.toNat) ∨ (((0 ≤ a1 ∧ a1 < z0 225 27) ∧ (0 ≤ a2 ∧ a2 < 3 * z0 225 26 / 2)) ∧ v = z0 236 (18 * a1.toNat + a2.toNat)) ∨ (¬ ((a1 = -1 ∨ (0 ≤ a1 ∧ a1 < z0 225 27)) ∧ (0 ≤ a2 ∧ a2 < 3 * z0 225 26 / 2)) ∧ v = -2))
theorem m_191x {d : Nat} {z0 w0 : mZ} {x y tx it mt tt ct : Option Nat} (a1 : Int) (a2 : Int) (hz : rz z0) (hw : rw_ w0) (ha1 : (-2147483648) ≤ a1 ∧ a1 ≤ 2147483647) (ha2 : (-2147483648) ≤ a2 ∧ a2 ≤ 2147483647) : wc (d + 3) 191 [.ref 225, .int (Int32.ofInt a1), .int (Int32.ofInt a2)] (mk z0 w0 (pq x y tx it mt tt ct)) (poL S_191x z0 w0 (E_191x a1 a2 z0 w0 x y tx it mt tt ct)) := by
  have hst : st_ S_191x z0 w0 z0 w0 := st_rf hz hw
  have hz36 := rd_225_26 hz
  have hz37 := rd_225_27 hz
  refine w_m rfl rfl ?_
  refine r_ld (pc' := 1) rfl rfl rfl rfl ?_
  refine r_c0 (pc' := 2) rfl rfl ?_
  refine r_ieq (pc' := 5) rfl rfl ⟨by omega, by omega⟩ ⟨by decide, by decide⟩ (fun hc38 => ?_) (fun hc38 => ?_)
  · skip
    refine r_ld (pc' := 14) rfl rfl rfl rfl ?_
    refine r_ld (pc' := 15) rfl rfl rfl rfl ?_
    have hb39 := rd_225_26 hz
    refine r_cVI (pc' := 18) rfl rfl rfl rfl rfl sh_225 (m_175 (d := d) a2 hst.1 hst.2.1 ⟨by omega, by omega⟩) (fun v40 z41 w42 p43 h44 hs45 hE46 => ?_)
    obtain ⟨rfl, rfl, rfl, hE46⟩ := hE46
    refine r_zne (pc' := 21) rfl rfl ⟨by omega, by omega⟩ (fun hc48 => ?_) (fun hc48 => ?_)
    · skip
      refine r_ld (pc' := 28) rfl rfl rfl rfl ?_
      refine r_zge (pc' := 31) rfl rfl ⟨by omega, by omega⟩ (fun hc49 => ?_) (fun hc49 => ?_)
      · exfalso; omega
      · skip
        refine r_ld (pc' := 32) rfl rfl rfl rfl ?_
        refine r_gr (b := 270) (pc' := 35) rfl rfl sh_225 rfl pp_225_71 ?_
        refine r_ld (pc' := 36) rfl rfl rfl rfl ?_
        have hb50 := rd_270 hw (i := a2.toNat) (by omega)
        refine r_la (pc' := 37) rfl rfl sh_270 rfl (by omega) (by omega) rfl ?_
        refine r_go rfl ?_
        exact r_rl rfl (po_L hst ⟨by omega, by omega⟩ ⟨rfl, rfl, rfl, by omega, by omega, (by first | exact Or.inl ⟨by omega, rfl⟩ | exact Or.inr (Or.inl ⟨by omega, congrArg (z0 236) (by omega)⟩) | exact Or.inr (Or.inr ⟨by omega, rfl⟩) | (refine Or.inr (Or.inl ⟨⟨⟨?_, ?_⟩, ?_, ?_⟩, ?_⟩); omega; omega; omega; omega; (have e9 : (18 * a1 + a2).toNat = 18 * a1.toNat + a2.toNat := (by omega)); rw [← e9]))⟩)
    · skip
      refine r_al (pc' := 24) rfl rfl rfl rfl ?_
      refine r_go rfl ?_
      exact r_rl rfl (po_L hst ⟨by decide, by decide⟩ ⟨rfl, rfl, rfl, by omega, by omega, (by first | exact Or.inl ⟨by omega, rfl⟩ | exact Or.inr (Or.inl ⟨by omega, congrArg (z0 236) (by omega)⟩) | exact Or.inr (Or.inr ⟨by omega, rfl⟩) | (refine Or.inr (Or.inl ⟨⟨⟨?_, ?_⟩, ?_, ?_⟩, ?_⟩); omega; omega; omega; omega; (have e9 : (18 * a1 + a2).toNat = 18 * a1.toNat + a2.toNat := (by omega)); rw [← e9]))⟩)
  · skip
    refine r_ld (pc' := 6) rfl rfl rfl rfl ?_
    refine r_ld (pc' := 7) rfl rfl rfl rfl ?_
    have hb51 := rd_225_27 hz
    refine r_cVI (pc' := 10) rfl rfl rfl rfl rfl sh_225 (m_173 (d := d + 1) a1 hst.1 hst.2.1 ⟨by omega, by omega⟩) (fun v52 z53 w54 p55 h56 hs57 hE58 => ?_)
    obtain ⟨rfl, rfl, rfl, hE58⟩ := hE58
    refine r_zeq (pc' := 13) rfl rfl ⟨by omega, by omega⟩ (fun hc60 => ?_) (fun hc60 => ?_)
    · skip
      refine r_al (pc' := 24) rfl rfl rfl rfl ?_
      refine r_go rfl ?_
      exact r_rl rfl (po_L hst ⟨by decide, by decide⟩ ⟨rfl, rfl, rfl, by omega, by omega, (by first | exact Or.inl ⟨by omega, rfl⟩ | exact Or.inr (Or.inl ⟨by omega, congrArg (z0 236) (by omega)⟩) | exact Or.inr (Or.inr ⟨by omega, rfl⟩) | (refine Or.inr (Or.inl ⟨⟨⟨?_, ?_⟩, ?_, ?_⟩, ?_⟩); omega; omega; omega; omega; (have e9 : (18 * a1 + a2).toNat = 18 * a1.toNat + a2.toNat := (by omega)); rw [← e9]))⟩)
    · skip
      refine r_ld (pc' := 14) rfl rfl rfl rfl ?_
      refine r_ld (pc' := 15) rfl rfl rfl rfl ?_
      have hb61 := rd_225_26 hz
      refine r_cVI (pc' := 18) rfl rfl rfl rfl rfl sh_225 (m_175 (d := d) a2 hst.1 hst.2.1 ⟨by omega, by omega⟩) (fun v62 z63 w64 p65 h66 hs67 hE68 => ?_)
      obtain ⟨rfl, rfl, rfl, hE68⟩ := hE68
      refine r_zne (pc' := 21) rfl rfl ⟨by omega, by omega⟩ (fun hc70 => ?_) (fun hc70 => ?_)
      · skip
        refine r_ld (pc' := 28) rfl rfl rfl rfl ?_
        refine r_zge (pc' := 31) rfl rfl ⟨by omega, by omega⟩ (fun hc71 => ?_) (fun hc71 => ?_)
        · skip
          refine r_ld (pc' := 41) rfl rfl rfl rfl ?_
          refine r_gr (b := 236) (pc' := 44) rfl rfl sh_225 rfl pp_225_19 ?_
          refine r_cb (pc' := 46) rfl (by decide) rfl ?_
          refine r_ld (pc' := 47) rfl rfl rfl rfl ?_
          refine r_mul (pc' := 48) rfl rfl ?_
          refine r_ld (pc' := 49) rfl rfl rfl rfl ?_
          refine r_add (pc' := 50) rfl rfl ?_
          have hb72 := rd_236 hz (i := ((18 * a1) + a2).toNat) (by omega)
          refine r_ia (pc' := 51) rfl rfl sh_236 rfl (by omega) (by omega) rfl ?_
          refine r_i2l (pc' := 52) rfl rfl ⟨by omega, by omega⟩ ?_
          exact r_rl rfl (po_L hst ⟨by omega, by omega⟩ ⟨rfl, rfl, rfl, by omega, by omega, (by first | exact Or.inl ⟨by omega, rfl⟩ | exact Or.inr (Or.inl ⟨by omega, congrArg (z0 236) (by omega)⟩) | exact Or.inr (Or.inr ⟨by omega, rfl⟩) | (refine Or.inr (Or.inl ⟨⟨⟨?_, ?_⟩, ?_, ?_⟩, ?_⟩); omega; omega; omega; omega; (have e9 : (18 * a1 + a2).toNat = 18 * a1.toNat + a2.toNat := (by omega)); rw [← e9]))⟩)
        · exfalso; omega
      · skip
        refine r_al (pc' := 24) rfl rfl rfl rfl ?_
        refine r_go rfl ?_
        exact r_rl rfl (po_L hst ⟨by decide, by decide⟩ ⟨rfl, rfl, rfl, by omega, by omega, (by first | exact Or.inl ⟨by omega, rfl⟩ | exact Or.inr (Or.inl ⟨by omega, congrArg (z0 236) (by omega)⟩) | exact Or.inr (Or.inr ⟨by omega, rfl⟩) | (refine Or.inr (Or.inl ⟨⟨⟨?_, ?_⟩, ?_, ?_⟩, ?_⟩); omega; omega; omega; omega; (have e9 : (18 * a1 + a2).toNat = 18 * a1.toNat + a2.toNat := (by omega)); rw [← e9]))⟩)
end
section
/-! methods, printed by wip/tools/vcg.py -/
/-- LoopGroundModel sketch -/
abbrev S_253x  : mS := [(225, 225, 1, 1), (225, 225, 70, 70), (225, 225, 76, 76), (272, 272, 0, 1599), (225, 225, 77, 77), (269, 269, 0, 17), (244, 244, 0, 18), (243, 243, 0, 17), (225, 225, 36, 36), (225, 225, 37, 37), (245, 245, 0, 17999), (225, 225, 38, 38), (225, 225, 39, 39), (225, 225, 40, 40), (225, 225, 42, 42), (246, 246, 0, 17999), (273, 273, 0, 17), (270, 270, 0, 17), (268, 268, 0, 17)]
abbrev E_253x  (z0 w0 : mZ) (x y tx it mt tt ct : Option Nat) : Int → mZ → mZ → mP → Prop := fun v z w p => p = (pq x y tx it mt tt ct) ∧ (-2) ≤ v ∧ v ≤ 1600 ∧ ((z 225 1 = 0 ∧ RV z w) ∧ w 270 = w0 270)
theorem m_253x {d : Nat} {z0 w0 : mZ} {x y tx it mt tt ct : Option Nat}  (hz : rz z0) (hw : rw_ w0) (hrv : RV z0 w0) : wc (d + 8) 253 [.ref 225] (mk z0 w0 (pq x y tx it mt tt ct)) (poI S_253x z0 w0 (E_253x  z0 w0 x y tx it mt tt ct)) := by
  have hst : st_ S_253x z0 w0 z0 w0 := st_rf hz hw
  refine w_m rfl rfl ?_
  refine r_ld (pc' := 1) rfl rfl rfl rfl ?_
  have hb47 := rd_225_1 hz
  refine r_gi (pc' := 4) rfl rfl sh_225 rfl rfl ?_
  refine r_st (pc' := 5) (lv' := [(1, _), (0, _)]) rfl rfl rfl rfl ?_
  refine r_ld (pc' := 6) rfl rfl rfl rfl ?_
  refine r_c0 (pc' := 7) rfl rfl ?_
  refine r_pi (pc' := 10) rfl rfl sh_225 rfl rfl hst (inS_0 (by omega) (by omega) (by omega) (by omega)) (wr_225_1 ⟨by omega, by omega⟩) (fun z48 hq49 hs50 => ?_)
  refine r_ld (pc' := 11) rfl rfl rfl rfl ?_
  refine r_c0 (pc' := 12) rfl rfl ?_
  refine r_pi (pc' := 15) rfl rfl sh_225 rfl (fit_b (by omega)) hs50 (inS_s (inS_0 (by omega) (by omega) (by omega) (by omega))) (wr_225_70 ⟨by omega, by omega⟩) (fun z51 hq52 hs53 => ?_)
  refine r_ld (pc' := 16) rfl rfl rfl rfl ?_
  refine r_ld (pc' := 17) rfl rfl rfl rfl ?_
  refine r_cVI (pc' := 20) rfl rfl rfl rfl rfl sh_225 (m_249 (d := d + 5) (z0 225 1) hs53.1 hs53.2.1 ⟨by omega, by omega⟩) (fun v54 z55 w56 p57 h58 hs59 hE60 => ?_)
  have hs61 := st_tr hs53 hs59 (sub_B rfl)
  obtain ⟨rfl, hE60⟩ := hE60
  refine r_zne (pc' := 23) rfl rfl ⟨by omega, by omega⟩ (fun hc62 => ?_) (fun hc62 => ?_)
  · skip
    refine r_ld (pc' := 26) rfl rfl rfl rfl ?_
    refine r_cVV (pc' := 29) rfl rfl rfl rfl rfl sh_225 (m_250 (d := d + 6)  hs61.1 hs61.2.1 ) (fun z64 w65 p66 hs68 hE69 => ?_)
    have hs70 := st_tr hs61 hs68 (sub_B rfl)
    obtain ⟨rfl, hE69⟩ := hE69
    have hlo := hE69
    refine r_ld (pc' := 30) rfl rfl rfl rfl ?_
    have hw30 : w65 270 = w0 270 := funext fun i => ((hs68.2.2.2 _ _ (notS_c (by omega) (notS_c (by omega) (notS_c (by omega) notS_n)))).trans (hs59.2.2.2 _ _ (notS_c (by omega) (notS_c (by omega) notS_n))))
    have hb71 := rd_225_77 hs70.1
    have hb72 := rd_225_76 hs70.1
    refine r_cVI (pc' := 33) rfl rfl rfl rfl rfl sh_225 (m_252v (d := d)  hs70.1 hs70.2.1 (by exact RV_c hz (fun i h1 h2 => ((hs68.2.2.1 _ _ (notS_c (by omega) (notS_c (by omega) (notS_c (by omega) notS_n)))).trans ((hs59.2.2.1 _ _ (notS_c (by omega) (notS_c (by omega) notS_n))).trans (((congrFun (congrFun hq52 _) _).trans (mu_ne (by omega))).trans ((congrFun (congrFun hq49 _) _).trans (mu_ne (by omega))))))) (fun a h1 h2 h3 => funext fun i => ((hs68.2.2.1 _ _ (notS_c (by omega) (notS_c (by omega) (notS_c (by omega) notS_n)))).trans ((hs59.2.2.1 _ _ (notS_c (by omega) (notS_c (by omega) notS_n))).trans (((congrFun (congrFun hq52 _) _).trans (mu_ne (by omega))).trans ((congrFun (congrFun hq49 _) _).trans (mu_ne (by omega))))))) (fun a h1 h2 => funext fun i => ((hs68.2.2.1 _ _ (notS_c (by omega) (notS_c (by omega) (notS_c (by omega) notS_n)))).trans ((hs59.2.2.1 _ _ (notS_c (by omega) (notS_c (by omega) notS_n))).trans (((congrFun (congrFun hq52 _) _).trans (mu_ne (by omega))).trans ((congrFun (congrFun hq49 _) _).trans (mu_ne (by omega))))))) (((hs68.2.2.1 _ _ (notS_c (by omega) (notS_c (by omega) (notS_c (by omega) notS_n)))).trans ((hs59.2.2.1 _ _ (notS_c (by omega) (notS_c (by omega) notS_n))).trans (((congrFun (congrFun hq52 _) _).trans (mu_ne (by omega))).trans ((congrFun (congrFun hq49 _) _).trans (mu_ne (by omega))))))) (((hs68.2.2.1 _ _ (notS_c (by omega) (notS_c (by omega) (notS_c (by omega) notS_n)))).trans ((hs59.2.2.1 _ _ (notS_c (by omega) (notS_c (by omega) notS_n))).trans (((congrFun (congrFun hq52 _) _).trans (mu_ne (by omega))).trans ((congrFun (congrFun hq49 _) _).trans (mu_ne (by omega))))))) (funext fun i => ((hs68.2.2.1 _ _ (notS_c (by omega) (notS_c (by omega) (notS_c (by omega) notS_n)))).trans ((hs59.2.2.1 _ _ (notS_c (by omega) (notS_c (by omega) notS_n))).trans (((congrFun (congrFun hq52 _) _).trans (mu_ne (by omega))).trans ((congrFun (congrFun hq49 _) _).trans (mu_ne (by omega))))))) (fun a h => funext fun i => ((hs68.2.2.2 _ _ (notS_c (by omega) (notS_c (by omega) (notS_c (by omega) notS_n)))).trans (hs59.2.2.2 _ _ (notS_c (by omega) (notS_c (by omega) notS_n))))) hrv) (by first | omega | assumption)) (fun v73 z74 w75 p76 h77 hs78 hE79 => ?_)
    have hs80 := st_tr hs70 hs78 (sub_B rfl)
    obtain ⟨rfl, hE79⟩ := hE79
    have h27 : w75 270 = w0 270 := (hE79.2.2).trans hw30
    refine r_zne (pc' := 36) rfl rfl ⟨by omega, by omega⟩ (fun hc81 => ?_) (fun hc81 => ?_)
    · skip
      refine r_ld (pc' := 40) rfl rfl rfl rfl ?_
      refine r_cVV (pc' := 43) rfl rfl rfl rfl rfl sh_225 (m_236 (d := d + 6)  hs80.1 hs80.2.1 ) (fun z83 w84 p85 hs87 hE88 => ?_)
      have hs89 := st_tr hs80 hs87 (sub_B rfl)
      obtain rfl := hE88
      refine r_ld (pc' := 44) rfl rfl rfl rfl ?_
      refine r_gi (pc' := 47) rfl rfl sh_225 rfl ((hs87.2.2.1 _ _ (notS_c (by omega) (notS_c (by omega) notS_n))).trans (hs78.2.2.1 _ _ (notS_c (by omega) (notS_c (by omega) (notS_c (by omega) (notS_c (by omega) (notS_c (by omega) (notS_c (by omega) (notS_c (by omega) (notS_c (by omega) (notS_c (by omega) (notS_c (by omega) (notS_c (by omega) (notS_c (by omega) (notS_c (by omega) notS_n))))))))))))))) ?_
      have hf90 : z83 225 1 = 0 := ((hs87.2.2.1 _ _ (notS_c (by omega) (notS_c (by omega) notS_n))).trans ((hs78.2.2.1 _ _ (notS_c (by omega) (notS_c (by omega) (notS_c (by omega) (notS_c (by omega) (notS_c (by omega) (notS_c (by omega) (notS_c (by omega) (notS_c (by omega) (notS_c (by omega) (notS_c (by omega) (notS_c (by omega) (notS_c (by omega) (notS_c (by omega) notS_n)))))))))))))).trans ((hs68.2.2.1 _ _ (notS_c (by omega) (notS_c (by omega) (notS_c (by omega) notS_n)))).trans ((hs59.2.2.1 _ _ (notS_c (by omega) (notS_c (by omega) notS_n))).trans (((congrFun (congrFun hq52 _) _).trans (mu_ne (by omega))).trans ((congrFun (congrFun hq49 _) _).trans mu_eq))))))
      exact r_ri rfl (po_I hs89 ⟨by omega, by omega⟩ ⟨rfl, by omega, by omega, (by refine ⟨?_, (funext fun i => (hs87.2.2.2 _ _ (notS_c (by omega) (notS_c (by omega) notS_n)))).trans h27⟩; exact ⟨by omega, RV_c hz (fun i h1 h2 => hs89.2.2.1 _ _ (notS_c (by omega) (notS_c (by omega) (notS_c (by omega) (notS_c (by omega) (notS_c (by omega) (notS_c (by omega) (notS_c (by omega) (notS_c (by omega) (notS_c (by omega) (notS_c (by omega) (notS_c (by omega) (notS_c (by omega) (notS_c (by omega) (notS_c (by omega) (notS_c (by omega) (notS_c (by omega) (notS_c (by omega) (notS_c (by omega) (notS_c (by omega) (notS_n))))))))))))))))))))) (fun a h1 h2 h3 => funext fun i => hs89.2.2.1 _ _ (notS_c (by omega) (notS_c (by omega) (notS_c (by omega) (notS_c (by omega) (notS_c (by omega) (notS_c (by omega) (notS_c (by omega) (notS_c (by omega) (notS_c (by omega) (notS_c (by omega) (notS_c (by omega) (notS_c (by omega) (notS_c (by omega) (notS_c (by omega) (notS_c (by omega) (notS_c (by omega) (notS_c (by omega) (notS_c (by omega) (notS_c (by omega) (notS_n))))))))))))))))))))) (fun a h1 h2 => funext fun i => hs89.2.2.1 _ _ (notS_c (by omega) (notS_c (by omega) (notS_c (by omega) (notS_c (by omega) (notS_c (by omega) (notS_c (by omega) (notS_c (by omega) (notS_c (by omega) (notS_c (by omega) (notS_c (by omega) (notS_c (by omega) (notS_c (by omega) (notS_c (by omega) (notS_c (by omega) (notS_c (by omega) (notS_c (by omega) (notS_c (by omega) (notS_c (by omega) (notS_c (by omega) (notS_n))))))))))))))))))))) (hs89.2.2.1 _ _ (notS_c (by omega) (notS_c (by omega) (notS_c (by omega) (notS_c (by omega) (notS_c (by omega) (notS_c (by omega) (notS_c (by omega) (notS_c (by omega) (notS_c (by omega) (notS_c (by omega) (notS_c (by omega) (notS_c (by omega) (notS_c (by omega) (notS_c (by omega) (notS_c (by omega) (notS_c (by omega) (notS_c (by omega) (notS_c (by omega) (notS_c (by omega) (notS_n))))))))))))))))))))) (hs89.2.2.1 _ _ (notS_c (by omega) (notS_c (by omega) (notS_c (by omega) (notS_c (by omega) (notS_c (by omega) (notS_c (by omega) (notS_c (by omega) (notS_c (by omega) (notS_c (by omega) (notS_c (by omega) (notS_c (by omega) (notS_c (by omega) (notS_c (by omega) (notS_c (by omega) (notS_c (by omega) (notS_c (by omega) (notS_c (by omega) (notS_c (by omega) (notS_c (by omega) (notS_n))))))))))))))))))))) (funext fun i => hs89.2.2.1 _ _ (notS_c (by omega) (notS_c (by omega) (notS_c (by omega) (notS_c (by omega) (notS_c (by omega) (notS_c (by omega) (notS_c (by omega) (notS_c (by omega) (notS_c (by omega) (notS_c (by omega) (notS_c (by omega) (notS_c (by omega) (notS_c (by omega) (notS_c (by omega) (notS_c (by omega) (notS_c (by omega) (notS_c (by omega) (notS_c (by omega) (notS_c (by omega) (notS_n))))))))))))))))))))) (fun a h => by rcases h with rfl | rfl | rfl; exact (funext fun i => (hs87.2.2.2 _ _ (notS_c (by omega) (notS_c (by omega) notS_n)))).trans h27 ; exact (funext fun i => hs89.2.2.2 _ _ (notS_c (by omega) (notS_c (by omega) (notS_c (by omega) (notS_c (by omega) (notS_c (by omega) (notS_c (by omega) (notS_c (by omega) (notS_c (by omega) (notS_c (by omega) (notS_c (by omega) (notS_c (by omega) (notS_c (by omega) (notS_c (by omega) (notS_c (by omega) (notS_c (by omega) (notS_c (by omega) (notS_c (by omega) (notS_c (by omega) (notS_c (by omega) (notS_n))))))))))))))))))))); exact (funext fun i => hs89.2.2.2 _ _ (notS_c (by omega) (notS_c (by omega) (notS_c (by omega) (notS_c (by omega) (notS_c (by omega) (notS_c (by omega) (notS_c (by omega) (notS_c (by omega) (notS_c (by omega) (notS_c (by omega) (notS_c (by omega) (notS_c (by omega) (notS_c (by omega) (notS_c (by omega) (notS_c (by omega) (notS_c (by omega) (notS_c (by omega) (notS_c (by omega) (notS_c (by omega) (notS_n)))))))))))))))))))))) hrv⟩)⟩)
    · skip
      refine r_cb (pc' := 38) rfl (by decide) rfl ?_
      have hf91 : z74 225 1 = 0 := ((hs78.2.2.1 _ _ (notS_c (by omega) (notS_c (by omega) (notS_c (by omega) (notS_c (by omega) (notS_c (by omega) (notS_c (by omega) (notS_c (by omega) (notS_c (by omega) (notS_c (by omega) (notS_c (by omega) (notS_c (by omega) (notS_c (by omega) (notS_c (by omega) notS_n)))))))))))))).trans ((hs68.2.2.1 _ _ (notS_c (by omega) (notS_c (by omega) (notS_c (by omega) notS_n)))).trans ((hs59.2.2.1 _ _ (notS_c (by omega) (notS_c (by omega) notS_n))).trans (((congrFun (congrFun hq52 _) _).trans (mu_ne (by omega))).trans ((congrFun (congrFun hq49 _) _).trans mu_eq)))))
      exact r_ri rfl (po_I hs80 ⟨by decide, by decide⟩ ⟨rfl, by omega, by omega, (by refine ⟨?_, h27⟩; exact ⟨by omega, RV_c hz (fun i h1 h2 => hs80.2.2.1 _ _ (notS_c (by omega) (notS_c (by omega) (notS_c (by omega) (notS_c (by omega) (notS_c (by omega) (notS_c (by omega) (notS_c (by omega) (notS_c (by omega) (notS_c (by omega) (notS_c (by omega) (notS_c (by omega) (notS_c (by omega) (notS_c (by omega) (notS_c (by omega) (notS_c (by omega) (notS_c (by omega) (notS_c (by omega) (notS_c (by omega) (notS_c (by omega) (notS_n))))))))))))))))))))) (fun a h1 h2 h3 => funext fun i => hs80.2.2.1 _ _ (notS_c (by omega) (notS_c (by omega) (notS_c (by omega) (notS_c (by omega) (notS_c (by omega) (notS_c (by omega) (notS_c (by omega) (notS_c (by omega) (notS_c (by omega) (notS_c (by omega) (notS_c (by omega) (notS_c (by omega) (notS_c (by omega) (notS_c (by omega) (notS_c (by omega) (notS_c (by omega) (notS_c (by omega) (notS_c (by omega) (notS_c (by omega) (notS_n))))))))))))))))))))) (fun a h1 h2 => funext fun i => hs80.2.2.1 _ _ (notS_c (by omega) (notS_c (by omega) (notS_c (by omega) (notS_c (by omega) (notS_c (by omega) (notS_c (by omega) (notS_c (by omega) (notS_c (by omega) (notS_c (by omega) (notS_c (by omega) (notS_c (by omega) (notS_c (by omega) (notS_c (by omega) (notS_c (by omega) (notS_c (by omega) (notS_c (by omega) (notS_c (by omega) (notS_c (by omega) (notS_c (by omega) (notS_n))))))))))))))))))))) (hs80.2.2.1 _ _ (notS_c (by omega) (notS_c (by omega) (notS_c (by omega) (notS_c (by omega) (notS_c (by omega) (notS_c (by omega) (notS_c (by omega) (notS_c (by omega) (notS_c (by omega) (notS_c (by omega) (notS_c (by omega) (notS_c (by omega) (notS_c (by omega) (notS_c (by omega) (notS_c (by omega) (notS_c (by omega) (notS_c (by omega) (notS_c (by omega) (notS_c (by omega) (notS_n))))))))))))))))))))) (hs80.2.2.1 _ _ (notS_c (by omega) (notS_c (by omega) (notS_c (by omega) (notS_c (by omega) (notS_c (by omega) (notS_c (by omega) (notS_c (by omega) (notS_c (by omega) (notS_c (by omega) (notS_c (by omega) (notS_c (by omega) (notS_c (by omega) (notS_c (by omega) (notS_c (by omega) (notS_c (by omega) (notS_c (by omega) (notS_c (by omega) (notS_c (by omega) (notS_c (by omega) (notS_n))))))))))))))))))))) (funext fun i => hs80.2.2.1 _ _ (notS_c (by omega) (notS_c (by omega) (notS_c (by omega) (notS_c (by omega) (notS_c (by omega) (notS_c (by omega) (notS_c (by omega) (notS_c (by omega) (notS_c (by omega) (notS_c (by omega) (notS_c (by omega) (notS_c (by omega) (notS_c (by omega) (notS_c (by omega) (notS_c (by omega) (notS_c (by omega) (notS_c (by omega) (notS_c (by omega) (notS_c (by omega) (notS_n))))))))))))))))))))) (fun a h => by rcases h with rfl | rfl | rfl; exact h27 ; exact (funext fun i => hs80.2.2.2 _ _ (notS_c (by omega) (notS_c (by omega) (notS_c (by omega) (notS_c (by omega) (notS_c (by omega) (notS_c (by omega) (notS_c (by omega) (notS_c (by omega) (notS_c (by omega) (notS_c (by omega) (notS_c (by omega) (notS_c (by omega) (notS_c (by omega) (notS_c (by omega) (notS_c (by omega) (notS_c (by omega) (notS_c (by omega) (notS_c (by omega) (notS_c (by omega) (notS_n))))))))))))))))))))); exact (funext fun i => hs80.2.2.2 _ _ (notS_c (by omega) (notS_c (by omega) (notS_c (by omega) (notS_c (by omega) (notS_c (by omega) (notS_c (by omega) (notS_c (by omega) (notS_c (by omega) (notS_c (by omega) (notS_c (by omega) (notS_c (by omega) (notS_c (by omega) (notS_c (by omega) (notS_c (by omega) (notS_c (by omega) (notS_c (by omega) (notS_c (by omega) (notS_c (by omega) (notS_c (by omega) (notS_n)))))))))))))))))))))) hrv⟩)⟩)
  · skip
    refine r_c0 (pc' := 24) rfl rfl ?_
    have hf92 : z55 225 1 = 0 := ((hs59.2.2.1 _ _ (notS_c (by omega) (notS_c (by omega) notS_n))).trans (((congrFun (congrFun hq52 _) _).trans (mu_ne (by omega))).trans ((congrFun (congrFun hq49 _) _).trans mu_eq)))
    exact r_ri rfl (po_I hs61 ⟨by decide, by decide⟩ ⟨rfl, by omega, by omega, (by refine ⟨?_, funext fun i => (hs59.2.2.2 _ _ (notS_c (by omega) (notS_c (by omega) notS_n)))⟩; exact ⟨by omega, by exact RV_c hz (fun i h1 h2 => ((hs59.2.2.1 _ _ (notS_c (by omega) (notS_c (by omega) notS_n))).trans (((congrFun (congrFun hq52 _) _).trans (mu_ne (by omega))).trans ((congrFun (congrFun hq49 _) _).trans (mu_ne (by omega)))))) (fun a h1 h2 h3 => funext fun i => ((hs59.2.2.1 _ _ (notS_c (by omega) (notS_c (by omega) notS_n))).trans (((congrFun (congrFun hq52 _) _).trans (mu_ne (by omega))).trans ((congrFun (congrFun hq49 _) _).trans (mu_ne (by omega)))))) (fun a h1 h2 => funext fun i => ((hs59.2.2.1 _ _ (notS_c (by omega) (notS_c (by omega) notS_n))).trans (((congrFun (congrFun hq52 _) _).trans (mu_ne (by omega))).trans ((congrFun (congrFun hq49 _) _).trans (mu_ne (by omega)))))) (((hs59.2.2.1 _ _ (notS_c (by omega) (notS_c (by omega) notS_n))).trans (((congrFun (congrFun hq52 _) _).trans (mu_ne (by omega))).trans ((congrFun (congrFun hq49 _) _).trans (mu_ne (by omega)))))) (((hs59.2.2.1 _ _ (notS_c (by omega) (notS_c (by omega) notS_n))).trans (((congrFun (congrFun hq52 _) _).trans (mu_ne (by omega))).trans ((congrFun (congrFun hq49 _) _).trans (mu_ne (by omega)))))) (funext fun i => ((hs59.2.2.1 _ _ (notS_c (by omega) (notS_c (by omega) notS_n))).trans (((congrFun (congrFun hq52 _) _).trans (mu_ne (by omega))).trans ((congrFun (congrFun hq49 _) _).trans (mu_ne (by omega)))))) (fun a h => funext fun i => (hs59.2.2.2 _ _ (notS_c (by omega) (notS_c (by omega) notS_n)))) hrv⟩)⟩)
end
