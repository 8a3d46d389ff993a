/-! methods, printed by wip/tools/vcg.py -/
/-- LoopGround fault -/
abbrev S_106w  : mS := []
abbrev E_106w (t : Nat) (a1 : Int) (z0 w0 : mZ) (x y tx it mt tt ct : Option Nat) : Int → mZ → mZ → mP → Prop := fun v z w p => p = (pq x y tx it mt tt ct) ∧ z0 = z ∧ w0 = w ∧ (-2147483648) ≤ v ∧ v ≤ 2147483647 ∧ (CV z w t ∧ (GA z0 z0 t → GA z z t) ∧ z 1 15 = z0 1 15 ∧ (a1 = 0 → v = z0 1 16) ∧ (a1 = 1 → v = z0 1 17) ∧ (a1 ≠ 0 → a1 ≠ 1 → v = -1))
theorem m_106w {d : Nat} {z0 w0 : mZ} {x y tx it mt tt ct : Option Nat} (t : Nat) (a1 : Int) (hz : rz z0) (hw : rw_ w0) (ha1 : (-2147483648) ≤ a1 ∧ a1 ≤ 2147483647) (ht : isT t) (hcv : CV z0 w0 t) : wc (d + 1) 106 [.ref 1, .int (Int32.ofInt a1)] (mk z0 w0 (pq x y tx it mt tt ct)) (poI S_106w z0 w0 (E_106w t a1 z0 w0 x y tx it mt tt ct)) := by
  have hst : st_ S_106w z0 w0 z0 w0 := st_rf hz hw
  have htb : 159 ≤ t ∧ t ≤ 192 := by have := ht; unfold isT at this; omega
  have hz5 := rd_1_15 hz
  have hz6 := rd_1_16 hz
  have hz7 := rd_1_17 hz
  refine w_m rfl rfl ?_
  refine r_ld (pc' := 1) rfl rfl rfl rfl ?_
  refine r_zne (pc' := 4) rfl rfl ⟨by omega, by omega⟩ (fun hc8 => ?_) (fun hc8 => ?_)
  · skip
    refine r_ld (pc' := 10) rfl rfl rfl rfl ?_
    refine r_c0 (pc' := 11) rfl rfl ?_
    refine r_ine (pc' := 14) rfl rfl ⟨by omega, by omega⟩ ⟨by decide, by decide⟩ (fun hc9 => ?_) (fun hc9 => ?_)
    · skip
      refine r_c0 (pc' := 22) rfl rfl ?_
      exact r_ri rfl (po_I hst ⟨by decide, by decide⟩ ⟨rfl, rfl, rfl, by omega, by omega, (by exact ⟨hcv, fun q => q, rfl, by omega, by omega, by omega⟩)⟩)
    · skip
      refine r_ld (pc' := 15) rfl rfl rfl rfl ?_
      have hb10 := rd_1_17 hz
      refine r_gi (pc' := 18) rfl rfl sh_1 rfl rfl ?_
      refine r_go rfl ?_
      exact r_ri rfl (po_I hst ⟨by omega, by omega⟩ ⟨rfl, rfl, rfl, by omega, by omega, (by exact ⟨hcv, fun q => q, rfl, by omega, by omega, by omega⟩)⟩)
  · skip
    refine r_ld (pc' := 5) rfl rfl rfl rfl ?_
    have hb11 := rd_1_16 hz
    refine r_gi (pc' := 8) rfl rfl sh_1 rfl rfl ?_
    exact r_ri rfl (po_I hst ⟨by omega, by omega⟩ ⟨rfl, rfl, rfl, by omega, by omega, (by exact ⟨hcv, fun q => q, rfl, by omega, by omega, by omega⟩)⟩)
/-- LoopGround feed -/
abbrev S_102w  : mS := [(2, 2, 0, 1599), (1, 1, 15, 15)]
abbrev E_102w (t : Nat) (a1 : Int) (a2 : Int) (a3 : Int) (a4 : Int) (a5 : Int) (z0 w0 : mZ) (x y tx it mt tt ct : Option Nat) : Int → mZ → mZ → mP → Prop := fun v z w p => p = (pq x y tx it mt tt ct) ∧ (-1) ≤ v ∧ v ≤ 1600 ∧ (CV z w t ∧ (GA z0 z0 t → GA z z t) ∧ ((1600 < z0 1 15 + 20 ∧ v = -1 ∧ z 1 15 = z0 1 15 ∧ (∀ i : Nat, (i : Int) < z0 1 15 → z 2 i = z0 2 i)) ∨ (z0 1 15 + 20 ≤ 1600 ∧ v = z0 1 15 + 20 ∧ z 1 15 = v ∧ (∀ j : Nat, j < 20 → z 2 ((z0 1 15).toNat + j) % 256 = fbs a1 a2 a3 a4 a5 j) ∧ (∀ i : Nat, (i : Int) < z0 1 15 → z 2 i = z0 2 i))))
theorem m_102w {d : Nat} {z0 w0 : mZ} {x y tx it mt tt ct : Option Nat} (t : Nat) (a1 : Int) (a2 : Int) (a3 : Int) (a4 : Int) (a5 : Int) (hz : rz z0) (hw : rw_ w0) (ha1 : (-2147483648) ≤ a1 ∧ a1 ≤ 2147483647) (ha2 : (-2147483648) ≤ a2 ∧ a2 ≤ 2147483647) (ha3 : (-2147483648) ≤ a3 ∧ a3 ≤ 2147483647) (ha4 : (-2147483648) ≤ a4 ∧ a4 ≤ 2147483647) (ha5 : (-2147483648) ≤ a5 ∧ a5 ≤ 2147483647) (ht : isT t) (hcv : CV z0 w0 t) : wc (d + 2) 102 [.ref 1, .int (Int32.ofInt a1), .int (Int32.ofInt a2), .int (Int32.ofInt a3), .int (Int32.ofInt a4), .int (Int32.ofInt a5)] (mk z0 w0 (pq x y tx it mt tt ct)) (poI S_102w z0 w0 (E_102w t a1 a2 a3 a4 a5 z0 w0 x y tx it mt tt ct)) := by
  have hst : st_ S_102w z0 w0 z0 w0 := st_rf hz hw
  have htb : 159 ≤ t ∧ t ≤ 192 := by have := ht; unfold isT at this; omega
  have hz48 := rd_1_15 hz
  refine w_m rfl rfl ?_
  refine r_ld (pc' := 1) rfl rfl rfl rfl ?_
  have hb49 := rd_1_15 hz
  refine r_gi (pc' := 4) rfl rfl sh_1 rfl rfl ?_
  refine r_cb (pc' := 6) rfl (by decide) rfl ?_
  refine r_add (pc' := 7) rfl rfl ?_
  refine r_cs (pc' := 10) rfl (by decide) rfl ?_
  refine r_ile (pc' := 13) rfl rfl ⟨by omega, by omega⟩ ⟨by decide, by decide⟩ (fun hc50 => ?_) (fun hc50 => ?_)
  · skip
    refine r_ld (pc' := 16) rfl rfl rfl rfl ?_
    refine r_ld (pc' := 17) rfl rfl rfl rfl ?_
    refine r_cVV (pc' := 20) rfl rfl rfl rfl rfl sh_1 (m_103x (d := d) a1 hst.1 hst.2.1 ⟨by omega, by omega⟩ (by first | omega | assumption)) (fun z52 w53 p54 hs56 hE57 => ?_)
    have hs58 := st_tr hst hs56 (sub_B rfl)
    obtain ⟨rfl, hE57⟩ := hE57
    have hf1 := hE57
    refine r_ld (pc' := 21) rfl rfl rfl rfl ?_
    refine r_ld (pc' := 22) rfl rfl rfl rfl ?_
    have hb59 := rd_1_15 hs58.1
    refine r_cVV (pc' := 25) rfl rfl rfl rfl rfl sh_1 (m_103x (d := d) a2 hs58.1 hs58.2.1 ⟨by omega, by omega⟩ (by first | omega | assumption)) (fun z61 w62 p63 hs65 hE66 => ?_)
    have hs67 := st_tr hs58 hs65 (sub_B rfl)
    obtain ⟨rfl, hE66⟩ := hE66
    have hf2 := hE66
    refine r_ld (pc' := 26) rfl rfl rfl rfl ?_
    refine r_ld (pc' := 27) rfl rfl rfl rfl ?_
    have hb68 := rd_1_15 hs67.1
    refine r_cVV (pc' := 30) rfl rfl rfl rfl rfl sh_1 (m_103x (d := d) a3 hs67.1 hs67.2.1 ⟨by omega, by omega⟩ (by first | omega | assumption)) (fun z70 w71 p72 hs74 hE75 => ?_)
    have hs76 := st_tr hs67 hs74 (sub_B rfl)
    obtain ⟨rfl, hE75⟩ := hE75
    have hf3 := hE75
    refine r_ld (pc' := 31) rfl rfl rfl rfl ?_
    refine r_ld (pc' := 33) rfl rfl rfl rfl ?_
    have hb77 := rd_1_15 hs76.1
    refine r_cVV (pc' := 36) rfl rfl rfl rfl rfl sh_1 (m_103x (d := d) a4 hs76.1 hs76.2.1 ⟨by omega, by omega⟩ (by first | omega | assumption)) (fun z79 w80 p81 hs83 hE84 => ?_)
    have hs85 := st_tr hs76 hs83 (sub_B rfl)
    obtain ⟨rfl, hE84⟩ := hE84
    have hf4 := hE84
    refine r_ld (pc' := 37) rfl rfl rfl rfl ?_
    refine r_ld (pc' := 39) rfl rfl rfl rfl ?_
    have hb86 := rd_1_15 hs85.1
    refine r_cVV (pc' := 42) rfl rfl rfl rfl rfl sh_1 (m_103x (d := d) a5 hs85.1 hs85.2.1 ⟨by omega, by omega⟩ (by first | omega | assumption)) (fun z88 w89 p90 hs92 hE93 => ?_)
    have hs94 := st_tr hs85 hs92 (sub_B rfl)
    obtain ⟨rfl, hE93⟩ := hE93
    have hf5 := hE93
    refine r_ld (pc' := 43) rfl rfl rfl rfl ?_
    have hb95 := rd_1_15 hs94.1
    refine r_gi (pc' := 46) rfl rfl sh_1 rfl rfl ?_
    exact r_ri rfl (po_I hs94 ⟨by omega, by omega⟩ ⟨rfl, by omega, by omega, (by exact ⟨CV_f ht hz hs94 (notS_c (by omega) (notS_c (by omega) (notS_n))) (notS_c (by omega) (notS_c (by omega) (notS_n))) (notS_c (by omega) (notS_c (by omega) (notS_n))) (notS_c (by omega) (notS_c (by omega) (notS_n))) (notS_c (by omega) (notS_c (by omega) (notS_n))) (fun i => (notS_c (by omega) (notS_c (by omega) (notS_n)))) (fun i => (notS_c (by omega) (notS_c (by omega) (notS_n)))) (fun i => (notS_c (by omega) (notS_c (by omega) (notS_n)))) (fun a h1 h2 i => (notS_c (by omega) (notS_c (by omega) (notS_n)))) (notS_c (by omega) (notS_c (by omega) (notS_n))) (notS_c (by omega) (notS_c (by omega) (notS_n))) (notS_c (by omega) (notS_c (by omega) (notS_n))) (fun a h1 h2 i => (notS_c (by omega) (notS_c (by omega) (notS_n)))) (fun a h1 h2 i => (notS_c (by omega) (notS_c (by omega) (notS_n)))) hcv, (fun hq => GA_f ht hz hs94 (notS_c (by omega) (notS_c (by omega) (notS_n))) (notS_c (by omega) (notS_c (by omega) (notS_n))) (fun i => (notS_c (by omega) (notS_c (by omega) (notS_n)))) (fun a h1 h2 i => (notS_c (by omega) (notS_c (by omega) (notS_n)))) hq), Or.inr ⟨by omega, by omega, by omega, fbs_5 (T1 := fun i => z52 2 i % 256) (T2 := fun i => z61 2 i % 256) (T3 := fun i => z70 2 i % 256) (T4 := fun i => z79 2 i % 256) (T5 := fun i => z88 2 i % 256) (fun i hi => hf1.2.1 i hi) (fun i hi => by have q := hf2.2.1 i hi; rw [show (z52 1 15).toNat = (z0 1 15).toNat + 4 by omega] at q; exact q) (fun i hi => by have q := hf3.2.1 i hi; rw [show (z61 1 15).toNat = (z0 1 15).toNat + 8 by omega] at q; exact q) (fun i hi => by have q := hf4.2.1 i hi; rw [show (z70 1 15).toNat = (z0 1 15).toNat + 12 by omega] at q; exact q) (fun i hi => by have q := hf5.2.1 i hi; rw [show (z79 1 15).toNat = (z0 1 15).toNat + 16 by omega] at q; exact q) (fun i hi => by show z61 2 i % 256 = z52 2 i % 256; rw [hf2.2.2 i (by omega)]) (fun i hi => by show z70 2 i % 256 = z61 2 i % 256; rw [hf3.2.2 i (by omega)]) (fun i hi => by show z79 2 i % 256 = z70 2 i % 256; rw [hf4.2.2 i (by omega)]) (fun i hi => by show z88 2 i % 256 = z79 2 i % 256; rw [hf5.2.2 i (by omega)]), (fun i hi => by rw [hf5.2.2 i (by omega), hf4.2.2 i (by omega), hf3.2.2 i (by omega), hf2.2.2 i (by omega), hf1.2.2 i (by omega)])⟩⟩)⟩)
  · skip
    refine r_c0 (pc' := 14) rfl rfl ?_
    exact r_ri rfl (po_I hst ⟨by decide, by decide⟩ ⟨rfl, by omega, by omega, (by exact ⟨CV_f ht hz hst (notS_c (by omega) (notS_c (by omega) (notS_n))) (notS_c (by omega) (notS_c (by omega) (notS_n))) (notS_c (by omega) (notS_c (by omega) (notS_n))) (notS_c (by omega) (notS_c (by omega) (notS_n))) (notS_c (by omega) (notS_c (by omega) (notS_n))) (fun i => (notS_c (by omega) (notS_c (by omega) (notS_n)))) (fun i => (notS_c (by omega) (notS_c (by omega) (notS_n)))) (fun i => (notS_c (by omega) (notS_c (by omega) (notS_n)))) (fun a h1 h2 i => (notS_c (by omega) (notS_c (by omega) (notS_n)))) (notS_c (by omega) (notS_c (by omega) (notS_n))) (notS_c (by omega) (notS_c (by omega) (notS_n))) (notS_c (by omega) (notS_c (by omega) (notS_n))) (fun a h1 h2 i => (notS_c (by omega) (notS_c (by omega) (notS_n)))) (fun a h1 h2 i => (notS_c (by omega) (notS_c (by omega) (notS_n)))) hcv, (fun hq => GA_f ht hz hst (notS_c (by omega) (notS_c (by omega) (notS_n))) (notS_c (by omega) (notS_c (by omega) (notS_n))) (fun i => (notS_c (by omega) (notS_c (by omega) (notS_n)))) (fun a h1 h2 i => (notS_c (by omega) (notS_c (by omega) (notS_n)))) hq), Or.inl ⟨by omega, by omega, by omega, fun i _ => rfl⟩⟩)⟩)
