/-! methods, printed by wip/tools/vcg.py -/
/-- LoopGround end -/
abbrev S_104v  : mS := [(1, 1, 15, 15)]
abbrev E_104v (t : Nat) (a1 : Int) (z0 w0 : mZ) (x y tx it mt tt ct : Option Nat) : Int → mZ → mZ → mP → Prop := fun v z w p => p = (pq x y tx it mt tt ct) ∧ (-1) ≤ v ∧ v ≤ 1600 ∧ (CV z w t ∧ (GA z0 z0 t → GA z z t) ∧ (((a1 < 0 ∨ z0 1 15 < a1) ∧ v = -1 ∧ z 1 15 = z0 1 15) ∨ (0 ≤ a1 ∧ a1 ≤ z0 1 15 ∧ v = a1 ∧ z 1 15 = a1)))
theorem m_104v {d : Nat} {z0 w0 : mZ} {x y tx it mt tt ct : Option Nat} (t : Nat) (a1 : Int) (hz : rz z0) (hw : rw_ w0) (ha1 : (-2147483648) ≤ a1 ∧ a1 ≤ 2147483647) (ht : isT t) (hcv : CV z0 w0 t) : wc (d + 1) 104 [.ref 1, .int (Int32.ofInt a1)] (mk z0 w0 (pq x y tx it mt tt ct)) (poI S_104v z0 w0 (E_104v t a1 z0 w0 x y tx it mt tt ct)) := by
  have hst : st_ S_104v z0 w0 z0 w0 := st_rf hz hw
  have htb : 159 ≤ t ∧ t ≤ 192 := by have := ht; unfold isT at this; omega
  have hz9 := rd_1_15 hz
  refine w_m rfl rfl ?_
  refine r_ld (pc' := 1) rfl rfl rfl rfl ?_
  refine r_zlt (pc' := 4) rfl rfl ⟨by omega, by omega⟩ (fun hc10 => ?_) (fun hc10 => ?_)
  · skip
    refine r_c0 (pc' := 13) rfl rfl ?_
    have hb11 := rd_1_15 hz
    exact r_ri rfl (po_I hst ⟨by decide, by decide⟩ ⟨rfl, by omega, by omega, (by exact ⟨CV_f ht hz hst (notS_c (by omega) (notS_n)) (notS_c (by omega) (notS_n)) (notS_c (by omega) (notS_n)) (notS_c (by omega) (notS_n)) (notS_c (by omega) (notS_n)) (fun i => (notS_c (by omega) (notS_n))) (fun i => (notS_c (by omega) (notS_n))) (fun i => (notS_c (by omega) (notS_n))) (fun a h1 h2 i => (notS_c (by omega) (notS_n))) (notS_c (by omega) (notS_n)) (notS_c (by omega) (notS_n)) (notS_c (by omega) (notS_n)) (fun a h1 h2 i => (notS_c (by omega) (notS_n))) (fun a h1 h2 i => (notS_c (by omega) (notS_n))) hcv, (fun hq => GA_f ht hz hst (notS_c (by omega) (notS_n)) (notS_c (by omega) (notS_n)) (fun i => (notS_c (by omega) (notS_n))) (fun a h1 h2 i => (notS_c (by omega) (notS_n))) hq), by omega⟩)⟩)
  · skip
    refine r_ld (pc' := 5) rfl rfl rfl rfl ?_
    refine r_ld (pc' := 6) rfl rfl rfl rfl ?_
    have hb12 := rd_1_15 hz
    refine r_gi (pc' := 9) rfl rfl sh_1 rfl rfl ?_
    refine r_ile (pc' := 12) rfl rfl ⟨by omega, by omega⟩ ⟨by omega, by omega⟩ (fun hc13 => ?_) (fun hc13 => ?_)
    · skip
      refine r_ld (pc' := 15) rfl rfl rfl rfl ?_
      refine r_ld (pc' := 16) rfl rfl rfl rfl ?_
      refine r_pi (pc' := 19) rfl rfl sh_1 rfl rfl hst (inS_0 (by omega) (by omega) (by omega) (by omega)) (wr_1_15 ⟨by omega, by omega⟩) (fun z14 hq15 hs16 => ?_)
      refine r_ld (pc' := 20) rfl rfl rfl rfl ?_
      have hf17 : z14 1 15 = a1 := ((congrFun (congrFun hq15 _) _).trans mu_eq)
      exact r_ri rfl (po_I hs16 ⟨by omega, by omega⟩ ⟨rfl, by omega, by omega, (by exact ⟨CV_f ht hz hs16 (notS_c (by omega) (notS_n)) (notS_c (by omega) (notS_n)) (notS_c (by omega) (notS_n)) (notS_c (by omega) (notS_n)) (notS_c (by omega) (notS_n)) (fun i => (notS_c (by omega) (notS_n))) (fun i => (notS_c (by omega) (notS_n))) (fun i => (notS_c (by omega) (notS_n))) (fun a h1 h2 i => (notS_c (by omega) (notS_n))) (notS_c (by omega) (notS_n)) (notS_c (by omega) (notS_n)) (notS_c (by omega) (notS_n)) (fun a h1 h2 i => (notS_c (by omega) (notS_n))) (fun a h1 h2 i => (notS_c (by omega) (notS_n))) hcv, (fun hq => GA_f ht hz hs16 (notS_c (by omega) (notS_n)) (notS_c (by omega) (notS_n)) (fun i => (notS_c (by omega) (notS_n))) (fun a h1 h2 i => (notS_c (by omega) (notS_n))) hq), by omega⟩)⟩)
    · skip
      refine r_c0 (pc' := 13) rfl rfl ?_
      exact r_ri rfl (po_I hst ⟨by decide, by decide⟩ ⟨rfl, by omega, by omega, (by exact ⟨CV_f ht hz hst (notS_c (by omega) (notS_n)) (notS_c (by omega) (notS_n)) (notS_c (by omega) (notS_n)) (notS_c (by omega) (notS_n)) (notS_c (by omega) (notS_n)) (fun i => (notS_c (by omega) (notS_n))) (fun i => (notS_c (by omega) (notS_n))) (fun i => (notS_c (by omega) (notS_n))) (fun a h1 h2 i => (notS_c (by omega) (notS_n))) (notS_c (by omega) (notS_n)) (notS_c (by omega) (notS_n)) (notS_c (by omega) (notS_n)) (fun a h1 h2 i => (notS_c (by omega) (notS_n))) (fun a h1 h2 i => (notS_c (by omega) (notS_n))) hcv, (fun hq => GA_f ht hz hst (notS_c (by omega) (notS_n)) (notS_c (by omega) (notS_n)) (fun i => (notS_c (by omega) (notS_n))) (fun a h1 h2 i => (notS_c (by omega) (notS_n))) hq), by omega⟩)⟩)
/-- LoopGround about -/
abbrev S_132v  : mS := []
abbrev E_132v (t : Nat) (u : Nat) (a1 : Int) (z0 w0 : mZ) (tx it mt tt ct : Option Nat) : Int → mZ → mZ → mP → Prop := fun v z w p => p = (pq (some t) (some u) tx it mt tt ct) ∧ z0 = z ∧ w0 = w ∧ (-2147483648) ≤ v ∧ v ≤ 2147483647 ∧ (CV z w t ∧ (GA z0 z0 t → GA z z t) ∧ z 1 15 = z0 1 15)
theorem m_132v {d : Nat} {z0 w0 : mZ} {tx it mt tt ct : Option Nat} (t : Nat) (u : Nat) (a1 : Int) (hz : rz z0) (hw : rw_ w0) (ha1 : (-2147483648) ≤ a1 ∧ a1 ≤ 2147483647) (ht : isT t) (hu : isT u) (hcv : CV z0 w0 t) : wc (d + 1) 132 [.ref 1, .int (Int32.ofInt a1)] (mk z0 w0 (pq (some t) (some u) tx it mt tt ct)) (poI S_132v z0 w0 (E_132v t u a1 z0 w0 tx it mt tt ct)) := by
  have hst : st_ S_132v z0 w0 z0 w0 := st_rf hz hw
  have htb : 159 ≤ t ∧ t ≤ 192 := by have := ht; unfold isT at this; omega
  have hub : 159 ≤ u ∧ u ≤ 192 := by have := hu; unfold isT at this; omega
  have hz25 := rd_1_15 hz
  refine w_m rfl rfl ?_
  refine r_ld (pc' := 1) rfl rfl rfl rfl ?_
  by_cases hd26 : a1 < 0 ∨ 8 < a1
  · refine r_sw (t := 141) rfl ⟨by omega, by omega⟩ (by rw [if_pos hd26]; rfl) ?_
    refine r_c0 (pc' := 142) rfl rfl ?_
    exact r_ri rfl (po_I hst ⟨by decide, by decide⟩ ⟨rfl, rfl, rfl, by omega, by omega, (by exact ⟨CV_f ht hz hst (notS_n) (notS_n) (notS_n) (notS_n) (notS_n) (fun i => (notS_n)) (fun i => (notS_n)) (fun i => (notS_n)) (fun a h1 h2 i => (notS_n)) (notS_n) (notS_n) (notS_n) (fun a h1 h2 i => (notS_n)) (fun a h1 h2 i => (notS_n)) hcv, (fun hq => GA_f ht hz hst (notS_n) (notS_n) (fun i => (notS_n)) (fun a h1 h2 i => (notS_n)) hq), hst.2.2.1 _ _ (notS_n)⟩)⟩)
  · rcases (show a1 = 0 ∨ a1 = 1 ∨ a1 = 2 ∨ a1 = 3 ∨ a1 = 4 ∨ a1 = 5 ∨ a1 = 6 ∨ a1 = 7 ∨ a1 = 8 by omega) with hd26 | hd26 | hd26 | hd26 | hd26 | hd26 | hd26 | hd26 | hd26
    · refine r_sw (t := 52) rfl ⟨by omega, by omega⟩ (by rw [hd26]; rfl) ?_
      refine r_ld (pc' := 53) rfl rfl rfl rfl ?_
      refine r_gr (b := t) (pc' := 56) rfl rfl sh_1 rfl pp_1_13 ?_
      have hb27 := rd_T_0 ht hz
      refine r_gi (pc' := 59) rfl rfl (sh_T ht) rfl rfl ?_
      exact r_ri rfl (po_I hst ⟨by omega, by omega⟩ ⟨rfl, rfl, rfl, by omega, by omega, (by exact ⟨CV_f ht hz hst (notS_n) (notS_n) (notS_n) (notS_n) (notS_n) (fun i => (notS_n)) (fun i => (notS_n)) (fun i => (notS_n)) (fun a h1 h2 i => (notS_n)) (notS_n) (notS_n) (notS_n) (fun a h1 h2 i => (notS_n)) (fun a h1 h2 i => (notS_n)) hcv, (fun hq => GA_f ht hz hst (notS_n) (notS_n) (fun i => (notS_n)) (fun a h1 h2 i => (notS_n)) hq), hst.2.2.1 _ _ (notS_n)⟩)⟩)
    · refine r_sw (t := 60) rfl ⟨by omega, by omega⟩ (by rw [hd26]; rfl) ?_
      refine r_ld (pc' := 61) rfl rfl rfl rfl ?_
      refine r_gr (b := t) (pc' := 64) rfl rfl sh_1 rfl pp_1_13 ?_
      have hb28 := rd_T_1 ht hz
      refine r_gi (pc' := 67) rfl rfl (sh_T ht) rfl rfl ?_
      exact r_ri rfl (po_I hst ⟨by omega, by omega⟩ ⟨rfl, rfl, rfl, by omega, by omega, (by exact ⟨CV_f ht hz hst (notS_n) (notS_n) (notS_n) (notS_n) (notS_n) (fun i => (notS_n)) (fun i => (notS_n)) (fun i => (notS_n)) (fun a h1 h2 i => (notS_n)) (notS_n) (notS_n) (notS_n) (fun a h1 h2 i => (notS_n)) (fun a h1 h2 i => (notS_n)) hcv, (fun hq => GA_f ht hz hst (notS_n) (notS_n) (fun i => (notS_n)) (fun a h1 h2 i => (notS_n)) hq), hst.2.2.1 _ _ (notS_n)⟩)⟩)
    · refine r_sw (t := 68) rfl ⟨by omega, by omega⟩ (by rw [hd26]; rfl) ?_
      refine r_ld (pc' := 69) rfl rfl rfl rfl ?_
      refine r_gr (b := t) (pc' := 72) rfl rfl sh_1 rfl pp_1_13 ?_
      have hb29 := rd_T_2 ht hz
      refine r_gi (pc' := 75) rfl rfl (sh_T ht) rfl rfl ?_
      exact r_ri rfl (po_I hst ⟨by omega, by omega⟩ ⟨rfl, rfl, rfl, by omega, by omega, (by exact ⟨CV_f ht hz hst (notS_n) (notS_n) (notS_n) (notS_n) (notS_n) (fun i => (notS_n)) (fun i => (notS_n)) (fun i => (notS_n)) (fun a h1 h2 i => (notS_n)) (notS_n) (notS_n) (notS_n) (fun a h1 h2 i => (notS_n)) (fun a h1 h2 i => (notS_n)) hcv, (fun hq => GA_f ht hz hst (notS_n) (notS_n) (fun i => (notS_n)) (fun a h1 h2 i => (notS_n)) hq), hst.2.2.1 _ _ (notS_n)⟩)⟩)
    · refine r_sw (t := 76) rfl ⟨by omega, by omega⟩ (by rw [hd26]; rfl) ?_
      refine r_c0 (pc' := 77) rfl rfl ?_
      refine r_ld (pc' := 78) rfl rfl rfl rfl ?_
      refine r_gr (b := t) (pc' := 81) rfl rfl sh_1 rfl pp_1_13 ?_
      have hb30 := rd_T_2 ht hz
      refine r_gi (pc' := 84) rfl rfl (sh_T ht) rfl rfl ?_
      refine r_sub (pc' := 85) rfl rfl ?_
      refine w_hxi (fun v31 h32 h33 => ?_)
      refine r_ld (pc' := 86) rfl rfl rfl rfl ?_
      refine r_gr (b := t) (pc' := 89) rfl rfl sh_1 rfl pp_1_13 ?_
      have hb34 := rd_T_1 ht hz
      refine r_gi (pc' := 92) rfl rfl (sh_T ht) rfl rfl ?_
      refine r_add (pc' := 93) rfl rfl ?_
      refine w_hxi (fun v35 h36 h37 => ?_)
      refine r_ld (pc' := 94) rfl rfl rfl rfl ?_
      refine r_gr (b := t) (pc' := 97) rfl rfl sh_1 rfl pp_1_13 ?_
      have hb38 := rd_T_0 ht hz
      refine r_gi (pc' := 100) rfl rfl (sh_T ht) rfl rfl ?_
      refine r_sub (pc' := 101) rfl rfl ?_
      refine w_hxi (fun v39 h40 h41 => ?_)
      refine r_c0 (pc' := 102) rfl rfl ?_
      refine r_dvg (pc' := 103) rfl rfl ⟨by omega, by omega⟩ ⟨by decide, by decide⟩ (by decide) (fun v42 h43 h44 => ?_)
      exact r_ri rfl (po_I hst ⟨by omega, by omega⟩ ⟨rfl, rfl, rfl, by omega, by omega, (by exact ⟨CV_f ht hz hst (notS_n) (notS_n) (notS_n) (notS_n) (notS_n) (fun i => (notS_n)) (fun i => (notS_n)) (fun i => (notS_n)) (fun a h1 h2 i => (notS_n)) (notS_n) (notS_n) (notS_n) (fun a h1 h2 i => (notS_n)) (fun a h1 h2 i => (notS_n)) hcv, (fun hq => GA_f ht hz hst (notS_n) (notS_n) (fun i => (notS_n)) (fun a h1 h2 i => (notS_n)) hq), hst.2.2.1 _ _ (notS_n)⟩)⟩)
    · refine r_sw (t := 104) rfl ⟨by omega, by omega⟩ (by rw [hd26]; rfl) ?_
      refine r_ld (pc' := 105) rfl rfl rfl rfl ?_
      refine r_gr (b := t) (pc' := 108) rfl rfl sh_1 rfl pp_1_13 ?_
      have hb45 := rd_T_3 ht hz
      refine r_gi (pc' := 111) rfl rfl (sh_T ht) rfl rfl ?_
      exact r_ri rfl (po_I hst ⟨by omega, by omega⟩ ⟨rfl, rfl, rfl, by omega, by omega, (by exact ⟨CV_f ht hz hst (notS_n) (notS_n) (notS_n) (notS_n) (notS_n) (fun i => (notS_n)) (fun i => (notS_n)) (fun i => (notS_n)) (fun a h1 h2 i => (notS_n)) (notS_n) (notS_n) (notS_n) (fun a h1 h2 i => (notS_n)) (fun a h1 h2 i => (notS_n)) hcv, (fun hq => GA_f ht hz hst (notS_n) (notS_n) (fun i => (notS_n)) (fun a h1 h2 i => (notS_n)) hq), hst.2.2.1 _ _ (notS_n)⟩)⟩)
    · refine r_sw (t := 112) rfl ⟨by omega, by omega⟩ (by rw [hd26]; rfl) ?_
      refine r_ld (pc' := 113) rfl rfl rfl rfl ?_
      refine r_gr (b := t) (pc' := 116) rfl rfl sh_1 rfl pp_1_13 ?_
      have hb46 := rd_T_4 ht hz
      refine r_gi (pc' := 119) rfl rfl (sh_T ht) rfl rfl ?_
      exact r_ri rfl (po_I hst ⟨by omega, by omega⟩ ⟨rfl, rfl, rfl, by omega, by omega, (by exact ⟨CV_f ht hz hst (notS_n) (notS_n) (notS_n) (notS_n) (notS_n) (fun i => (notS_n)) (fun i => (notS_n)) (fun i => (notS_n)) (fun a h1 h2 i => (notS_n)) (notS_n) (notS_n) (notS_n) (fun a h1 h2 i => (notS_n)) (fun a h1 h2 i => (notS_n)) hcv, (fun hq => GA_f ht hz hst (notS_n) (notS_n) (fun i => (notS_n)) (fun a h1 h2 i => (notS_n)) hq), hst.2.2.1 _ _ (notS_n)⟩)⟩)
    · refine r_sw (t := 120) rfl ⟨by omega, by omega⟩ (by rw [hd26]; rfl) ?_
      refine r_ld (pc' := 121) rfl rfl rfl rfl ?_
      refine r_gr (b := 39) (pc' := 124) rfl rfl sh_1 rfl pp_1_6 ?_
      have hb47 := rd_39_0 hz
      refine r_gi (pc' := 127) rfl rfl sh_39 rfl rfl ?_
      exact r_ri rfl (po_I hst ⟨by omega, by omega⟩ ⟨rfl, rfl, rfl, by omega, by omega, (by exact ⟨CV_f ht hz hst (notS_n) (notS_n) (notS_n) (notS_n) (notS_n) (fun i => (notS_n)) (fun i => (notS_n)) (fun i => (notS_n)) (fun a h1 h2 i => (notS_n)) (notS_n) (notS_n) (notS_n) (fun a h1 h2 i => (notS_n)) (fun a h1 h2 i => (notS_n)) hcv, (fun hq => GA_f ht hz hst (notS_n) (notS_n) (fun i => (notS_n)) (fun a h1 h2 i => (notS_n)) hq), hst.2.2.1 _ _ (notS_n)⟩)⟩)
    · refine r_sw (t := 128) rfl ⟨by omega, by omega⟩ (by rw [hd26]; rfl) ?_
      refine r_ld (pc' := 129) rfl rfl rfl rfl ?_
      refine r_gr (b := 39) (pc' := 132) rfl rfl sh_1 rfl pp_1_6 ?_
      have hb48 := rd_39_1 hz
      refine r_gi (pc' := 135) rfl rfl sh_39 rfl rfl ?_
      exact r_ri rfl (po_I hst ⟨by omega, by omega⟩ ⟨rfl, rfl, rfl, by omega, by omega, (by exact ⟨CV_f ht hz hst (notS_n) (notS_n) (notS_n) (notS_n) (notS_n) (fun i => (notS_n)) (fun i => (notS_n)) (fun i => (notS_n)) (fun a h1 h2 i => (notS_n)) (notS_n) (notS_n) (notS_n) (fun a h1 h2 i => (notS_n)) (fun a h1 h2 i => (notS_n)) hcv, (fun hq => GA_f ht hz hst (notS_n) (notS_n) (fun i => (notS_n)) (fun a h1 h2 i => (notS_n)) hq), hst.2.2.1 _ _ (notS_n)⟩)⟩)
    · refine r_sw (t := 136) rfl ⟨by omega, by omega⟩ (by rw [hd26]; rfl) ?_
      refine r_ld (pc' := 137) rfl rfl rfl rfl ?_
      have hb49 := rd_1_15 hz
      refine r_gi (pc' := 140) rfl rfl sh_1 rfl rfl ?_
      exact r_ri rfl (po_I hst ⟨by omega, by omega⟩ ⟨rfl, rfl, rfl, by omega, by omega, (by exact ⟨CV_f ht hz hst (notS_n) (notS_n) (notS_n) (notS_n) (notS_n) (fun i => (notS_n)) (fun i => (notS_n)) (fun i => (notS_n)) (fun a h1 h2 i => (notS_n)) (notS_n) (notS_n) (notS_n) (fun a h1 h2 i => (notS_n)) (fun a h1 h2 i => (notS_n)) hcv, (fun hq => GA_f ht hz hst (notS_n) (notS_n) (fun i => (notS_n)) (fun a h1 h2 i => (notS_n)) hq), hst.2.2.1 _ _ (notS_n)⟩)⟩)
/-- LoopGround flips -/
abbrev S_111s  : mS := []
abbrev E_111s (t : Nat) (u : Nat) (a1 : Int) (z0 w0 : mZ) (tx it tt ct : Option Nat) : Int → mZ → mZ → mP → Prop := fun v z w p => p = (pq (some t) (some u) tx it (some t) tt ct) ∧ z0 = z ∧ w0 = w ∧ (-2) ≤ v ∧ v ≤ 1782 ∧ (CV z w t ∧ (GA z0 z0 t → GA z z t) ∧ z 1 15 = z0 1 15)
theorem m_111s {d : Nat} {z0 w0 : mZ} {tx it tt ct : Option Nat} (t : Nat) (u : Nat) (a1 : Int) (hz : rz z0) (hw : rw_ w0) (ha1 : (-2147483648) ≤ a1 ∧ a1 ≤ 2147483647) (ht : isT t) (hu : isT u) (hcv : CV z0 w0 t) : wc (d + 2) 111 [.ref 1, .int (Int32.ofInt a1)] (mk z0 w0 (pq (some t) (some u) tx it (some t) tt ct)) (poI S_111s z0 w0 (E_111s t u a1 z0 w0 tx it tt ct)) := by
  have hst : st_ S_111s z0 w0 z0 w0 := st_rf hz hw
  have htb : 159 ≤ t ∧ t ≤ 192 := by have := ht; unfold isT at this; omega
  have hub : 159 ≤ u ∧ u ≤ 192 := by have := hu; unfold isT at this; omega
  have hz13 := rd_1_15 hz
  have hwt := hcv.1
  have hzt3 := rd_T_3 ht hz
  have h390 := rd_39_0 hz
  have h391 := rd_39_1 hz
  have h392 := rd_39_2 hz
  refine w_m rfl rfl ?_
  refine r_ld (pc' := 1) rfl rfl rfl rfl ?_
  refine r_gr (b := 10) (pc' := 4) rfl rfl sh_1 rfl pp_1_3 ?_
  refine r_ld (pc' := 5) rfl rfl rfl rfl ?_
  refine r_cVR (pc' := 8) rfl rfl rfl rfl rfl sh_10 (m_22s (d := d) t a1 hst.1 hst.2.1 ⟨by omega, by omega⟩ ht) (fun v14 z15 w16 p17 hs19 hE20 => ?_)
  rcases hE20 with ⟨rfl, rfl, rfl, rfl, hrn⟩ | ⟨rfl, rfl, rfl, rfl, hrx⟩
  · skip
    refine r_st (pc' := 9) (lv' := [(2, _), (0, _), (1, _)]) rfl rfl rfl rfl ?_
    refine r_ld (pc' := 10) rfl rfl rfl rfl ?_
    refine r_nul_t rfl ?_
    refine r_c0 (pc' := 21) rfl rfl ?_
    exact r_ri rfl (po_I hst ⟨by decide, by decide⟩ ⟨rfl, rfl, rfl, by omega, by omega, (by exact ⟨CV_f ht hz hst (notS_n) (notS_n) (notS_n) (notS_n) (notS_n) (fun i => (notS_n)) (fun i => (notS_n)) (fun i => (notS_n)) (fun a h1 h2 i => (notS_n)) (notS_n) (notS_n) (notS_n) (fun a h1 h2 i => (notS_n)) (fun a h1 h2 i => (notS_n)) hcv, (fun hq => GA_f ht hz hst (notS_n) (notS_n) (fun i => (notS_n)) (fun a h1 h2 i => (notS_n)) hq), hst.2.2.1 _ _ (notS_n)⟩)⟩)
  · skip
    refine r_st (pc' := 9) (lv' := [(2, _), (0, _), (1, _)]) rfl rfl rfl rfl ?_
    refine r_ld (pc' := 10) rfl rfl rfl rfl ?_
    refine r_nul_f (pc' := 13) rfl rfl ?_
    refine r_ld (pc' := 14) rfl rfl rfl rfl ?_
    have hb22 := rd_R_0 (k := a1.toNat) (by omega) hz
    refine r_gi (pc' := 17) rfl rfl (sh_R (k := a1.toNat) (by omega)) rfl rfl ?_
    refine r_zne (pc' := 20) rfl rfl ⟨by omega, by omega⟩ (fun hc23 => ?_) (fun hc23 => ?_)
    · skip
      refine r_ld (pc' := 23) rfl rfl rfl rfl ?_
      refine r_gi (pc' := 26) rfl rfl (sh_R (k := a1.toNat) (by omega)) rfl rfl ?_
      refine r_c0 (pc' := 27) rfl rfl ?_
      refine r_ine (pc' := 30) rfl rfl ⟨by omega, by omega⟩ ⟨by decide, by decide⟩ (fun hc24 => ?_) (fun hc24 => ?_)
      · skip
        refine r_ld (pc' := 36) rfl rfl rfl rfl ?_
        have hb25 := rd_R_1 (k := a1.toNat) (by omega) hz
        refine r_gi (pc' := 39) rfl rfl (sh_R (k := a1.toNat) (by omega)) rfl rfl ?_
        exact r_ri rfl (po_I hst ⟨by omega, by omega⟩ ⟨rfl, rfl, rfl, by omega, by omega, (by exact ⟨CV_f ht hz hst (notS_n) (notS_n) (notS_n) (notS_n) (notS_n) (fun i => (notS_n)) (fun i => (notS_n)) (fun i => (notS_n)) (fun a h1 h2 i => (notS_n)) (notS_n) (notS_n) (notS_n) (fun a h1 h2 i => (notS_n)) (fun a h1 h2 i => (notS_n)) hcv, (fun hq => GA_f ht hz hst (notS_n) (notS_n) (fun i => (notS_n)) (fun a h1 h2 i => (notS_n)) hq), hst.2.2.1 _ _ (notS_n)⟩)⟩)
      · skip
        refine r_cb (pc' := 32) rfl (by decide) rfl ?_
        refine r_go rfl ?_
        exact r_ri rfl (po_I hst ⟨by decide, by decide⟩ ⟨rfl, rfl, rfl, by omega, by omega, (by exact ⟨CV_f ht hz hst (notS_n) (notS_n) (notS_n) (notS_n) (notS_n) (fun i => (notS_n)) (fun i => (notS_n)) (fun i => (notS_n)) (fun a h1 h2 i => (notS_n)) (notS_n) (notS_n) (notS_n) (fun a h1 h2 i => (notS_n)) (fun a h1 h2 i => (notS_n)) hcv, (fun hq => GA_f ht hz hst (notS_n) (notS_n) (fun i => (notS_n)) (fun a h1 h2 i => (notS_n)) hq), hst.2.2.1 _ _ (notS_n)⟩)⟩)
    · skip
      refine r_c0 (pc' := 21) rfl rfl ?_
      exact r_ri rfl (po_I hst ⟨by decide, by decide⟩ ⟨rfl, rfl, rfl, by omega, by omega, (by exact ⟨CV_f ht hz hst (notS_n) (notS_n) (notS_n) (notS_n) (notS_n) (fun i => (notS_n)) (fun i => (notS_n)) (fun i => (notS_n)) (fun a h1 h2 i => (notS_n)) (notS_n) (notS_n) (notS_n) (fun a h1 h2 i => (notS_n)) (fun a h1 h2 i => (notS_n)) hcv, (fun hq => GA_f ht hz hst (notS_n) (notS_n) (fun i => (notS_n)) (fun a h1 h2 i => (notS_n)) hq), hst.2.2.1 _ _ (notS_n)⟩)⟩)
/-- LoopGround flips -/
abbrev S_111z  : mS := []
abbrev E_111z (t : Nat) (u : Nat) (a1 : Int) (z0 w0 : mZ) (tx it tt ct : Option Nat) : Int → mZ → mZ → mP → Prop := fun v z w p => p = (pq (some t) (some u) tx it none tt ct) ∧ z0 = z ∧ w0 = w ∧ (-1) ≤ v ∧ v ≤ (-1) ∧ (CV z w t ∧ (GA z0 z0 t → GA z z t) ∧ z 1 15 = z0 1 15)
theorem m_111z {d : Nat} {z0 w0 : mZ} {tx it tt ct : Option Nat} (t : Nat) (u : Nat) (a1 : Int) (hz : rz z0) (hw : rw_ w0) (ha1 : (-2147483648) ≤ a1 ∧ a1 ≤ 2147483647) (ht : isT t) (hu : isT u) (hcv : CV z0 w0 t) : wc (d + 2) 111 [.ref 1, .int (Int32.ofInt a1)] (mk z0 w0 (pq (some t) (some u) tx it none tt ct)) (poI S_111z z0 w0 (E_111z t u a1 z0 w0 tx it tt ct)) := by
  have hst : st_ S_111z z0 w0 z0 w0 := st_rf hz hw
  have htb : 159 ≤ t ∧ t ≤ 192 := by have := ht; unfold isT at this; omega
  have hub : 159 ≤ u ∧ u ≤ 192 := by have := hu; unfold isT at this; omega
  have hz9 := rd_1_15 hz
  have hwt := hcv.1
  have hzt3 := rd_T_3 ht hz
  have h390 := rd_39_0 hz
  have h391 := rd_39_1 hz
  have h392 := rd_39_2 hz
  refine w_m rfl rfl ?_
  refine r_ld (pc' := 1) rfl rfl rfl rfl ?_
  refine r_gr (b := 10) (pc' := 4) rfl rfl sh_1 rfl pp_1_3 ?_
  refine r_ld (pc' := 5) rfl rfl rfl rfl ?_
  refine r_cVR (pc' := 8) rfl rfl rfl rfl rfl sh_10 (m_22z (d := d) a1 hst.1 hst.2.1 ⟨by omega, by omega⟩) (fun v10 z11 w12 p13 hs15 hE16 => ?_)
  rcases hE16 with ⟨rfl, rfl, rfl, rfl, hrn⟩
  refine r_st (pc' := 9) (lv' := [(2, _), (0, _), (1, _)]) rfl rfl rfl rfl ?_
  refine r_ld (pc' := 10) rfl rfl rfl rfl ?_
  refine r_nul_t rfl ?_
  refine r_c0 (pc' := 21) rfl rfl ?_
  exact r_ri rfl (po_I hst ⟨by decide, by decide⟩ ⟨rfl, rfl, rfl, by omega, by omega, (by exact ⟨CV_f ht hz hst (notS_n) (notS_n) (notS_n) (notS_n) (notS_n) (fun i => (notS_n)) (fun i => (notS_n)) (fun i => (notS_n)) (fun a h1 h2 i => (notS_n)) (notS_n) (notS_n) (notS_n) (fun a h1 h2 i => (notS_n)) (fun a h1 h2 i => (notS_n)) hcv, (fun hq => GA_f ht hz hst (notS_n) (notS_n) (fun i => (notS_n)) (fun a h1 h2 i => (notS_n)) hq), hst.2.2.1 _ _ (notS_n)⟩)⟩)
/-- LoopGround flip -/
abbrev S_112s  : mS := []
abbrev E_112s (t : Nat) (u : Nat) (a1 : Int) (a2 : Int) (z0 w0 : mZ) (tx it tt ct : Option Nat) : Int → mZ → mZ → mP → Prop := fun v z w p => p = (pq (some t) (some u) tx it (some t) tt ct) ∧ z0 = z ∧ w0 = w ∧ (-1) ≤ v ∧ v ≤ 31 ∧ (CV z w t ∧ (GA z0 z0 t → GA z z t) ∧ z 1 15 = z0 1 15)
theorem m_112s {d : Nat} {z0 w0 : mZ} {tx it tt ct : Option Nat} (t : Nat) (u : Nat) (a1 : Int) (a2 : Int) (hz : rz z0) (hw : rw_ w0) (ha1 : (-2147483648) ≤ a1 ∧ a1 ≤ 2147483647) (ha2 : (-2147483648) ≤ a2 ∧ a2 ≤ 2147483647) (ht : isT t) (hu : isT u) (hcv : CV z0 w0 t) : wc (d + 2) 112 [.ref 1, .int (Int32.ofInt a1), .int (Int32.ofInt a2)] (mk z0 w0 (pq (some t) (some u) tx it (some t) tt ct)) (poI S_112s z0 w0 (E_112s t u a1 a2 z0 w0 tx it tt ct)) := by
  have hst : st_ S_112s z0 w0 z0 w0 := st_rf hz hw
  have htb : 159 ≤ t ∧ t ≤ 192 := by have := ht; unfold isT at this; omega
  have hub : 159 ≤ u ∧ u ≤ 192 := by have := hu; unfold isT at this; omega
  have hz22 := rd_1_15 hz
  have hwt := hcv.1
  have hzt3 := rd_T_3 ht hz
  have h390 := rd_39_0 hz
  have h391 := rd_39_1 hz
  have h392 := rd_39_2 hz
  refine w_m rfl rfl ?_
  refine r_ld (pc' := 1) rfl rfl rfl rfl ?_
  refine r_gr (b := 10) (pc' := 4) rfl rfl sh_1 rfl pp_1_3 ?_
  refine r_ld (pc' := 5) rfl rfl rfl rfl ?_
  refine r_cVR (pc' := 8) rfl rfl rfl rfl rfl sh_10 (m_22s (d := d) t a1 hst.1 hst.2.1 ⟨by omega, by omega⟩ ht) (fun v23 z24 w25 p26 hs28 hE29 => ?_)
  rcases hE29 with ⟨rfl, rfl, rfl, rfl, hrn⟩ | ⟨rfl, rfl, rfl, rfl, hrx⟩
  · skip
    refine r_st (pc' := 9) (lv' := [(3, _), (0, _), (1, _), (2, _)]) rfl rfl rfl rfl ?_
    refine r_ld (pc' := 10) rfl rfl rfl rfl ?_
    refine r_nul_t rfl ?_
    refine r_c0 (pc' := 34) rfl rfl ?_
    exact r_ri rfl (po_I hst ⟨by decide, by decide⟩ ⟨rfl, rfl, rfl, by omega, by omega, (by exact ⟨CV_f ht hz hst (notS_n) (notS_n) (notS_n) (notS_n) (notS_n) (fun i => (notS_n)) (fun i => (notS_n)) (fun i => (notS_n)) (fun a h1 h2 i => (notS_n)) (notS_n) (notS_n) (notS_n) (fun a h1 h2 i => (notS_n)) (fun a h1 h2 i => (notS_n)) hcv, (fun hq => GA_f ht hz hst (notS_n) (notS_n) (fun i => (notS_n)) (fun a h1 h2 i => (notS_n)) hq), hst.2.2.1 _ _ (notS_n)⟩)⟩)
  · skip
    refine r_st (pc' := 9) (lv' := [(3, _), (0, _), (1, _), (2, _)]) rfl rfl rfl rfl ?_
    refine r_ld (pc' := 10) rfl rfl rfl rfl ?_
    refine r_nul_f (pc' := 13) rfl rfl ?_
    refine r_ld (pc' := 14) rfl rfl rfl rfl ?_
    have hb31 := rd_R_0 (k := a1.toNat) (by omega) hz
    refine r_gi (pc' := 17) rfl rfl (sh_R (k := a1.toNat) (by omega)) rfl rfl ?_
    refine r_c0 (pc' := 18) rfl rfl ?_
    refine r_ine (pc' := 21) rfl rfl ⟨by omega, by omega⟩ ⟨by decide, by decide⟩ (fun hc32 => ?_) (fun hc32 => ?_)
    · skip
      refine r_c0 (pc' := 34) rfl rfl ?_
      exact r_ri rfl (po_I hst ⟨by decide, by decide⟩ ⟨rfl, rfl, rfl, by omega, by omega, (by exact ⟨CV_f ht hz hst (notS_n) (notS_n) (notS_n) (notS_n) (notS_n) (fun i => (notS_n)) (fun i => (notS_n)) (fun i => (notS_n)) (fun a h1 h2 i => (notS_n)) (notS_n) (notS_n) (notS_n) (fun a h1 h2 i => (notS_n)) (fun a h1 h2 i => (notS_n)) hcv, (fun hq => GA_f ht hz hst (notS_n) (notS_n) (fun i => (notS_n)) (fun a h1 h2 i => (notS_n)) hq), hst.2.2.1 _ _ (notS_n)⟩)⟩)
    · skip
      refine r_ld (pc' := 22) rfl rfl rfl rfl ?_
      refine r_zlt (pc' := 25) rfl rfl ⟨by omega, by omega⟩ (fun hc33 => ?_) (fun hc33 => ?_)
      · skip
        refine r_c0 (pc' := 34) rfl rfl ?_
        exact r_ri rfl (po_I hst ⟨by decide, by decide⟩ ⟨rfl, rfl, rfl, by omega, by omega, (by exact ⟨CV_f ht hz hst (notS_n) (notS_n) (notS_n) (notS_n) (notS_n) (fun i => (notS_n)) (fun i => (notS_n)) (fun i => (notS_n)) (fun a h1 h2 i => (notS_n)) (notS_n) (notS_n) (notS_n) (fun a h1 h2 i => (notS_n)) (fun a h1 h2 i => (notS_n)) hcv, (fun hq => GA_f ht hz hst (notS_n) (notS_n) (fun i => (notS_n)) (fun a h1 h2 i => (notS_n)) hq), hst.2.2.1 _ _ (notS_n)⟩)⟩)
      · skip
        refine r_ld (pc' := 26) rfl rfl rfl rfl ?_
        refine r_ld (pc' := 27) rfl rfl rfl rfl ?_
        have hb34 := rd_R_1 (k := a1.toNat) (by omega) hz
        refine r_gi (pc' := 30) rfl rfl (sh_R (k := a1.toNat) (by omega)) rfl rfl ?_
        refine r_ilt (pc' := 33) rfl rfl ⟨by omega, by omega⟩ ⟨by omega, by omega⟩ (fun hc35 => ?_) (fun hc35 => ?_)
        · skip
          refine r_ld (pc' := 36) rfl rfl rfl rfl ?_
          refine r_ld (pc' := 37) rfl rfl rfl rfl ?_
          refine r_cVI (pc' := 40) rfl rfl rfl rfl rfl (sh_R (k := a1.toNat) (by omega)) (m_51 (d := d) a1.toNat a2 hst.1 hst.2.1 ⟨by omega, by omega⟩ (by first | omega | assumption)) (fun v36 z37 w38 p39 h40 hs41 hE42 => ?_)
          obtain ⟨rfl, rfl, rfl, hE42⟩ := hE42
          exact r_ri rfl (po_I hst ⟨by omega, by omega⟩ ⟨rfl, rfl, rfl, by omega, by omega, (by exact ⟨CV_f ht hz hst (notS_n) (notS_n) (notS_n) (notS_n) (notS_n) (fun i => (notS_n)) (fun i => (notS_n)) (fun i => (notS_n)) (fun a h1 h2 i => (notS_n)) (notS_n) (notS_n) (notS_n) (fun a h1 h2 i => (notS_n)) (fun a h1 h2 i => (notS_n)) hcv, (fun hq => GA_f ht hz hst (notS_n) (notS_n) (fun i => (notS_n)) (fun a h1 h2 i => (notS_n)) hq), hst.2.2.1 _ _ (notS_n)⟩)⟩)
        · skip
          refine r_c0 (pc' := 34) rfl rfl ?_
          exact r_ri rfl (po_I hst ⟨by decide, by decide⟩ ⟨rfl, rfl, rfl, by omega, by omega, (by exact ⟨CV_f ht hz hst (notS_n) (notS_n) (notS_n) (notS_n) (notS_n) (fun i => (notS_n)) (fun i => (notS_n)) (fun i => (notS_n)) (fun a h1 h2 i => (notS_n)) (notS_n) (notS_n) (notS_n) (fun a h1 h2 i => (notS_n)) (fun a h1 h2 i => (notS_n)) hcv, (fun hq => GA_f ht hz hst (notS_n) (notS_n) (fun i => (notS_n)) (fun a h1 h2 i => (notS_n)) hq), hst.2.2.1 _ _ (notS_n)⟩)⟩)
/-- LoopGround flip -/
abbrev S_112z  : mS := []
abbrev E_112z (t : Nat) (u : Nat) (a1 : Int) (a2 : Int) (z0 w0 : mZ) (tx it tt ct : Option Nat) : Int → mZ → mZ → mP → Prop := fun v z w p => p = (pq (some t) (some u) tx it none tt ct) ∧ z0 = z ∧ w0 = w ∧ (-1) ≤ v ∧ v ≤ (-1) ∧ (CV z w t ∧ (GA z0 z0 t → GA z z t) ∧ z 1 15 = z0 1 15)
theorem m_112z {d : Nat} {z0 w0 : mZ} {tx it tt ct : Option Nat} (t : Nat) (u : Nat) (a1 : Int) (a2 : Int) (hz : rz z0) (hw : rw_ w0) (ha1 : (-2147483648) ≤ a1 ∧ a1 ≤ 2147483647) (ha2 : (-2147483648) ≤ a2 ∧ a2 ≤ 2147483647) (ht : isT t) (hu : isT u) (hcv : CV z0 w0 t) : wc (d + 2) 112 [.ref 1, .int (Int32.ofInt a1), .int (Int32.ofInt a2)] (mk z0 w0 (pq (some t) (some u) tx it none tt ct)) (poI S_112z z0 w0 (E_112z t u a1 a2 z0 w0 tx it tt ct)) := by
  have hst : st_ S_112z z0 w0 z0 w0 := st_rf hz hw
  have htb : 159 ≤ t ∧ t ≤ 192 := by have := ht; unfold isT at this; omega
  have hub : 159 ≤ u ∧ u ≤ 192 := by have := hu; unfold isT at this; omega
  have hz9 := rd_1_15 hz
  have hwt := hcv.1
  have hzt3 := rd_T_3 ht hz
  have h390 := rd_39_0 hz
  have h391 := rd_39_1 hz
  have h392 := rd_39_2 hz
  refine w_m rfl rfl ?_
  refine r_ld (pc' := 1) rfl rfl rfl rfl ?_
  refine r_gr (b := 10) (pc' := 4) rfl rfl sh_1 rfl pp_1_3 ?_
  refine r_ld (pc' := 5) rfl rfl rfl rfl ?_
  refine r_cVR (pc' := 8) rfl rfl rfl rfl rfl sh_10 (m_22z (d := d) a1 hst.1 hst.2.1 ⟨by omega, by omega⟩) (fun v10 z11 w12 p13 hs15 hE16 => ?_)
  rcases hE16 with ⟨rfl, rfl, rfl, rfl, hrn⟩
  refine r_st (pc' := 9) (lv' := [(3, _), (0, _), (1, _), (2, _)]) rfl rfl rfl rfl ?_
  refine r_ld (pc' := 10) rfl rfl rfl rfl ?_
  refine r_nul_t rfl ?_
  refine r_c0 (pc' := 34) rfl rfl ?_
  exact r_ri rfl (po_I hst ⟨by decide, by decide⟩ ⟨rfl, rfl, rfl, by omega, by omega, (by exact ⟨CV_f ht hz hst (notS_n) (notS_n) (notS_n) (notS_n) (notS_n) (fun i => (notS_n)) (fun i => (notS_n)) (fun i => (notS_n)) (fun a h1 h2 i => (notS_n)) (notS_n) (notS_n) (notS_n) (fun a h1 h2 i => (notS_n)) (fun a h1 h2 i => (notS_n)) hcv, (fun hq => GA_f ht hz hst (notS_n) (notS_n) (fun i => (notS_n)) (fun a h1 h2 i => (notS_n)) hq), hst.2.2.1 _ _ (notS_n)⟩)⟩)
/-- LoopGround lies -/
abbrev S_122v  : mS := []
abbrev E_122v (t : Nat) (u : Nat) (a1 : Int) (z0 w0 : mZ) (tx it mt tt ct : Option Nat) : Int → mZ → mZ → mP → Prop := fun v z w p => p = (pq (some t) (some u) tx it mt tt ct) ∧ z0 = z ∧ w0 = w ∧ (-2147483648) ≤ v ∧ v ≤ 2147483647 ∧ (CV z w t ∧ (GA z0 z0 t → GA z z t) ∧ z 1 15 = z0 1 15)
theorem m_122v {d : Nat} {z0 w0 : mZ} {tx it mt tt ct : Option Nat} (t : Nat) (u : Nat) (a1 : Int) (hz : rz z0) (hw : rw_ w0) (ha1 : (-2147483648) ≤ a1 ∧ a1 ≤ 2147483647) (ht : isT t) (hu : isT u) (hcv : CV z0 w0 t) : wc (d + 2) 122 [.ref 1, .int (Int32.ofInt a1)] (mk z0 w0 (pq (some t) (some u) tx it mt tt ct)) (poI S_122v z0 w0 (E_122v t u a1 z0 w0 tx it mt tt ct)) := by
  have hst : st_ S_122v z0 w0 z0 w0 := st_rf hz hw
  have htb : 159 ≤ t ∧ t ≤ 192 := by have := ht; unfold isT at this; omega
  have hub : 159 ≤ u ∧ u ≤ 192 := by have := hu; unfold isT at this; omega
  have hz17 := rd_1_15 hz
  refine w_m rfl rfl ?_
  refine r_ld (pc' := 1) rfl rfl rfl rfl ?_
  have hb18 := rd_1_18 hz
  refine r_gi (pc' := 4) rfl rfl sh_1 rfl rfl ?_
  refine r_zeq (pc' := 7) rfl rfl ⟨by omega, by omega⟩ (fun hc19 => ?_) (fun hc19 => ?_)
  · skip
    refine r_c0 (pc' := 26) rfl rfl ?_
    exact r_ri rfl (po_I hst ⟨by decide, by decide⟩ ⟨rfl, rfl, rfl, by omega, by omega, (by exact ⟨CV_f ht hz hst (notS_n) (notS_n) (notS_n) (notS_n) (notS_n) (fun i => (notS_n)) (fun i => (notS_n)) (fun i => (notS_n)) (fun a h1 h2 i => (notS_n)) (notS_n) (notS_n) (notS_n) (fun a h1 h2 i => (notS_n)) (fun a h1 h2 i => (notS_n)) hcv, (fun hq => GA_f ht hz hst (notS_n) (notS_n) (fun i => (notS_n)) (fun a h1 h2 i => (notS_n)) hq), hst.2.2.1 _ _ (notS_n)⟩)⟩)
  · skip
    refine r_ld (pc' := 8) rfl rfl rfl rfl ?_
    refine r_ld (pc' := 9) rfl rfl rfl rfl ?_
    have hb20 := rd_T_1 ht hz
    refine r_cVI (pc' := 12) rfl rfl rfl rfl rfl sh_1 (m_133 (d := d) t u a1 hst.1 hst.2.1 ⟨by omega, by omega⟩ ht hu) (fun v21 z22 w23 p24 h25 hs26 hE27 => ?_)
    obtain ⟨rfl, rfl, rfl, hE27⟩ := hE27
    refine r_zeq (pc' := 15) rfl rfl ⟨by omega, by omega⟩ (fun hc29 => ?_) (fun hc29 => ?_)
    · skip
      refine r_c0 (pc' := 26) rfl rfl ?_
      exact r_ri rfl (po_I hst ⟨by decide, by decide⟩ ⟨rfl, rfl, rfl, by omega, by omega, (by exact ⟨CV_f ht hz hst (notS_n) (notS_n) (notS_n) (notS_n) (notS_n) (fun i => (notS_n)) (fun i => (notS_n)) (fun i => (notS_n)) (fun a h1 h2 i => (notS_n)) (notS_n) (notS_n) (notS_n) (fun a h1 h2 i => (notS_n)) (fun a h1 h2 i => (notS_n)) hcv, (fun hq => GA_f ht hz hst (notS_n) (notS_n) (fun i => (notS_n)) (fun a h1 h2 i => (notS_n)) hq), hst.2.2.1 _ _ (notS_n)⟩)⟩)
    · skip
      refine r_ld (pc' := 16) rfl rfl rfl rfl ?_
      refine r_gr (b := 158) (pc' := 19) rfl rfl sh_1 rfl pp_1_12 ?_
      refine r_ld (pc' := 20) rfl rfl rfl rfl ?_
      have hb30 := rd_158 hw (i := a1.toNat) (by omega)
      refine r_la (pc' := 21) rfl rfl sh_158 rfl (by omega) (by omega) rfl ?_
      refine r_l2i (pc' := 22) rfl rfl ?_
      refine w_hxi (fun v31 h32 h33 => ?_)
      refine r_go rfl ?_
      exact r_ri rfl (po_I hst ⟨by omega, by omega⟩ ⟨rfl, rfl, rfl, by omega, by omega, (by exact ⟨CV_f ht hz hst (notS_n) (notS_n) (notS_n) (notS_n) (notS_n) (fun i => (notS_n)) (fun i => (notS_n)) (fun i => (notS_n)) (fun a h1 h2 i => (notS_n)) (notS_n) (notS_n) (notS_n) (fun a h1 h2 i => (notS_n)) (fun a h1 h2 i => (notS_n)) hcv, (fun hq => GA_f ht hz hst (notS_n) (notS_n) (fun i => (notS_n)) (fun a h1 h2 i => (notS_n)) hq), hst.2.2.1 _ _ (notS_n)⟩)⟩)
/-- LoopGround numbersOf -/
abbrev S_135  : mS := []
abbrev E_135 (t : Nat) (u : Nat) (a1 : Int) (z0 w0 : mZ) (tx it mt tt ct : Option Nat) : Option Nat → mZ → mZ → mP → Prop := fun o z w p => (o = some (41 + ((z0 39 2 + z0 39 0) % 61).toNat) ∧ z0 = z ∧ w0 = w ∧ p = (pq (some t) (some u) tx it mt tt ct) ∧ a1 = -1) ∨ (o = some (t + 8 + a1.toNat) ∧ z0 = z ∧ w0 = w ∧ p = (pq (some t) (some u) tx it mt tt ct) ∧ 0 ≤ a1 ∧ a1 < z0 t 3 ∧ a1 ≤ 7) ∨ (o = none ∧ z0 = z ∧ w0 = w ∧ p = (pq (some t) (some u) tx it mt tt ct) ∧ True)
theorem m_135 {d : Nat} {z0 w0 : mZ} {tx it mt tt ct : Option Nat} (t : Nat) (u : Nat) (a1 : Int) (hz : rz z0) (hw : rw_ w0) (ha1 : (-2147483648) ≤ a1 ∧ a1 ≤ 2147483647) (ht : isT t) (hu : isT u) : wc (d + 2) 135 [.ref 1, .int (Int32.ofInt a1)] (mk z0 w0 (pq (some t) (some u) tx it mt tt ct)) (poR S_135 z0 w0 (E_135 t u a1 z0 w0 tx it mt tt ct)) := by
  have hst : st_ S_135 z0 w0 z0 w0 := st_rf hz hw
  have htb : 159 ≤ t ∧ t ≤ 192 := by have := ht; unfold isT at this; omega
  have hub : 159 ≤ u ∧ u ≤ 192 := by have := hu; unfold isT at this; omega
  have hzt3 := rd_T_3 ht hz
  refine w_m rfl rfl ?_
  refine r_ld (pc' := 1) rfl rfl rfl rfl ?_
  refine r_c0 (pc' := 2) rfl rfl ?_
  refine r_ine (pc' := 5) rfl rfl ⟨by omega, by omega⟩ ⟨by decide, by decide⟩ (fun hc22 => ?_) (fun hc22 => ?_)
  · skip
    refine r_ld (pc' := 14) rfl rfl rfl rfl ?_
    refine r_ld (pc' := 15) rfl rfl rfl rfl ?_
    have hb23 := rd_T_3 ht hz
    refine r_cVI (pc' := 18) rfl rfl rfl rfl rfl sh_1 (m_134 (d := d) t u a1 hst.1 hst.2.1 ⟨by omega, by omega⟩ ht hu) (fun v24 z25 w26 p27 h28 hs29 hE30 => ?_)
    obtain ⟨rfl, rfl, rfl, hE30⟩ := hE30
    refine r_zeq (pc' := 21) rfl rfl ⟨by omega, by omega⟩ (fun hc32 => ?_) (fun hc32 => ?_)
    · skip
      refine r_al (pc' := 34) rfl rfl rfl rfl ?_
      exact r_raa (x := none) rfl (po_R hst (by first | exact Or.inl ⟨rfl, rfl, rfl, rfl, by omega⟩ | exact Or.inr (Or.inl ⟨rfl, rfl, rfl, rfl, by omega, by omega, by omega⟩) | exact Or.inr (Or.inr ⟨rfl, rfl, rfl, rfl, trivial⟩)))
    · skip
      refine r_ld (pc' := 22) rfl rfl rfl rfl ?_
      refine r_gr (b := t) (pc' := 25) rfl rfl sh_1 rfl pp_1_13 ?_
      refine r_gr (b := t + 7) (pc' := 28) rfl rfl (sh_T ht) rfl (pp_T_11 ht) ?_
      refine r_ld (pc' := 29) rfl rfl rfl rfl ?_
      refine r_aa (b := t + 8 + a1.toNat) (pc' := 30) rfl rfl (sh_T7 ht) (Or.inl rfl) rfl (by omega) (by omega) (pa_T7 ht (by omega)) ?_
      refine r_go rfl ?_
      exact r_raa (x := some (t + 8 + a1.toNat)) rfl (po_R hst (by first | exact Or.inl ⟨rfl, rfl, rfl, rfl, by omega⟩ | exact Or.inr (Or.inl ⟨rfl, rfl, rfl, rfl, by omega, by omega, by omega⟩) | exact Or.inr (Or.inr ⟨rfl, rfl, rfl, rfl, trivial⟩)))
  · skip
    refine r_ld (pc' := 6) rfl rfl rfl rfl ?_
    refine r_gr (b := 39) (pc' := 9) rfl rfl sh_1 rfl pp_1_6 ?_
    refine r_cVR (pc' := 12) rfl rfl rfl rfl rfl sh_39 (m_2 (d := d)  hst.1 hst.2.1 ) (fun v33 z34 w35 p36 hs38 hE39 => ?_)
    rcases hE39 with ⟨rfl, rfl, rfl, rfl, hrw⟩
    have hb41 := rd_39_2 hz
    have hb42 := rd_39_0 hz
    exact r_raa (x := some (41 + ((z0 39 2 + (z0 39 0)) % 61).toNat)) rfl (po_R hst (by first | exact Or.inl ⟨rfl, rfl, rfl, rfl, by omega⟩ | exact Or.inr (Or.inl ⟨rfl, rfl, rfl, rfl, by omega, by omega, by omega⟩) | exact Or.inr (Or.inr ⟨rfl, rfl, rfl, rfl, trivial⟩)))
/-- LoopGround number -/
abbrev S_108v  : mS := []
abbrev E_108v (t : Nat) (u : Nat) (a1 : Int) (a2 : Int) (z0 w0 : mZ) (tx it mt tt ct : Option Nat) : Int → mZ → mZ → mP → Prop := fun v z w p => p = (pq (some t) (some u) tx it mt tt ct) ∧ z0 = z ∧ w0 = w ∧ (-2) ≤ v ∧ v ≤ 100000000000000 ∧ (CV z w t ∧ (GA z0 z0 t → GA z z t) ∧ z 1 15 = z0 1 15)
theorem m_108v {d : Nat} {z0 w0 : mZ} {tx it mt tt ct : Option Nat} (t : Nat) (u : Nat) (a1 : Int) (a2 : Int) (hz : rz z0) (hw : rw_ w0) (ha1 : (-2147483648) ≤ a1 ∧ a1 ≤ 2147483647) (ha2 : (-2147483648) ≤ a2 ∧ a2 ≤ 2147483647) (ht : isT t) (hu : isT u) (hcv : CV z0 w0 t) : wc (d + 3) 108 [.ref 1, .int (Int32.ofInt a1), .int (Int32.ofInt a2)] (mk z0 w0 (pq (some t) (some u) tx it mt tt ct)) (poL S_108v z0 w0 (E_108v t u a1 a2 z0 w0 tx it mt tt ct)) := by
  have hst : st_ S_108v z0 w0 z0 w0 := st_rf hz hw
  have htb : 159 ≤ t ∧ t ≤ 192 := by have := ht; unfold isT at this; omega
  have hub : 159 ≤ u ∧ u ≤ 192 := by have := hu; unfold isT at this; omega
  have hz33 := rd_1_15 hz
  have hwt := hcv.1
  have hzt3 := rd_T_3 ht hz
  have h390 := rd_39_0 hz
  have h391 := rd_39_1 hz
  have h392 := rd_39_2 hz
  refine w_m rfl rfl ?_
  refine r_ld (pc' := 1) rfl rfl rfl rfl ?_
  refine r_ld (pc' := 2) rfl rfl rfl rfl ?_
  refine r_cVR (pc' := 5) rfl rfl rfl rfl rfl sh_1 (m_135 (d := d) t u a1 hst.1 hst.2.1 ⟨by omega, by omega⟩ ht hu) (fun v34 z35 w36 p37 hs39 hE40 => ?_)
  rcases hE40 with ⟨rfl, rfl, rfl, rfl, hra⟩ | ⟨rfl, rfl, rfl, rfl, hrt⟩ | ⟨rfl, rfl, rfl, rfl, hrn⟩
  · skip
    have hb42 := rd_39_2 hz
    have hb43 := rd_39_0 hz
    refine r_st (pc' := 6) (lv' := [(3, _), (0, _), (1, _), (2, _)]) rfl rfl rfl rfl ?_
    refine r_ld (pc' := 7) rfl rfl rfl rfl ?_
    refine r_nul_f (pc' := 10) rfl rfl ?_
    refine r_ld (pc' := 11) rfl rfl rfl rfl ?_
    refine r_ld (pc' := 12) rfl rfl rfl rfl ?_
    have hb44 := rd_T_1 ht hz
    refine r_cVI (pc' := 15) rfl rfl rfl rfl rfl sh_1 (m_133 (d := d + 1) t u a2 hst.1 hst.2.1 ⟨by omega, by omega⟩ ht hu) (fun v45 z46 w47 p48 h49 hs50 hE51 => ?_)
    obtain ⟨rfl, rfl, rfl, hE51⟩ := hE51
    refine r_zne (pc' := 18) rfl rfl ⟨by omega, by omega⟩ (fun hc53 => ?_) (fun hc53 => ?_)
    · skip
      refine r_ld (pc' := 23) rfl rfl rfl rfl ?_
      refine r_ld (pc' := 24) rfl rfl rfl rfl ?_
      have hb54 := rd_41 (k := ((z0 39 2 + (z0 39 0)) % 61).toNat) (by omega) hw (i := a2.toNat) (by omega)
      refine r_la (pc' := 25) rfl rfl (sh_41 (k := ((z0 39 2 + (z0 39 0)) % 61).toNat) (by omega)) rfl (by omega) (by omega) rfl ?_
      exact r_rl rfl (po_L hst ⟨by omega, by omega⟩ ⟨rfl, rfl, rfl, by omega, by omega, (by exact ⟨CV_f ht hz hst (notS_n) (notS_n) (notS_n) (notS_n) (notS_n) (fun i => (notS_n)) (fun i => (notS_n)) (fun i => (notS_n)) (fun a h1 h2 i => (notS_n)) (notS_n) (notS_n) (notS_n) (fun a h1 h2 i => (notS_n)) (fun a h1 h2 i => (notS_n)) hcv, (fun hq => GA_f ht hz hst (notS_n) (notS_n) (fun i => (notS_n)) (fun a h1 h2 i => (notS_n)) hq), hst.2.2.1 _ _ (notS_n)⟩)⟩)
    · skip
      refine r_al (pc' := 21) rfl rfl rfl rfl ?_
      exact r_rl rfl (po_L hst ⟨by decide, by decide⟩ ⟨rfl, rfl, rfl, by omega, by omega, (by exact ⟨CV_f ht hz hst (notS_n) (notS_n) (notS_n) (notS_n) (notS_n) (fun i => (notS_n)) (fun i => (notS_n)) (fun i => (notS_n)) (fun a h1 h2 i => (notS_n)) (notS_n) (notS_n) (notS_n) (fun a h1 h2 i => (notS_n)) (fun a h1 h2 i => (notS_n)) hcv, (fun hq => GA_f ht hz hst (notS_n) (notS_n) (fun i => (notS_n)) (fun a h1 h2 i => (notS_n)) hq), hst.2.2.1 _ _ (notS_n)⟩)⟩)
  · skip
    refine r_st (pc' := 6) (lv' := [(3, _), (0, _), (1, _), (2, _)]) rfl rfl rfl rfl ?_
    refine r_ld (pc' := 7) rfl rfl rfl rfl ?_
    refine r_nul_f (pc' := 10) rfl rfl ?_
    refine r_ld (pc' := 11) rfl rfl rfl rfl ?_
    refine r_ld (pc' := 12) rfl rfl rfl rfl ?_
    have hb55 := rd_T_1 ht hz
    refine r_cVI (pc' := 15) rfl rfl rfl rfl rfl sh_1 (m_133 (d := d + 1) t u a2 hst.1 hst.2.1 ⟨by omega, by omega⟩ ht hu) (fun v56 z57 w58 p59 h60 hs61 hE62 => ?_)
    obtain ⟨rfl, rfl, rfl, hE62⟩ := hE62
    refine r_zne (pc' := 18) rfl rfl ⟨by omega, by omega⟩ (fun hc64 => ?_) (fun hc64 => ?_)
    · skip
      refine r_ld (pc' := 23) rfl rfl rfl rfl ?_
      refine r_ld (pc' := 24) rfl rfl rfl rfl ?_
      have hb65 := rd_T8 ht (k := a1.toNat) (by omega) hw (i := a2.toNat) (by omega)
      refine r_la (pc' := 25) rfl rfl (sh_T8 ht (by omega)) rfl (by omega) (by omega) rfl ?_
      exact r_rl rfl (po_L hst ⟨by omega, by omega⟩ ⟨rfl, rfl, rfl, by omega, by omega, (by exact ⟨CV_f ht hz hst (notS_n) (notS_n) (notS_n) (notS_n) (notS_n) (fun i => (notS_n)) (fun i => (notS_n)) (fun i => (notS_n)) (fun a h1 h2 i => (notS_n)) (notS_n) (notS_n) (notS_n) (fun a h1 h2 i => (notS_n)) (fun a h1 h2 i => (notS_n)) hcv, (fun hq => GA_f ht hz hst (notS_n) (notS_n) (fun i => (notS_n)) (fun a h1 h2 i => (notS_n)) hq), hst.2.2.1 _ _ (notS_n)⟩)⟩)
    · skip
      refine r_al (pc' := 21) rfl rfl rfl rfl ?_
      exact r_rl rfl (po_L hst ⟨by decide, by decide⟩ ⟨rfl, rfl, rfl, by omega, by omega, (by exact ⟨CV_f ht hz hst (notS_n) (notS_n) (notS_n) (notS_n) (notS_n) (fun i => (notS_n)) (fun i => (notS_n)) (fun i => (notS_n)) (fun a h1 h2 i => (notS_n)) (notS_n) (notS_n) (notS_n) (fun a h1 h2 i => (notS_n)) (fun a h1 h2 i => (notS_n)) hcv, (fun hq => GA_f ht hz hst (notS_n) (notS_n) (fun i => (notS_n)) (fun a h1 h2 i => (notS_n)) hq), hst.2.2.1 _ _ (notS_n)⟩)⟩)
  · skip
    refine r_st (pc' := 6) (lv' := [(3, _), (0, _), (1, _), (2, _)]) rfl rfl rfl rfl ?_
    refine r_ld (pc' := 7) rfl rfl rfl rfl ?_
    refine r_nul_t rfl ?_
    refine r_al (pc' := 21) rfl rfl rfl rfl ?_
    exact r_rl rfl (po_L hst ⟨by decide, by decide⟩ ⟨rfl, rfl, rfl, by omega, by omega, (by exact ⟨CV_f ht hz hst (notS_n) (notS_n) (notS_n) (notS_n) (notS_n) (fun i => (notS_n)) (fun i => (notS_n)) (fun i => (notS_n)) (fun a h1 h2 i => (notS_n)) (notS_n) (notS_n) (notS_n) (fun a h1 h2 i => (notS_n)) (fun a h1 h2 i => (notS_n)) hcv, (fun hq => GA_f ht hz hst (notS_n) (notS_n) (fun i => (notS_n)) (fun a h1 h2 i => (notS_n)) hq), hst.2.2.1 _ _ (notS_n)⟩)⟩)
/-- Tracer turns -/
abbrev S_99  : mS := [(4, 4, 8, 8), (7, 7, 0, 17), (6, 6, 0, 17), (8, 8, 0, 35), (4, 4, 9, 9), (4, 4, 10, 10), (4, 4, 11, 11), (4, 4, 12, 12), (4, 4, 13, 13), (9, 9, 0, 35)]
abbrev E_99 (t : Nat) (n : Nat) (q : Nat) (z0 w0 : mZ) (x y tx it mt tt ct : Option Nat) : Int → mZ → mZ → mP → Prop := fun v z w p => p = (pq x y tx it mt (some t) ct) ∧ (-1073741824) ≤ v ∧ v ≤ 1073741823
theorem m_99 {d : Nat} {z0 w0 : mZ} {x y tx it mt tt ct : Option Nat} (t : Nat) (n : Nat) (q : Nat) (hz : rz z0) (hw : rw_ w0) (ht : isT t) (hwt : WTt z0 t) (hft : FTt z0 t (w0 n)) (hfq : FTt z0 t (w0 q)) (hn : lr n) (b15n : 15 ≤ n) (hnb : ∀ e : Nat, e < 18 → 0 ≤ w0 n e ∧ w0 n e ≤ 100000000000000) (hq : lr q) (b15q : 15 ≤ q) (hnc : ∀ e : Nat, e < 18 → 0 ≤ w0 q e ∧ w0 q e ≤ 100000000000000) : wc (d + 4) 99 [.ref 4, .ref t, .ref n, .ref q] (mk z0 w0 (pq x y tx it mt tt ct)) (poI S_99 z0 w0 (E_99 t n q z0 w0 x y tx it mt tt ct)) := by
  have hst : st_ S_99 z0 w0 z0 w0 := st_rf hz hw
  have htb : 159 ≤ t ∧ t ≤ 192 := by have := ht; unfold isT at this; omega
  have key : ∀ N : Nat, (∀ (x4 x5 : Int) (z w : mZ), (-2147483648) ≤ x4 ∧ x4 ≤ 2147483647 → 0 ≤ x5 ∧ x5 ≤ 36 → st_ S_99 z0 w0 z w → 66 * (36 - x5) + 39 < (N : Int) → wp_ (d + 3) 99 6 (some .int) (46, [(0, .ref 4), (1, .ref t), (4, .int (Int32.ofInt x4)), (5, .int (Int32.ofInt x5))], [], mk z w (pq x y tx it mt (some t) ct)) (poI S_99 z0 w0 (E_99 t n q z0 w0 x y tx it mt tt ct))) := by
    intro N
    induction N with
    | zero =>
      intro x4 x5 z w
      intros; exfalso; omega
    | succ N ih =>
      have ih0 := ih; clear ih
      intro x4 x5 z w  hx4 hx5 hst hM
      refine r_ld (pc' := 48) rfl rfl rfl rfl ?_
      refine r_c0 (pc' := 49) rfl rfl ?_
      refine r_add (pc' := 50) rfl rfl ?_
      refine r_c0 (pc' := 51) rfl rfl ?_
      refine r_ld (pc' := 52) rfl rfl rfl rfl ?_
      have hb55 := rd_T_0 ht hz
      refine r_gi (pc' := 55) rfl rfl (sh_T ht) rfl (hst.2.2.1 _ _ (notS_c (by omega) (notS_c (by omega) (notS_c (by omega) (notS_c (by omega) (notS_c (by omega) (notS_c (by omega) (notS_c (by omega) (notS_c (by omega) (notS_c (by omega) (notS_c (by omega) notS_n))))))))))) ?_
      refine r_mul (pc' := 56) rfl rfl ?_
      refine r_ige (pc' := 59) rfl rfl ⟨by omega, by omega⟩ ⟨by omega, by omega⟩ (fun hc56 => ?_) (fun hc56 => ?_)
      · skip
        refine r_ld (pc' := 107) rfl rfl rfl rfl ?_
        refine r_c0 (pc' := 108) rfl rfl ?_
        refine r_dvg (pc' := 109) rfl rfl ⟨by omega, by omega⟩ ⟨by decide, by decide⟩ (by decide) (fun v57 h58 h59 => ?_)
        exact r_ri rfl (po_I hst ⟨by omega, by omega⟩ ⟨rfl, by omega, by omega⟩)
      · skip
        refine r_ld (pc' := 61) rfl rfl rfl rfl ?_
        refine r_ld (pc' := 62) rfl rfl rfl rfl ?_
        refine r_gr (b := 8) (pc' := 65) rfl rfl sh_4 rfl pp_4_5 ?_
        refine r_ld (pc' := 67) rfl rfl rfl rfl ?_
        have hb60 := rd_8 hst.1 (i := x5.toNat) (by omega)
        refine r_ia (pc' := 68) rfl rfl sh_8 rfl (by omega) (by omega) rfl ?_
        refine r_ld (pc' := 69) rfl rfl rfl rfl ?_
        refine r_gr (b := 9) (pc' := 72) rfl rfl sh_4 rfl pp_4_6 ?_
        refine r_ld (pc' := 74) rfl rfl rfl rfl ?_
        refine r_c0 (pc' := 75) rfl rfl ?_
        refine r_add (pc' := 76) rfl rfl ?_
        have hb61 := rd_9 hst.1 (i := (x5 + 1).toNat) (by omega)
        refine r_ia (pc' := 77) rfl rfl sh_9 rfl (by omega) (by omega) rfl ?_
        refine r_mul (pc' := 78) rfl rfl ?_
        refine w_hi (fun v62 h63 => ?_)
        unfold inI at h63
        refine r_ld (pc' := 79) rfl rfl rfl rfl ?_
        refine r_gr (b := 8) (pc' := 82) rfl rfl sh_4 rfl pp_4_5 ?_
        refine r_ld (pc' := 84) rfl rfl rfl rfl ?_
        refine r_c0 (pc' := 85) rfl rfl ?_
        refine r_add (pc' := 86) rfl rfl ?_
        have hb64 := rd_8 hst.1 (i := (x5 + 1).toNat) (by omega)
        refine r_ia (pc' := 87) rfl rfl sh_8 rfl (by omega) (by omega) rfl ?_
        refine r_ld (pc' := 88) rfl rfl rfl rfl ?_
        refine r_gr (b := 9) (pc' := 91) rfl rfl sh_4 rfl pp_4_6 ?_
        refine r_ld (pc' := 93) rfl rfl rfl rfl ?_
        have hb65 := rd_9 hst.1 (i := x5.toNat) (by omega)
        refine r_ia (pc' := 94) rfl rfl sh_9 rfl (by omega) (by omega) rfl ?_
        refine r_mul (pc' := 95) rfl rfl ?_
        refine w_hi (fun v66 h67 => ?_)
        unfold inI at h67
        refine r_sub (pc' := 96) rfl rfl ?_
        refine w_hxi (fun v68 h69 h70 => ?_)
        refine r_add (pc' := 97) rfl rfl ?_
        refine w_hxi (fun v71 h72 h73 => ?_)
        refine r_st (pc' := 99) (lv' := [(4, _), (0, _), (1, _), (5, _)]) rfl rfl rfl rfl ?_
        refine r_inc (pc' := 102) (lv' := [(4, _), (0, _), (1, _)]) rfl rfl rfl rfl rfl ?_
        refine r_go rfl ?_
        exact w_lv (sub_c rfl (sub_c rfl (sub_c rfl (sub_c rfl sub_n)))) rfl (ih0 v71 (x5 + 3) z w ⟨by omega, by omega⟩ ⟨by omega, by omega⟩ hst (by omega))
  refine w_m rfl rfl ?_
  refine r_ld (pc' := 1) rfl rfl rfl rfl ?_
  refine r_ld (pc' := 2) rfl rfl rfl rfl ?_
  refine r_ld (pc' := 3) rfl rfl rfl rfl ?_
  refine r_cVI (pc' := 6) rfl rfl rfl rfl rfl sh_4 (m_86 (d := d + 1) t n hst.1 hst.2.1 ht (by exact hwt) (by exact hft) hn (by first | omega | assumption) (by exact hnb)) (fun v74 z75 w76 p77 h78 hs79 hE80 => ?_)
  have hs81 := st_tr hst hs79 (sub_B rfl)
  obtain ⟨rfl, hE80⟩ := hE80
  refine r_zne (pc' := 9) rfl rfl ⟨by omega, by omega⟩ (fun hc82 => ?_) (fun hc82 => ?_)
  · skip
    refine r_ld (pc' := 13) rfl rfl rfl rfl ?_
    refine r_ld (pc' := 14) rfl rfl rfl rfl ?_
    refine r_gr (b := 8) (pc' := 17) rfl rfl sh_4 rfl pp_4_5 ?_
    refine r_cVV (pc' := 20) rfl rfl rfl rfl rfl sh_4 (m_100 (d := d) t hs81.1 hs81.2.1 ht) (fun z84 w85 p86 hs88 hE89 => ?_)
    have hs90 := st_tr hs81 hs88 (sub_B rfl)
    obtain rfl := hE89
    refine r_ld (pc' := 21) rfl rfl rfl rfl ?_
    refine r_ld (pc' := 22) rfl rfl rfl rfl ?_
    refine r_ld (pc' := 23) rfl rfl rfl rfl ?_
    have hF91 : w85 q = w0 q := ((funext fun _ => hs88.2.2.2 _ _ (notS_c (by omega) (notS_c (by omega) (notS_c (by omega) (notS_c (by omega) (notS_c (by omega) (notS_c (by omega) notS_n))))))).trans (funext fun _ => hs79.2.2.2 _ _ (notS_c (by omega) (notS_c (by omega) (notS_c (by omega) notS_n)))))
    refine r_cVI (pc' := 26) rfl rfl rfl rfl rfl sh_4 (m_86 (d := d + 1) t q hs90.1 hs90.2.1 ht (by exact WTt_f hs90 (notS_c (by omega) (notS_c (by omega) (notS_c (by omega) (notS_c (by omega) (notS_c (by omega) (notS_c (by omega) (notS_c (by omega) (notS_c (by omega) (notS_c (by omega) (notS_c (by omega) (notS_n))))))))))) (notS_c (by omega) (notS_c (by omega) (notS_c (by omega) (notS_c (by omega) (notS_c (by omega) (notS_c (by omega) (notS_c (by omega) (notS_c (by omega) (notS_c (by omega) (notS_c (by omega) (notS_n))))))))))) (fun i => (notS_c (by omega) (notS_c (by omega) (notS_c (by omega) (notS_c (by omega) (notS_c (by omega) (notS_c (by omega) (notS_c (by omega) (notS_c (by omega) (notS_c (by omega) (notS_c (by omega) (notS_n)))))))))))) (fun i => (notS_c (by omega) (notS_c (by omega) (notS_c (by omega) (notS_c (by omega) (notS_c (by omega) (notS_c (by omega) (notS_c (by omega) (notS_c (by omega) (notS_c (by omega) (notS_c (by omega) (notS_n)))))))))))) (fun i => (notS_c (by omega) (notS_c (by omega) (notS_c (by omega) (notS_c (by omega) (notS_c (by omega) (notS_c (by omega) (notS_c (by omega) (notS_c (by omega) (notS_c (by omega) (notS_c (by omega) (notS_n)))))))))))) hwt) (by rw [show w85 q = w0 q from funext fun i => hs90.2.2.2 _ _ (notS_c (by omega) (notS_c (by omega) (notS_c (by omega) (notS_c (by omega) (notS_c (by omega) (notS_c (by omega) (notS_c (by omega) (notS_c (by omega) (notS_c (by omega) (notS_c (by omega) (notS_n)))))))))))]; exact FTt_fr (hs90.2.2.1 _ _ (notS_c (by omega) (notS_c (by omega) (notS_c (by omega) (notS_c (by omega) (notS_c (by omega) (notS_c (by omega) (notS_c (by omega) (notS_c (by omega) (notS_c (by omega) (notS_c (by omega) (notS_n)))))))))))) (funext fun i => hs90.2.2.1 _ _ (notS_c (by omega) (notS_c (by omega) (notS_c (by omega) (notS_c (by omega) (notS_c (by omega) (notS_c (by omega) (notS_c (by omega) (notS_c (by omega) (notS_c (by omega) (notS_c (by omega) (notS_n)))))))))))) hfq) hq (by first | omega | assumption | (simp only [hF91]; assumption)) (by intro e he; rw [show w85 q e = w0 q e from hs90.2.2.2 _ _ (notS_c (by omega) (notS_c (by omega) (notS_c (by omega) (notS_c (by omega) (notS_c (by omega) (notS_c (by omega) (notS_c (by omega) (notS_c (by omega) (notS_c (by omega) (notS_c (by omega) (notS_n)))))))))))]; exact hnc e he)) (fun v92 z93 w94 p95 h96 hs97 hE98 => ?_)
    have hs99 := st_tr hs90 hs97 (sub_B rfl)
    obtain ⟨rfl, hE98⟩ := hE98
    refine r_zne (pc' := 29) rfl rfl ⟨by omega, by omega⟩ (fun hc100 => ?_) (fun hc100 => ?_)
    · skip
      refine r_ld (pc' := 33) rfl rfl rfl rfl ?_
      refine r_ld (pc' := 34) rfl rfl rfl rfl ?_
      refine r_gr (b := 9) (pc' := 37) rfl rfl sh_4 rfl pp_4_6 ?_
      refine r_cVV (pc' := 40) rfl rfl rfl rfl rfl sh_4 (m_100o (d := d) t hs99.1 hs99.2.1 ht) (fun z102 w103 p104 hs106 hE107 => ?_)
      have hs108 := st_tr hs99 hs106 (sub_B rfl)
      obtain rfl := hE107
      refine r_c0 (pc' := 41) rfl rfl ?_
      refine r_st (pc' := 43) (lv' := [(4, _), (0, _), (1, _), (2, _), (3, _)]) rfl rfl rfl rfl ?_
      refine r_c0 (pc' := 44) rfl rfl ?_
      refine r_st (pc' := 46) (lv' := [(5, _), (4, _), (0, _), (1, _), (2, _), (3, _)]) rfl rfl rfl rfl ?_
      exact w_lv (sub_c rfl (sub_c rfl (sub_c rfl (sub_c rfl sub_n)))) rfl ((key ((66 * (36 - 0) + 39 : Int).toNat + 1)) 0 0 z102 w103 ⟨by omega, by omega⟩ ⟨by omega, by omega⟩ hs108 (by omega))
    · skip
      refine r_al (pc' := 31) rfl rfl rfl rfl ?_
      exact r_ri rfl (po_I hs99 ⟨by decide, by decide⟩ ⟨rfl, by omega, by omega⟩)
  · skip
    refine r_al (pc' := 11) rfl rfl rfl rfl ?_
    exact r_ri rfl (po_I hs81 ⟨by decide, by decide⟩ ⟨rfl, by omega, by omega⟩)
/-- LoopGround traced -/
abbrev S_110v  : mS := [(4, 4, 8, 8), (7, 7, 0, 17), (6, 6, 0, 17), (4, 4, 9, 9), (4, 4, 10, 10), (4, 4, 11, 11), (4, 4, 12, 12), (4, 4, 13, 13)]
abbrev E_110v (t : Nat) (u : Nat) (a1 : Int) (a2 : Int) (z0 w0 : mZ) (tx it mt tt ct : Option Nat) : Int → mZ → mZ → mP → Prop := fun v z w p => ∃ tt_e : Option Nat, p = (pq (some t) (some u) tx it mt tt_e ct) ∧ (-2) ≤ v ∧ v ≤ 17 ∧ (CV z w t ∧ (GA z0 z0 t → GA z z t) ∧ z 1 15 = z0 1 15)
theorem m_110v {d : Nat} {z0 w0 : mZ} {tx it mt tt ct : Option Nat} (t : Nat) (u : Nat) (a1 : Int) (a2 : Int) (hz : rz z0) (hw : rw_ w0) (ha1 : (-2147483648) ≤ a1 ∧ a1 ≤ 2147483647) (ha2 : (-2147483648) ≤ a2 ∧ a2 ≤ 2147483647) (ht : isT t) (hu : isT u) (hcv : CV z0 w0 t) : wc (d + 4) 110 [.ref 1, .int (Int32.ofInt a1), .int (Int32.ofInt a2)] (mk z0 w0 (pq (some t) (some u) tx it mt tt ct)) (poI S_110v z0 w0 (E_110v t u a1 a2 z0 w0 tx it mt tt ct)) := by
  have hst : st_ S_110v z0 w0 z0 w0 := st_rf hz hw
  have htb : 159 ≤ t ∧ t ≤ 192 := by have := ht; unfold isT at this; omega
  have hub : 159 ≤ u ∧ u ≤ 192 := by have := hu; unfold isT at this; omega
  have hz58 := rd_1_15 hz
  have hwt := hcv.1
  have hzt3 := rd_T_3 ht hz
  have h390 := rd_39_0 hz
  have h391 := rd_39_1 hz
  have h392 := rd_39_2 hz
  refine w_m rfl rfl ?_
  refine r_ld (pc' := 1) rfl rfl rfl rfl ?_
  refine r_ld (pc' := 2) rfl rfl rfl rfl ?_
  refine r_cVR (pc' := 5) rfl rfl rfl rfl rfl sh_1 (m_135 (d := d + 1) t u a1 hst.1 hst.2.1 ⟨by omega, by omega⟩ ht hu) (fun v59 z60 w61 p62 hs64 hE65 => ?_)
  rcases hE65 with ⟨rfl, rfl, rfl, rfl, hra⟩ | ⟨rfl, rfl, rfl, rfl, hrt⟩ | ⟨rfl, rfl, rfl, rfl, hrn⟩
  · skip
    have hb67 := rd_39_2 hz
    have hb68 := rd_39_0 hz
    refine r_st (pc' := 6) (lv' := [(3, _), (0, _), (1, _), (2, _)]) rfl rfl rfl rfl ?_
    refine r_ld (pc' := 7) rfl rfl rfl rfl ?_
    refine r_nul_f (pc' := 10) rfl rfl ?_
    refine r_ld (pc' := 11) rfl rfl rfl rfl ?_
    refine r_zge (pc' := 14) rfl rfl ⟨by omega, by omega⟩ (fun hc69 => ?_) (fun hc69 => ?_)
    · skip
      refine r_ld (pc' := 17) rfl rfl rfl rfl ?_
      refine r_gr (b := 4) (pc' := 20) rfl rfl sh_1 rfl pp_1_2 ?_
      refine r_ld (pc' := 21) rfl rfl rfl rfl ?_
      refine r_gr (b := t) (pc' := 24) rfl rfl sh_1 rfl pp_1_13 ?_
      refine r_ld (pc' := 25) rfl rfl rfl rfl ?_
      refine r_cVI (pc' := 28) rfl rfl rfl rfl rfl sh_4 (m_86 (d := d + 1) t (41 + ((z0 39 2 + (z0 39 0)) % 61).toNat) hst.1 hst.2.1 ht (by exact hwt) (by first | exact AK_now hcv.2.2.1 (by omega) (by omega) | exact hcv.2.1 _ (by omega)) (lr_41 (k := ((z0 39 2 + (z0 39 0)) % 61).toNat) (by omega) ) (by first | omega | assumption) (fun e he => by have q := rd_41 (k := ((z0 39 2 + (z0 39 0)) % 61).toNat) (by omega) hst.2.1 (i := e) he; exact ⟨by omega, by omega⟩)) (fun v70 z71 w72 p73 h74 hs75 hE76 => ?_)
      have hs77 := st_tr hst hs75 (sub_B rfl)
      obtain ⟨rfl, hE76⟩ := hE76
      refine r_zne (pc' := 31) rfl rfl ⟨by omega, by omega⟩ (fun hc78 => ?_) (fun hc78 => ?_)
      · skip
        refine r_ld (pc' := 35) rfl rfl rfl rfl ?_
        refine r_gr (b := 4) (pc' := 38) rfl rfl sh_1 rfl pp_1_2 ?_
        refine r_ld (pc' := 39) rfl rfl rfl rfl ?_
        refine r_cVI (pc' := 42) rfl rfl rfl rfl rfl sh_4 (m_97 (d := d) t a2 hs77.1 hs77.2.1 ⟨by omega, by omega⟩ ht) (fun v79 z80 w81 p82 h83 hs84 hE85 => ?_)
        have hs86 := st_tr hs77 hs84 (sub_B rfl)
        obtain ⟨rfl, hE85⟩ := hE85
        have hb87 := rd_1_15 hz
        have hf88 : z80 1 15 = z0 1 15 := ((hs84.2.2.1 _ _ (notS_c (by omega) (notS_c (by omega) (notS_c (by omega) (notS_c (by omega) (notS_c (by omega) notS_n)))))).trans (hs75.2.2.1 _ _ (notS_c (by omega) (notS_c (by omega) (notS_c (by omega) notS_n)))))
        exact r_ri rfl (po_I hs86 ⟨by omega, by omega⟩ ⟨_, rfl, by omega, by omega, (by exact ⟨CV_f ht hz hs86 (notS_c (by omega) (notS_c (by omega) (notS_c (by omega) (notS_c (by omega) (notS_c (by omega) (notS_c (by omega) (notS_c (by omega) (notS_c (by omega) (notS_n))))))))) (notS_c (by omega) (notS_c (by omega) (notS_c (by omega) (notS_c (by omega) (notS_c (by omega) (notS_c (by omega) (notS_c (by omega) (notS_c (by omega) (notS_n))))))))) (notS_c (by omega) (notS_c (by omega) (notS_c (by omega) (notS_c (by omega) (notS_c (by omega) (notS_c (by omega) (notS_c (by omega) (notS_c (by omega) (notS_n))))))))) (notS_c (by omega) (notS_c (by omega) (notS_c (by omega) (notS_c (by omega) (notS_c (by omega) (notS_c (by omega) (notS_c (by omega) (notS_c (by omega) (notS_n))))))))) (notS_c (by omega) (notS_c (by omega) (notS_c (by omega) (notS_c (by omega) (notS_c (by omega) (notS_c (by omega) (notS_c (by omega) (notS_c (by omega) (notS_n))))))))) (fun i => (notS_c (by omega) (notS_c (by omega) (notS_c (by omega) (notS_c (by omega) (notS_c (by omega) (notS_c (by omega) (notS_c (by omega) (notS_c (by omega) (notS_n)))))))))) (fun i => (notS_c (by omega) (notS_c (by omega) (notS_c (by omega) (notS_c (by omega) (notS_c (by omega) (notS_c (by omega) (notS_c (by omega) (notS_c (by omega) (notS_n)))))))))) (fun i => (notS_c (by omega) (notS_c (by omega) (notS_c (by omega) (notS_c (by omega) (notS_c (by omega) (notS_c (by omega) (notS_c (by omega) (notS_c (by omega) (notS_n)))))))))) (fun a h1 h2 i => (notS_c (by omega) (notS_c (by omega) (notS_c (by omega) (notS_c (by omega) (notS_c (by omega) (notS_c (by omega) (notS_c (by omega) (notS_c (by omega) (notS_n)))))))))) (notS_c (by omega) (notS_c (by omega) (notS_c (by omega) (notS_c (by omega) (notS_c (by omega) (notS_c (by omega) (notS_c (by omega) (notS_c (by omega) (notS_n))))))))) (notS_c (by omega) (notS_c (by omega) (notS_c (by omega) (notS_c (by omega) (notS_c (by omega) (notS_c (by omega) (notS_c (by omega) (notS_c (by omega) (notS_n))))))))) (notS_c (by omega) (notS_c (by omega) (notS_c (by omega) (notS_c (by omega) (notS_c (by omega) (notS_c (by omega) (notS_c (by omega) (notS_c (by omega) (notS_n))))))))) (fun a h1 h2 i => (notS_c (by omega) (notS_c (by omega) (notS_c (by omega) (notS_c (by omega) (notS_c (by omega) (notS_c (by omega) (notS_c (by omega) (notS_c (by omega) (notS_n)))))))))) (fun a h1 h2 i => (notS_c (by omega) (notS_c (by omega) (notS_c (by omega) (notS_c (by omega) (notS_c (by omega) (notS_c (by omega) (notS_c (by omega) (notS_c (by omega) (notS_n)))))))))) hcv, (fun hq => GA_f ht hz hs86 (notS_c (by omega) (notS_c (by omega) (notS_c (by omega) (notS_c (by omega) (notS_c (by omega) (notS_c (by omega) (notS_c (by omega) (notS_c (by omega) (notS_n))))))))) (notS_c (by omega) (notS_c (by omega) (notS_c (by omega) (notS_c (by omega) (notS_c (by omega) (notS_c (by omega) (notS_c (by omega) (notS_c (by omega) (notS_n))))))))) (fun i => (notS_c (by omega) (notS_c (by omega) (notS_c (by omega) (notS_c (by omega) (notS_c (by omega) (notS_c (by omega) (notS_c (by omega) (notS_c (by omega) (notS_n)))))))))) (fun a h1 h2 i => (notS_c (by omega) (notS_c (by omega) (notS_c (by omega) (notS_c (by omega) (notS_c (by omega) (notS_c (by omega) (notS_c (by omega) (notS_c (by omega) (notS_n)))))))))) hq), hs86.2.2.1 _ _ (notS_c (by omega) (notS_c (by omega) (notS_c (by omega) (notS_c (by omega) (notS_c (by omega) (notS_c (by omega) (notS_c (by omega) (notS_c (by omega) (notS_n)))))))))⟩)⟩)
      · skip
        refine r_cb (pc' := 33) rfl (by decide) rfl ?_
        have hb89 := rd_1_15 hz
        have hf90 : z71 1 15 = z0 1 15 := (hs75.2.2.1 _ _ (notS_c (by omega) (notS_c (by omega) (notS_c (by omega) notS_n))))
        exact r_ri rfl (po_I hs77 ⟨by decide, by decide⟩ ⟨_, rfl, by omega, by omega, (by exact ⟨CV_f ht hz hs77 (notS_c (by omega) (notS_c (by omega) (notS_c (by omega) (notS_c (by omega) (notS_c (by omega) (notS_c (by omega) (notS_c (by omega) (notS_c (by omega) (notS_n))))))))) (notS_c (by omega) (notS_c (by omega) (notS_c (by omega) (notS_c (by omega) (notS_c (by omega) (notS_c (by omega) (notS_c (by omega) (notS_c (by omega) (notS_n))))))))) (notS_c (by omega) (notS_c (by omega) (notS_c (by omega) (notS_c (by omega) (notS_c (by omega) (notS_c (by omega) (notS_c (by omega) (notS_c (by omega) (notS_n))))))))) (notS_c (by omega) (notS_c (by omega) (notS_c (by omega) (notS_c (by omega) (notS_c (by omega) (notS_c (by omega) (notS_c (by omega) (notS_c (by omega) (notS_n))))))))) (notS_c (by omega) (notS_c (by omega) (notS_c (by omega) (notS_c (by omega) (notS_c (by omega) (notS_c (by omega) (notS_c (by omega) (notS_c (by omega) (notS_n))))))))) (fun i => (notS_c (by omega) (notS_c (by omega) (notS_c (by omega) (notS_c (by omega) (notS_c (by omega) (notS_c (by omega) (notS_c (by omega) (notS_c (by omega) (notS_n)))))))))) (fun i => (notS_c (by omega) (notS_c (by omega) (notS_c (by omega) (notS_c (by omega) (notS_c (by omega) (notS_c (by omega) (notS_c (by omega) (notS_c (by omega) (notS_n)))))))))) (fun i => (notS_c (by omega) (notS_c (by omega) (notS_c (by omega) (notS_c (by omega) (notS_c (by omega) (notS_c (by omega) (notS_c (by omega) (notS_c (by omega) (notS_n)))))))))) (fun a h1 h2 i => (notS_c (by omega) (notS_c (by omega) (notS_c (by omega) (notS_c (by omega) (notS_c (by omega) (notS_c (by omega) (notS_c (by omega) (notS_c (by omega) (notS_n)))))))))) (notS_c (by omega) (notS_c (by omega) (notS_c (by omega) (notS_c (by omega) (notS_c (by omega) (notS_c (by omega) (notS_c (by omega) (notS_c (by omega) (notS_n))))))))) (notS_c (by omega) (notS_c (by omega) (notS_c (by omega) (notS_c (by omega) (notS_c (by omega) (notS_c (by omega) (notS_c (by omega) (notS_c (by omega) (notS_n))))))))) (notS_c (by omega) (notS_c (by omega) (notS_c (by omega) (notS_c (by omega) (notS_c (by omega) (notS_c (by omega) (notS_c (by omega) (notS_c (by omega) (notS_n))))))))) (fun a h1 h2 i => (notS_c (by omega) (notS_c (by omega) (notS_c (by omega) (notS_c (by omega) (notS_c (by omega) (notS_c (by omega) (notS_c (by omega) (notS_c (by omega) (notS_n)))))))))) (fun a h1 h2 i => (notS_c (by omega) (notS_c (by omega) (notS_c (by omega) (notS_c (by omega) (notS_c (by omega) (notS_c (by omega) (notS_c (by omega) (notS_c (by omega) (notS_n)))))))))) hcv, (fun hq => GA_f ht hz hs77 (notS_c (by omega) (notS_c (by omega) (notS_c (by omega) (notS_c (by omega) (notS_c (by omega) (notS_c (by omega) (notS_c (by omega) (notS_c (by omega) (notS_n))))))))) (notS_c (by omega) (notS_c (by omega) (notS_c (by omega) (notS_c (by omega) (notS_c (by omega) (notS_c (by omega) (notS_c (by omega) (notS_c (by omega) (notS_n))))))))) (fun i => (notS_c (by omega) (notS_c (by omega) (notS_c (by omega) (notS_c (by omega) (notS_c (by omega) (notS_c (by omega) (notS_c (by omega) (notS_c (by omega) (notS_n)))))))))) (fun a h1 h2 i => (notS_c (by omega) (notS_c (by omega) (notS_c (by omega) (notS_c (by omega) (notS_c (by omega) (notS_c (by omega) (notS_c (by omega) (notS_c (by omega) (notS_n)))))))))) hq), hs77.2.2.1 _ _ (notS_c (by omega) (notS_c (by omega) (notS_c (by omega) (notS_c (by omega) (notS_c (by omega) (notS_c (by omega) (notS_c (by omega) (notS_c (by omega) (notS_n)))))))))⟩)⟩)
    · skip
      refine r_c0 (pc' := 15) rfl rfl ?_
      have hb91 := rd_1_15 hz
      exact r_ri rfl (po_I hst ⟨by decide, by decide⟩ ⟨_, rfl, by omega, by omega, (by exact ⟨CV_f ht hz hst (notS_c (by omega) (notS_c (by omega) (notS_c (by omega) (notS_c (by omega) (notS_c (by omega) (notS_c (by omega) (notS_c (by omega) (notS_c (by omega) (notS_n))))))))) (notS_c (by omega) (notS_c (by omega) (notS_c (by omega) (notS_c (by omega) (notS_c (by omega) (notS_c (by omega) (notS_c (by omega) (notS_c (by omega) (notS_n))))))))) (notS_c (by omega) (notS_c (by omega) (notS_c (by omega) (notS_c (by omega) (notS_c (by omega) (notS_c (by omega) (notS_c (by omega) (notS_c (by omega) (notS_n))))))))) (notS_c (by omega) (notS_c (by omega) (notS_c (by omega) (notS_c (by omega) (notS_c (by omega) (notS_c (by omega) (notS_c (by omega) (notS_c (by omega) (notS_n))))))))) (notS_c (by omega) (notS_c (by omega) (notS_c (by omega) (notS_c (by omega) (notS_c (by omega) (notS_c (by omega) (notS_c (by omega) (notS_c (by omega) (notS_n))))))))) (fun i => (notS_c (by omega) (notS_c (by omega) (notS_c (by omega) (notS_c (by omega) (notS_c (by omega) (notS_c (by omega) (notS_c (by omega) (notS_c (by omega) (notS_n)))))))))) (fun i => (notS_c (by omega) (notS_c (by omega) (notS_c (by omega) (notS_c (by omega) (notS_c (by omega) (notS_c (by omega) (notS_c (by omega) (notS_c (by omega) (notS_n)))))))))) (fun i => (notS_c (by omega) (notS_c (by omega) (notS_c (by omega) (notS_c (by omega) (notS_c (by omega) (notS_c (by omega) (notS_c (by omega) (notS_c (by omega) (notS_n)))))))))) (fun a h1 h2 i => (notS_c (by omega) (notS_c (by omega) (notS_c (by omega) (notS_c (by omega) (notS_c (by omega) (notS_c (by omega) (notS_c (by omega) (notS_c (by omega) (notS_n)))))))))) (notS_c (by omega) (notS_c (by omega) (notS_c (by omega) (notS_c (by omega) (notS_c (by omega) (notS_c (by omega) (notS_c (by omega) (notS_c (by omega) (notS_n))))))))) (notS_c (by omega) (notS_c (by omega) (notS_c (by omega) (notS_c (by omega) (notS_c (by omega) (notS_c (by omega) (notS_c (by omega) (notS_c (by omega) (notS_n))))))))) (notS_c (by omega) (notS_c (by omega) (notS_c (by omega) (notS_c (by omega) (notS_c (by omega) (notS_c (by omega) (notS_c (by omega) (notS_c (by omega) (notS_n))))))))) (fun a h1 h2 i => (notS_c (by omega) (notS_c (by omega) (notS_c (by omega) (notS_c (by omega) (notS_c (by omega) (notS_c (by omega) (notS_c (by omega) (notS_c (by omega) (notS_n)))))))))) (fun a h1 h2 i => (notS_c (by omega) (notS_c (by omega) (notS_c (by omega) (notS_c (by omega) (notS_c (by omega) (notS_c (by omega) (notS_c (by omega) (notS_c (by omega) (notS_n)))))))))) hcv, (fun hq => GA_f ht hz hst (notS_c (by omega) (notS_c (by omega) (notS_c (by omega) (notS_c (by omega) (notS_c (by omega) (notS_c (by omega) (notS_c (by omega) (notS_c (by omega) (notS_n))))))))) (notS_c (by omega) (notS_c (by omega) (notS_c (by omega) (notS_c (by omega) (notS_c (by omega) (notS_c (by omega) (notS_c (by omega) (notS_c (by omega) (notS_n))))))))) (fun i => (notS_c (by omega) (notS_c (by omega) (notS_c (by omega) (notS_c (by omega) (notS_c (by omega) (notS_c (by omega) (notS_c (by omega) (notS_c (by omega) (notS_n)))))))))) (fun a h1 h2 i => (notS_c (by omega) (notS_c (by omega) (notS_c (by omega) (notS_c (by omega) (notS_c (by omega) (notS_c (by omega) (notS_c (by omega) (notS_c (by omega) (notS_n)))))))))) hq), hst.2.2.1 _ _ (notS_c (by omega) (notS_c (by omega) (notS_c (by omega) (notS_c (by omega) (notS_c (by omega) (notS_c (by omega) (notS_c (by omega) (notS_c (by omega) (notS_n)))))))))⟩)⟩)
  · skip
    refine r_st (pc' := 6) (lv' := [(3, _), (0, _), (1, _), (2, _)]) rfl rfl rfl rfl ?_
    refine r_ld (pc' := 7) rfl rfl rfl rfl ?_
    refine r_nul_f (pc' := 10) rfl rfl ?_
    refine r_ld (pc' := 11) rfl rfl rfl rfl ?_
    refine r_zge (pc' := 14) rfl rfl ⟨by omega, by omega⟩ (fun hc92 => ?_) (fun hc92 => ?_)
    · skip
      refine r_ld (pc' := 17) rfl rfl rfl rfl ?_
      refine r_gr (b := 4) (pc' := 20) rfl rfl sh_1 rfl pp_1_2 ?_
      refine r_ld (pc' := 21) rfl rfl rfl rfl ?_
      refine r_gr (b := t) (pc' := 24) rfl rfl sh_1 rfl pp_1_13 ?_
      refine r_ld (pc' := 25) rfl rfl rfl rfl ?_
      refine r_cVI (pc' := 28) rfl rfl rfl rfl rfl sh_4 (m_86 (d := d + 1) t (t + 8 + a1.toNat) hst.1 hst.2.1 ht (by exact hwt) (by first | exact AK_now hcv.2.2.1 (by omega) (by omega) | exact hcv.2.1 _ (by omega)) (lr_T8 ht (k := a1.toNat) (by omega) ) (by first | omega | assumption) (fun e he => by have q := rd_T8 ht (k := a1.toNat) (by omega) hst.2.1 (i := e) he; exact ⟨by omega, by omega⟩)) (fun v93 z94 w95 p96 h97 hs98 hE99 => ?_)
      have hs100 := st_tr hst hs98 (sub_B rfl)
      obtain ⟨rfl, hE99⟩ := hE99
      refine r_zne (pc' := 31) rfl rfl ⟨by omega, by omega⟩ (fun hc101 => ?_) (fun hc101 => ?_)
      · skip
        refine r_ld (pc' := 35) rfl rfl rfl rfl ?_
        refine r_gr (b := 4) (pc' := 38) rfl rfl sh_1 rfl pp_1_2 ?_
        refine r_ld (pc' := 39) rfl rfl rfl rfl ?_
        refine r_cVI (pc' := 42) rfl rfl rfl rfl rfl sh_4 (m_97 (d := d) t a2 hs100.1 hs100.2.1 ⟨by omega, by omega⟩ ht) (fun v102 z103 w104 p105 h106 hs107 hE108 => ?_)
        have hs109 := st_tr hs100 hs107 (sub_B rfl)
        obtain ⟨rfl, hE108⟩ := hE108
        have hb110 := rd_1_15 hz
        have hf111 : z103 1 15 = z0 1 15 := ((hs107.2.2.1 _ _ (notS_c (by omega) (notS_c (by omega) (notS_c (by omega) (notS_c (by omega) (notS_c (by omega) notS_n)))))).trans (hs98.2.2.1 _ _ (notS_c (by omega) (notS_c (by omega) (notS_c (by omega) notS_n)))))
        exact r_ri rfl (po_I hs109 ⟨by omega, by omega⟩ ⟨_, rfl, by omega, by omega, (by exact ⟨CV_f ht hz hs109 (notS_c (by omega) (notS_c (by omega) (notS_c (by omega) (notS_c (by omega) (notS_c (by omega) (notS_c (by omega) (notS_c (by omega) (notS_c (by omega) (notS_n))))))))) (notS_c (by omega) (notS_c (by omega) (notS_c (by omega) (notS_c (by omega) (notS_c (by omega) (notS_c (by omega) (notS_c (by omega) (notS_c (by omega) (notS_n))))))))) (notS_c (by omega) (notS_c (by omega) (notS_c (by omega) (notS_c (by omega) (notS_c (by omega) (notS_c (by omega) (notS_c (by omega) (notS_c (by omega) (notS_n))))))))) (notS_c (by omega) (notS_c (by omega) (notS_c (by omega) (notS_c (by omega) (notS_c (by omega) (notS_c (by omega) (notS_c (by omega) (notS_c (by omega) (notS_n))))))))) (notS_c (by omega) (notS_c (by omega) (notS_c (by omega) (notS_c (by omega) (notS_c (by omega) (notS_c (by omega) (notS_c (by omega) (notS_c (by omega) (notS_n))))))))) (fun i => (notS_c (by omega) (notS_c (by omega) (notS_c (by omega) (notS_c (by omega) (notS_c (by omega) (notS_c (by omega) (notS_c (by omega) (notS_c (by omega) (notS_n)))))))))) (fun i => (notS_c (by omega) (notS_c (by omega) (notS_c (by omega) (notS_c (by omega) (notS_c (by omega) (notS_c (by omega) (notS_c (by omega) (notS_c (by omega) (notS_n)))))))))) (fun i => (notS_c (by omega) (notS_c (by omega) (notS_c (by omega) (notS_c (by omega) (notS_c (by omega) (notS_c (by omega) (notS_c (by omega) (notS_c (by omega) (notS_n)))))))))) (fun a h1 h2 i => (notS_c (by omega) (notS_c (by omega) (notS_c (by omega) (notS_c (by omega) (notS_c (by omega) (notS_c (by omega) (notS_c (by omega) (notS_c (by omega) (notS_n)))))))))) (notS_c (by omega) (notS_c (by omega) (notS_c (by omega) (notS_c (by omega) (notS_c (by omega) (notS_c (by omega) (notS_c (by omega) (notS_c (by omega) (notS_n))))))))) (notS_c (by omega) (notS_c (by omega) (notS_c (by omega) (notS_c (by omega) (notS_c (by omega) (notS_c (by omega) (notS_c (by omega) (notS_c (by omega) (notS_n))))))))) (notS_c (by omega) (notS_c (by omega) (notS_c (by omega) (notS_c (by omega) (notS_c (by omega) (notS_c (by omega) (notS_c (by omega) (notS_c (by omega) (notS_n))))))))) (fun a h1 h2 i => (notS_c (by omega) (notS_c (by omega) (notS_c (by omega) (notS_c (by omega) (notS_c (by omega) (notS_c (by omega) (notS_c (by omega) (notS_c (by omega) (notS_n)))))))))) (fun a h1 h2 i => (notS_c (by omega) (notS_c (by omega) (notS_c (by omega) (notS_c (by omega) (notS_c (by omega) (notS_c (by omega) (notS_c (by omega) (notS_c (by omega) (notS_n)))))))))) hcv, (fun hq => GA_f ht hz hs109 (notS_c (by omega) (notS_c (by omega) (notS_c (by omega) (notS_c (by omega) (notS_c (by omega) (notS_c (by omega) (notS_c (by omega) (notS_c (by omega) (notS_n))))))))) (notS_c (by omega) (notS_c (by omega) (notS_c (by omega) (notS_c (by omega) (notS_c (by omega) (notS_c (by omega) (notS_c (by omega) (notS_c (by omega) (notS_n))))))))) (fun i => (notS_c (by omega) (notS_c (by omega) (notS_c (by omega) (notS_c (by omega) (notS_c (by omega) (notS_c (by omega) (notS_c (by omega) (notS_c (by omega) (notS_n)))))))))) (fun a h1 h2 i => (notS_c (by omega) (notS_c (by omega) (notS_c (by omega) (notS_c (by omega) (notS_c (by omega) (notS_c (by omega) (notS_c (by omega) (notS_c (by omega) (notS_n)))))))))) hq), hs109.2.2.1 _ _ (notS_c (by omega) (notS_c (by omega) (notS_c (by omega) (notS_c (by omega) (notS_c (by omega) (notS_c (by omega) (notS_c (by omega) (notS_c (by omega) (notS_n)))))))))⟩)⟩)
      · skip
        refine r_cb (pc' := 33) rfl (by decide) rfl ?_
        have hb112 := rd_1_15 hz
        have hf113 : z94 1 15 = z0 1 15 := (hs98.2.2.1 _ _ (notS_c (by omega) (notS_c (by omega) (notS_c (by omega) notS_n))))
        exact r_ri rfl (po_I hs100 ⟨by decide, by decide⟩ ⟨_, rfl, by omega, by omega, (by exact ⟨CV_f ht hz hs100 (notS_c (by omega) (notS_c (by omega) (notS_c (by omega) (notS_c (by omega) (notS_c (by omega) (notS_c (by omega) (notS_c (by omega) (notS_c (by omega) (notS_n))))))))) (notS_c (by omega) (notS_c (by omega) (notS_c (by omega) (notS_c (by omega) (notS_c (by omega) (notS_c (by omega) (notS_c (by omega) (notS_c (by omega) (notS_n))))))))) (notS_c (by omega) (notS_c (by omega) (notS_c (by omega) (notS_c (by omega) (notS_c (by omega) (notS_c (by omega) (notS_c (by omega) (notS_c (by omega) (notS_n))))))))) (notS_c (by omega) (notS_c (by omega) (notS_c (by omega) (notS_c (by omega) (notS_c (by omega) (notS_c (by omega) (notS_c (by omega) (notS_c (by omega) (notS_n))))))))) (notS_c (by omega) (notS_c (by omega) (notS_c (by omega) (notS_c (by omega) (notS_c (by omega) (notS_c (by omega) (notS_c (by omega) (notS_c (by omega) (notS_n))))))))) (fun i => (notS_c (by omega) (notS_c (by omega) (notS_c (by omega) (notS_c (by omega) (notS_c (by omega) (notS_c (by omega) (notS_c (by omega) (notS_c (by omega) (notS_n)))))))))) (fun i => (notS_c (by omega) (notS_c (by omega) (notS_c (by omega) (notS_c (by omega) (notS_c (by omega) (notS_c (by omega) (notS_c (by omega) (notS_c (by omega) (notS_n)))))))))) (fun i => (notS_c (by omega) (notS_c (by omega) (notS_c (by omega) (notS_c (by omega) (notS_c (by omega) (notS_c (by omega) (notS_c (by omega) (notS_c (by omega) (notS_n)))))))))) (fun a h1 h2 i => (notS_c (by omega) (notS_c (by omega) (notS_c (by omega) (notS_c (by omega) (notS_c (by omega) (notS_c (by omega) (notS_c (by omega) (notS_c (by omega) (notS_n)))))))))) (notS_c (by omega) (notS_c (by omega) (notS_c (by omega) (notS_c (by omega) (notS_c (by omega) (notS_c (by omega) (notS_c (by omega) (notS_c (by omega) (notS_n))))))))) (notS_c (by omega) (notS_c (by omega) (notS_c (by omega) (notS_c (by omega) (notS_c (by omega) (notS_c (by omega) (notS_c (by omega) (notS_c (by omega) (notS_n))))))))) (notS_c (by omega) (notS_c (by omega) (notS_c (by omega) (notS_c (by omega) (notS_c (by omega) (notS_c (by omega) (notS_c (by omega) (notS_c (by omega) (notS_n))))))))) (fun a h1 h2 i => (notS_c (by omega) (notS_c (by omega) (notS_c (by omega) (notS_c (by omega) (notS_c (by omega) (notS_c (by omega) (notS_c (by omega) (notS_c (by omega) (notS_n)))))))))) (fun a h1 h2 i => (notS_c (by omega) (notS_c (by omega) (notS_c (by omega) (notS_c (by omega) (notS_c (by omega) (notS_c (by omega) (notS_c (by omega) (notS_c (by omega) (notS_n)))))))))) hcv, (fun hq => GA_f ht hz hs100 (notS_c (by omega) (notS_c (by omega) (notS_c (by omega) (notS_c (by omega) (notS_c (by omega) (notS_c (by omega) (notS_c (by omega) (notS_c (by omega) (notS_n))))))))) (notS_c (by omega) (notS_c (by omega) (notS_c (by omega) (notS_c (by omega) (notS_c (by omega) (notS_c (by omega) (notS_c (by omega) (notS_c (by omega) (notS_n))))))))) (fun i => (notS_c (by omega) (notS_c (by omega) (notS_c (by omega) (notS_c (by omega) (notS_c (by omega) (notS_c (by omega) (notS_c (by omega) (notS_c (by omega) (notS_n)))))))))) (fun a h1 h2 i => (notS_c (by omega) (notS_c (by omega) (notS_c (by omega) (notS_c (by omega) (notS_c (by omega) (notS_c (by omega) (notS_c (by omega) (notS_c (by omega) (notS_n)))))))))) hq), hs100.2.2.1 _ _ (notS_c (by omega) (notS_c (by omega) (notS_c (by omega) (notS_c (by omega) (notS_c (by omega) (notS_c (by omega) (notS_c (by omega) (notS_c (by omega) (notS_n)))))))))⟩)⟩)
    · skip
      refine r_c0 (pc' := 15) rfl rfl ?_
      have hb114 := rd_1_15 hz
      exact r_ri rfl (po_I hst ⟨by decide, by decide⟩ ⟨_, rfl, by omega, by omega, (by exact ⟨CV_f ht hz hst (notS_c (by omega) (notS_c (by omega) (notS_c (by omega) (notS_c (by omega) (notS_c (by omega) (notS_c (by omega) (notS_c (by omega) (notS_c (by omega) (notS_n))))))))) (notS_c (by omega) (notS_c (by omega) (notS_c (by omega) (notS_c (by omega) (notS_c (by omega) (notS_c (by omega) (notS_c (by omega) (notS_c (by omega) (notS_n))))))))) (notS_c (by omega) (notS_c (by omega) (notS_c (by omega) (notS_c (by omega) (notS_c (by omega) (notS_c (by omega) (notS_c (by omega) (notS_c (by omega) (notS_n))))))))) (notS_c (by omega) (notS_c (by omega) (notS_c (by omega) (notS_c (by omega) (notS_c (by omega) (notS_c (by omega) (notS_c (by omega) (notS_c (by omega) (notS_n))))))))) (notS_c (by omega) (notS_c (by omega) (notS_c (by omega) (notS_c (by omega) (notS_c (by omega) (notS_c (by omega) (notS_c (by omega) (notS_c (by omega) (notS_n))))))))) (fun i => (notS_c (by omega) (notS_c (by omega) (notS_c (by omega) (notS_c (by omega) (notS_c (by omega) (notS_c (by omega) (notS_c (by omega) (notS_c (by omega) (notS_n)))))))))) (fun i => (notS_c (by omega) (notS_c (by omega) (notS_c (by omega) (notS_c (by omega) (notS_c (by omega) (notS_c (by omega) (notS_c (by omega) (notS_c (by omega) (notS_n)))))))))) (fun i => (notS_c (by omega) (notS_c (by omega) (notS_c (by omega) (notS_c (by omega) (notS_c (by omega) (notS_c (by omega) (notS_c (by omega) (notS_c (by omega) (notS_n)))))))))) (fun a h1 h2 i => (notS_c (by omega) (notS_c (by omega) (notS_c (by omega) (notS_c (by omega) (notS_c (by omega) (notS_c (by omega) (notS_c (by omega) (notS_c (by omega) (notS_n)))))))))) (notS_c (by omega) (notS_c (by omega) (notS_c (by omega) (notS_c (by omega) (notS_c (by omega) (notS_c (by omega) (notS_c (by omega) (notS_c (by omega) (notS_n))))))))) (notS_c (by omega) (notS_c (by omega) (notS_c (by omega) (notS_c (by omega) (notS_c (by omega) (notS_c (by omega) (notS_c (by omega) (notS_c (by omega) (notS_n))))))))) (notS_c (by omega) (notS_c (by omega) (notS_c (by omega) (notS_c (by omega) (notS_c (by omega) (notS_c (by omega) (notS_c (by omega) (notS_c (by omega) (notS_n))))))))) (fun a h1 h2 i => (notS_c (by omega) (notS_c (by omega) (notS_c (by omega) (notS_c (by omega) (notS_c (by omega) (notS_c (by omega) (notS_c (by omega) (notS_c (by omega) (notS_n)))))))))) (fun a h1 h2 i => (notS_c (by omega) (notS_c (by omega) (notS_c (by omega) (notS_c (by omega) (notS_c (by omega) (notS_c (by omega) (notS_c (by omega) (notS_c (by omega) (notS_n)))))))))) hcv, (fun hq => GA_f ht hz hst (notS_c (by omega) (notS_c (by omega) (notS_c (by omega) (notS_c (by omega) (notS_c (by omega) (notS_c (by omega) (notS_c (by omega) (notS_c (by omega) (notS_n))))))))) (notS_c (by omega) (notS_c (by omega) (notS_c (by omega) (notS_c (by omega) (notS_c (by omega) (notS_c (by omega) (notS_c (by omega) (notS_c (by omega) (notS_n))))))))) (fun i => (notS_c (by omega) (notS_c (by omega) (notS_c (by omega) (notS_c (by omega) (notS_c (by omega) (notS_c (by omega) (notS_c (by omega) (notS_c (by omega) (notS_n)))))))))) (fun a h1 h2 i => (notS_c (by omega) (notS_c (by omega) (notS_c (by omega) (notS_c (by omega) (notS_c (by omega) (notS_c (by omega) (notS_c (by omega) (notS_c (by omega) (notS_n)))))))))) hq), hst.2.2.1 _ _ (notS_c (by omega) (notS_c (by omega) (notS_c (by omega) (notS_c (by omega) (notS_c (by omega) (notS_c (by omega) (notS_c (by omega) (notS_c (by omega) (notS_n)))))))))⟩)⟩)
  · skip
    refine r_st (pc' := 6) (lv' := [(3, _), (0, _), (1, _), (2, _)]) rfl rfl rfl rfl ?_
    refine r_ld (pc' := 7) rfl rfl rfl rfl ?_
    refine r_nul_t rfl ?_
    refine r_c0 (pc' := 15) rfl rfl ?_
    have hb115 := rd_1_15 hz
    exact r_ri rfl (po_I hst ⟨by decide, by decide⟩ ⟨_, rfl, by omega, by omega, (by exact ⟨CV_f ht hz hst (notS_c (by omega) (notS_c (by omega) (notS_c (by omega) (notS_c (by omega) (notS_c (by omega) (notS_c (by omega) (notS_c (by omega) (notS_c (by omega) (notS_n))))))))) (notS_c (by omega) (notS_c (by omega) (notS_c (by omega) (notS_c (by omega) (notS_c (by omega) (notS_c (by omega) (notS_c (by omega) (notS_c (by omega) (notS_n))))))))) (notS_c (by omega) (notS_c (by omega) (notS_c (by omega) (notS_c (by omega) (notS_c (by omega) (notS_c (by omega) (notS_c (by omega) (notS_c (by omega) (notS_n))))))))) (notS_c (by omega) (notS_c (by omega) (notS_c (by omega) (notS_c (by omega) (notS_c (by omega) (notS_c (by omega) (notS_c (by omega) (notS_c (by omega) (notS_n))))))))) (notS_c (by omega) (notS_c (by omega) (notS_c (by omega) (notS_c (by omega) (notS_c (by omega) (notS_c (by omega) (notS_c (by omega) (notS_c (by omega) (notS_n))))))))) (fun i => (notS_c (by omega) (notS_c (by omega) (notS_c (by omega) (notS_c (by omega) (notS_c (by omega) (notS_c (by omega) (notS_c (by omega) (notS_c (by omega) (notS_n)))))))))) (fun i => (notS_c (by omega) (notS_c (by omega) (notS_c (by omega) (notS_c (by omega) (notS_c (by omega) (notS_c (by omega) (notS_c (by omega) (notS_c (by omega) (notS_n)))))))))) (fun i => (notS_c (by omega) (notS_c (by omega) (notS_c (by omega) (notS_c (by omega) (notS_c (by omega) (notS_c (by omega) (notS_c (by omega) (notS_c (by omega) (notS_n)))))))))) (fun a h1 h2 i => (notS_c (by omega) (notS_c (by omega) (notS_c (by omega) (notS_c (by omega) (notS_c (by omega) (notS_c (by omega) (notS_c (by omega) (notS_c (by omega) (notS_n)))))))))) (notS_c (by omega) (notS_c (by omega) (notS_c (by omega) (notS_c (by omega) (notS_c (by omega) (notS_c (by omega) (notS_c (by omega) (notS_c (by omega) (notS_n))))))))) (notS_c (by omega) (notS_c (by omega) (notS_c (by omega) (notS_c (by omega) (notS_c (by omega) (notS_c (by omega) (notS_c (by omega) (notS_c (by omega) (notS_n))))))))) (notS_c (by omega) (notS_c (by omega) (notS_c (by omega) (notS_c (by omega) (notS_c (by omega) (notS_c (by omega) (notS_c (by omega) (notS_c (by omega) (notS_n))))))))) (fun a h1 h2 i => (notS_c (by omega) (notS_c (by omega) (notS_c (by omega) (notS_c (by omega) (notS_c (by omega) (notS_c (by omega) (notS_c (by omega) (notS_c (by omega) (notS_n)))))))))) (fun a h1 h2 i => (notS_c (by omega) (notS_c (by omega) (notS_c (by omega) (notS_c (by omega) (notS_c (by omega) (notS_c (by omega) (notS_c (by omega) (notS_c (by omega) (notS_n)))))))))) hcv, (fun hq => GA_f ht hz hst (notS_c (by omega) (notS_c (by omega) (notS_c (by omega) (notS_c (by omega) (notS_c (by omega) (notS_c (by omega) (notS_c (by omega) (notS_c (by omega) (notS_n))))))))) (notS_c (by omega) (notS_c (by omega) (notS_c (by omega) (notS_c (by omega) (notS_c (by omega) (notS_c (by omega) (notS_c (by omega) (notS_c (by omega) (notS_n))))))))) (fun i => (notS_c (by omega) (notS_c (by omega) (notS_c (by omega) (notS_c (by omega) (notS_c (by omega) (notS_c (by omega) (notS_c (by omega) (notS_c (by omega) (notS_n)))))))))) (fun a h1 h2 i => (notS_c (by omega) (notS_c (by omega) (notS_c (by omega) (notS_c (by omega) (notS_c (by omega) (notS_c (by omega) (notS_c (by omega) (notS_c (by omega) (notS_n)))))))))) hq), hst.2.2.1 _ _ (notS_c (by omega) (notS_c (by omega) (notS_c (by omega) (notS_c (by omega) (notS_c (by omega) (notS_c (by omega) (notS_c (by omega) (notS_c (by omega) (notS_n)))))))))⟩)⟩)
/-- LoopGround loops -/
abbrev S_109v  : mS := [(4, 4, 8, 8), (7, 7, 0, 17), (6, 6, 0, 17), (4, 4, 0, 0), (4, 4, 1, 1), (5, 5, 0, 281), (4, 4, 9, 9), (4, 4, 10, 10), (4, 4, 11, 11), (4, 4, 12, 12), (4, 4, 13, 13)]
abbrev E_109v (t : Nat) (u : Nat) (a1 : Int) (a2 : Int) (z0 w0 : mZ) (tx it mt tt ct : Option Nat) : Int → mZ → mZ → mP → Prop := fun v z w p => ∃ tt_e : Option Nat, p = (pq (some t) (some u) tx it mt tt_e ct) ∧ (-2147483648) ≤ v ∧ v ≤ 2147483647 ∧ (CV z w t ∧ (GA z0 z0 t → GA z z t) ∧ z 1 15 = z0 1 15)
theorem m_109v {d : Nat} {z0 w0 : mZ} {tx it mt tt ct : Option Nat} (t : Nat) (u : Nat) (a1 : Int) (a2 : Int) (hz : rz z0) (hw : rw_ w0) (ha1 : (-2147483648) ≤ a1 ∧ a1 ≤ 2147483647) (ha2 : (-2147483648) ≤ a2 ∧ a2 ≤ 2147483647) (ht : isT t) (hu : isT u) (hcv : CV z0 w0 t) : wc (d + 5) 109 [.ref 1, .int (Int32.ofInt a1), .int (Int32.ofInt a2)] (mk z0 w0 (pq (some t) (some u) tx it mt tt ct)) (poI S_109v z0 w0 (E_109v t u a1 a2 z0 w0 tx it mt tt ct)) := by
  have hst : st_ S_109v z0 w0 z0 w0 := st_rf hz hw
  have htb : 159 ≤ t ∧ t ≤ 192 := by have := ht; unfold isT at this; omega
  have hub : 159 ≤ u ∧ u ≤ 192 := by have := hu; unfold isT at this; omega
  have hz114 := rd_1_15 hz
  have hwt := hcv.1
  have hzt3 := rd_T_3 ht hz
  have h390 := rd_39_0 hz
  have h391 := rd_39_1 hz
  have h392 := rd_39_2 hz
  refine w_m rfl rfl ?_
  refine r_ld (pc' := 1) rfl rfl rfl rfl ?_
  refine r_ld (pc' := 2) rfl rfl rfl rfl ?_
  refine r_cVR (pc' := 5) rfl rfl rfl rfl rfl sh_1 (m_135 (d := d + 2) t u a1 hst.1 hst.2.1 ⟨by omega, by omega⟩ ht hu) (fun v115 z116 w117 p118 hs120 hE121 => ?_)
  rcases hE121 with ⟨rfl, rfl, rfl, rfl, hra⟩ | ⟨rfl, rfl, rfl, rfl, hrt⟩ | ⟨rfl, rfl, rfl, rfl, hrn⟩
  · skip
    have hb123 := rd_39_2 hz
    have hb124 := rd_39_0 hz
    refine r_st (pc' := 6) (lv' := [(3, _), (0, _), (1, _), (2, _)]) rfl rfl rfl rfl ?_
    refine r_ld (pc' := 7) rfl rfl rfl rfl ?_
    refine r_nul_f (pc' := 10) rfl rfl ?_
    refine r_ld (pc' := 11) rfl rfl rfl rfl ?_
    refine r_zlt (pc' := 14) rfl rfl ⟨by omega, by omega⟩ (fun hc125 => ?_) (fun hc125 => ?_)
    · skip
      refine r_c0 (pc' := 20) rfl rfl ?_
      have hb126 := rd_1_15 hz
      exact r_ri rfl (po_I hst ⟨by decide, by decide⟩ ⟨_, rfl, by omega, by omega, (by exact ⟨CV_f ht hz hst (notS_c (by omega) (notS_c (by omega) (notS_c (by omega) (notS_c (by omega) (notS_c (by omega) (notS_c (by omega) (notS_c (by omega) (notS_c (by omega) (notS_c (by omega) (notS_c (by omega) (notS_c (by omega) (notS_n)))))))))))) (notS_c (by omega) (notS_c (by omega) (notS_c (by omega) (notS_c (by omega) (notS_c (by omega) (notS_c (by omega) (notS_c (by omega) (notS_c (by omega) (notS_c (by omega) (notS_c (by omega) (notS_c (by omega) (notS_n)))))))))))) (notS_c (by omega) (notS_c (by omega) (notS_c (by omega) (notS_c (by omega) (notS_c (by omega) (notS_c (by omega) (notS_c (by omega) (notS_c (by omega) (notS_c (by omega) (notS_c (by omega) (notS_c (by omega) (notS_n)))))))))))) (notS_c (by omega) (notS_c (by omega) (notS_c (by omega) (notS_c (by omega) (notS_c (by omega) (notS_c (by omega) (notS_c (by omega) (notS_c (by omega) (notS_c (by omega) (notS_c (by omega) (notS_c (by omega) (notS_n)))))))))))) (notS_c (by omega) (notS_c (by omega) (notS_c (by omega) (notS_c (by omega) (notS_c (by omega) (notS_c (by omega) (notS_c (by omega) (notS_c (by omega) (notS_c (by omega) (notS_c (by omega) (notS_c (by omega) (notS_n)))))))))))) (fun i => (notS_c (by omega) (notS_c (by omega) (notS_c (by omega) (notS_c (by omega) (notS_c (by omega) (notS_c (by omega) (notS_c (by omega) (notS_c (by omega) (notS_c (by omega) (notS_c (by omega) (notS_c (by omega) (notS_n))))))))))))) (fun i => (notS_c (by omega) (notS_c (by omega) (notS_c (by omega) (notS_c (by omega) (notS_c (by omega) (notS_c (by omega) (notS_c (by omega) (notS_c (by omega) (notS_c (by omega) (notS_c (by omega) (notS_c (by omega) (notS_n))))))))))))) (fun i => (notS_c (by omega) (notS_c (by omega) (notS_c (by omega) (notS_c (by omega) (notS_c (by omega) (notS_c (by omega) (notS_c (by omega) (notS_c (by omega) (notS_c (by omega) (notS_c (by omega) (notS_c (by omega) (notS_n))))))))))))) (fun a h1 h2 i => (notS_c (by omega) (notS_c (by omega) (notS_c (by omega) (notS_c (by omega) (notS_c (by omega) (notS_c (by omega) (notS_c (by omega) (notS_c (by omega) (notS_c (by omega) (notS_c (by omega) (notS_c (by omega) (notS_n))))))))))))) (notS_c (by omega) (notS_c (by omega) (notS_c (by omega) (notS_c (by omega) (notS_c (by omega) (notS_c (by omega) (notS_c (by omega) (notS_c (by omega) (notS_c (by omega) (notS_c (by omega) (notS_c (by omega) (notS_n)))))))))))) (notS_c (by omega) (notS_c (by omega) (notS_c (by omega) (notS_c (by omega) (notS_c (by omega) (notS_c (by omega) (notS_c (by omega) (notS_c (by omega) (notS_c (by omega) (notS_c (by omega) (notS_c (by omega) (notS_n)))))))))))) (notS_c (by omega) (notS_c (by omega) (notS_c (by omega) (notS_c (by omega) (notS_c (by omega) (notS_c (by omega) (notS_c (by omega) (notS_c (by omega) (notS_c (by omega) (notS_c (by omega) (notS_c (by omega) (notS_n)))))))))))) (fun a h1 h2 i => (notS_c (by omega) (notS_c (by omega) (notS_c (by omega) (notS_c (by omega) (notS_c (by omega) (notS_c (by omega) (notS_c (by omega) (notS_c (by omega) (notS_c (by omega) (notS_c (by omega) (notS_c (by omega) (notS_n))))))))))))) (fun a h1 h2 i => (notS_c (by omega) (notS_c (by omega) (notS_c (by omega) (notS_c (by omega) (notS_c (by omega) (notS_c (by omega) (notS_c (by omega) (notS_c (by omega) (notS_c (by omega) (notS_c (by omega) (notS_c (by omega) (notS_n))))))))))))) hcv, (fun hq => GA_f ht hz hst (notS_c (by omega) (notS_c (by omega) (notS_c (by omega) (notS_c (by omega) (notS_c (by omega) (notS_c (by omega) (notS_c (by omega) (notS_c (by omega) (notS_c (by omega) (notS_c (by omega) (notS_c (by omega) (notS_n)))))))))))) (notS_c (by omega) (notS_c (by omega) (notS_c (by omega) (notS_c (by omega) (notS_c (by omega) (notS_c (by omega) (notS_c (by omega) (notS_c (by omega) (notS_c (by omega) (notS_c (by omega) (notS_c (by omega) (notS_n)))))))))))) (fun i => (notS_c (by omega) (notS_c (by omega) (notS_c (by omega) (notS_c (by omega) (notS_c (by omega) (notS_c (by omega) (notS_c (by omega) (notS_c (by omega) (notS_c (by omega) (notS_c (by omega) (notS_c (by omega) (notS_n))))))))))))) (fun a h1 h2 i => (notS_c (by omega) (notS_c (by omega) (notS_c (by omega) (notS_c (by omega) (notS_c (by omega) (notS_c (by omega) (notS_c (by omega) (notS_c (by omega) (notS_c (by omega) (notS_c (by omega) (notS_c (by omega) (notS_n))))))))))))) hq), hst.2.2.1 _ _ (notS_c (by omega) (notS_c (by omega) (notS_c (by omega) (notS_c (by omega) (notS_c (by omega) (notS_c (by omega) (notS_c (by omega) (notS_c (by omega) (notS_c (by omega) (notS_c (by omega) (notS_c (by omega) (notS_n))))))))))))⟩)⟩)
    · skip
      refine r_ld (pc' := 15) rfl rfl rfl rfl ?_
      refine r_c0 (pc' := 16) rfl rfl ?_
      refine r_ile (pc' := 19) rfl rfl ⟨by omega, by omega⟩ ⟨by decide, by decide⟩ (fun hc127 => ?_) (fun hc127 => ?_)
      · skip
        refine r_ld (pc' := 22) rfl rfl rfl rfl ?_
        refine r_gr (b := 4) (pc' := 25) rfl rfl sh_1 rfl pp_1_2 ?_
        refine r_ld (pc' := 26) rfl rfl rfl rfl ?_
        refine r_gr (b := t) (pc' := 29) rfl rfl sh_1 rfl pp_1_13 ?_
        refine r_ld (pc' := 30) rfl rfl rfl rfl ?_
        refine r_cVI (pc' := 33) rfl rfl rfl rfl rfl sh_4 (m_86 (d := d + 2) t (41 + ((z0 39 2 + (z0 39 0)) % 61).toNat) hst.1 hst.2.1 ht (by exact hwt) (by first | exact AK_now hcv.2.2.1 (by omega) (by omega) | exact hcv.2.1 _ (by omega)) (lr_41 (k := ((z0 39 2 + (z0 39 0)) % 61).toNat) (by omega) ) (by first | omega | assumption) (fun e he => by have q := rd_41 (k := ((z0 39 2 + (z0 39 0)) % 61).toNat) (by omega) hst.2.1 (i := e) he; exact ⟨by omega, by omega⟩)) (fun v128 z129 w130 p131 h132 hs133 hE134 => ?_)
        have hs135 := st_tr hst hs133 (sub_B rfl)
        obtain ⟨rfl, hE134⟩ := hE134
        have hld := hE134.2.2
        refine r_zne (pc' := 36) rfl rfl ⟨by omega, by omega⟩ (fun hc136 => ?_) (fun hc136 => ?_)
        · skip
          refine r_ld (pc' := 40) rfl rfl rfl rfl ?_
          refine r_gr (b := 4) (pc' := 43) rfl rfl sh_1 rfl pp_1_2 ?_
          have hb137 := rd_T_0 ht hz
          have hf138 : z129 t 0 = z0 t 0 := (hs133.2.2.1 _ _ (notS_c (by omega) (notS_c (by omega) (notS_c (by omega) notS_n))))
          have hb139 := rd_T_1 ht hz
          have hf140 : z129 t 1 = z0 t 1 := (hs133.2.2.1 _ _ (notS_c (by omega) (notS_c (by omega) (notS_c (by omega) notS_n))))
          have hF141 : z129 (t + 1) = z0 (t + 1) := (funext fun _ => hs133.2.2.1 _ _ (notS_c (by omega) (notS_c (by omega) (notS_c (by omega) notS_n))))
          have hF142 : z129 (t + 5) = z0 (t + 5) := (funext fun _ => hs133.2.2.1 _ _ (notS_c (by omega) (notS_c (by omega) (notS_c (by omega) notS_n))))
          refine r_cVV (pc' := 46) rfl rfl rfl rfl rfl sh_4 (m_93 (d := d) t hs135.1 hs135.2.1 ht (by exact WTt_f hs135 (notS_c (by omega) (notS_c (by omega) (notS_c (by omega) (notS_c (by omega) (notS_c (by omega) (notS_c (by omega) (notS_c (by omega) (notS_c (by omega) (notS_c (by omega) (notS_c (by omega) (notS_c (by omega) (notS_n)))))))))))) (notS_c (by omega) (notS_c (by omega) (notS_c (by omega) (notS_c (by omega) (notS_c (by omega) (notS_c (by omega) (notS_c (by omega) (notS_c (by omega) (notS_c (by omega) (notS_c (by omega) (notS_c (by omega) (notS_n)))))))))))) (fun i => (notS_c (by omega) (notS_c (by omega) (notS_c (by omega) (notS_c (by omega) (notS_c (by omega) (notS_c (by omega) (notS_c (by omega) (notS_c (by omega) (notS_c (by omega) (notS_c (by omega) (notS_c (by omega) (notS_n))))))))))))) (fun i => (notS_c (by omega) (notS_c (by omega) (notS_c (by omega) (notS_c (by omega) (notS_c (by omega) (notS_c (by omega) (notS_c (by omega) (notS_c (by omega) (notS_c (by omega) (notS_c (by omega) (notS_c (by omega) (notS_n))))))))))))) (fun i => (notS_c (by omega) (notS_c (by omega) (notS_c (by omega) (notS_c (by omega) (notS_c (by omega) (notS_c (by omega) (notS_c (by omega) (notS_c (by omega) (notS_c (by omega) (notS_c (by omega) (notS_c (by omega) (notS_n))))))))))))) hwt) (by exact (hld (by omega)).1)) (fun z144 w145 p146 hs148 hE149 => ?_)
          have hs150 := st_tr hs135 hs148 (sub_B rfl)
          obtain ⟨rfl, hE149⟩ := hE149
          refine r_ld (pc' := 47) rfl rfl rfl rfl ?_
          refine r_zne (pc' := 50) rfl rfl ⟨by omega, by omega⟩ (fun hc151 => ?_) (fun hc151 => ?_)
          · skip
            refine r_ld (pc' := 59) rfl rfl rfl rfl ?_
            refine r_c0 (pc' := 60) rfl rfl ?_
            refine r_ine (pc' := 63) rfl rfl ⟨by omega, by omega⟩ ⟨by decide, by decide⟩ (fun hc152 => ?_) (fun hc152 => ?_)
            · skip
              refine r_ld (pc' := 72) rfl rfl rfl rfl ?_
              refine r_gr (b := 4) (pc' := 75) rfl rfl sh_1 rfl pp_1_2 ?_
              have hb153 := rd_4_0 hs150.1
              refine r_cVI (pc' := 78) rfl rfl rfl rfl rfl sh_4 (m_96v (d := d + 3)  hs150.1 hs150.2.1 ) (fun v154 z155 w156 p157 h158 hs159 hE160 => ?_)
              obtain ⟨rfl, rfl, rfl, hE160⟩ := hE160
              refine r_zeq (pc' := 81) rfl rfl ⟨by omega, by omega⟩ (fun hc162 => ?_) (fun hc162 => ?_)
              · skip
                refine r_c0 (pc' := 86) rfl rfl ?_
                have hb163 := rd_1_15 hz
                have hf164 : z144 1 15 = z0 1 15 := ((hs148.2.2.1 _ _ (notS_c (by omega) (notS_c (by omega) (notS_c (by omega) (notS_c (by omega) (notS_c (by omega) (notS_c (by omega) (notS_c (by omega) (notS_c (by omega) notS_n))))))))).trans (hs133.2.2.1 _ _ (notS_c (by omega) (notS_c (by omega) (notS_c (by omega) notS_n)))))
                exact r_ri rfl (po_I hs150 ⟨by decide, by decide⟩ ⟨_, rfl, by omega, by omega, (by exact ⟨CV_f ht hz hs150 (notS_c (by omega) (notS_c (by omega) (notS_c (by omega) (notS_c (by omega) (notS_c (by omega) (notS_c (by omega) (notS_c (by omega) (notS_c (by omega) (notS_c (by omega) (notS_c (by omega) (notS_c (by omega) (notS_n)))))))))))) (notS_c (by omega) (notS_c (by omega) (notS_c (by omega) (notS_c (by omega) (notS_c (by omega) (notS_c (by omega) (notS_c (by omega) (notS_c (by omega) (notS_c (by omega) (notS_c (by omega) (notS_c (by omega) (notS_n)))))))))))) (notS_c (by omega) (notS_c (by omega) (notS_c (by omega) (notS_c (by omega) (notS_c (by omega) (notS_c (by omega) (notS_c (by omega) (notS_c (by omega) (notS_c (by omega) (notS_c (by omega) (notS_c (by omega) (notS_n)))))))))))) (notS_c (by omega) (notS_c (by omega) (notS_c (by omega) (notS_c (by omega) (notS_c (by omega) (notS_c (by omega) (notS_c (by omega) (notS_c (by omega) (notS_c (by omega) (notS_c (by omega) (notS_c (by omega) (notS_n)))))))))))) (notS_c (by omega) (notS_c (by omega) (notS_c (by omega) (notS_c (by omega) (notS_c (by omega) (notS_c (by omega) (notS_c (by omega) (notS_c (by omega) (notS_c (by omega) (notS_c (by omega) (notS_c (by omega) (notS_n)))))))))))) (fun i => (notS_c (by omega) (notS_c (by omega) (notS_c (by omega) (notS_c (by omega) (notS_c (by omega) (notS_c (by omega) (notS_c (by omega) (notS_c (by omega) (notS_c (by omega) (notS_c (by omega) (notS_c (by omega) (notS_n))))))))))))) (fun i => (notS_c (by omega) (notS_c (by omega) (notS_c (by omega) (notS_c (by omega) (notS_c (by omega) (notS_c (by omega) (notS_c (by omega) (notS_c (by omega) (notS_c (by omega) (notS_c (by omega) (notS_c (by omega) (notS_n))))))))))))) (fun i => (notS_c (by omega) (notS_c (by omega) (notS_c (by omega) (notS_c (by omega) (notS_c (by omega) (notS_c (by omega) (notS_c (by omega) (notS_c (by omega) (notS_c (by omega) (notS_c (by omega) (notS_c (by omega) (notS_n))))))))))))) (fun a h1 h2 i => (notS_c (by omega) (notS_c (by omega) (notS_c (by omega) (notS_c (by omega) (notS_c (by omega) (notS_c (by omega) (notS_c (by omega) (notS_c (by omega) (notS_c (by omega) (notS_c (by omega) (notS_c (by omega) (notS_n))))))))))))) (notS_c (by omega) (notS_c (by omega) (notS_c (by omega) (notS_c (by omega) (notS_c (by omega) (notS_c (by omega) (notS_c (by omega) (notS_c (by omega) (notS_c (by omega) (notS_c (by omega) (notS_c (by omega) (notS_n)))))))))))) (notS_c (by omega) (notS_c (by omega) (notS_c (by omega) (notS_c (by omega) (notS_c (by omega) (notS_c (by omega) (notS_c (by omega) (notS_c (by omega) (notS_c (by omega) (notS_c (by omega) (notS_c (by omega) (notS_n)))))))))))) (notS_c (by omega) (notS_c (by omega) (notS_c (by omega) (notS_c (by omega) (notS_c (by omega) (notS_c (by omega) (notS_c (by omega) (notS_c (by omega) (notS_c (by omega) (notS_c (by omega) (notS_c (by omega) (notS_n)))))))))))) (fun a h1 h2 i => (notS_c (by omega) (notS_c (by omega) (notS_c (by omega) (notS_c (by omega) (notS_c (by omega) (notS_c (by omega) (notS_c (by omega) (notS_c (by omega) (notS_c (by omega) (notS_c (by omega) (notS_c (by omega) (notS_n))))))))))))) (fun a h1 h2 i => (notS_c (by omega) (notS_c (by omega) (notS_c (by omega) (notS_c (by omega) (notS_c (by omega) (notS_c (by omega) (notS_c (by omega) (notS_c (by omega) (notS_c (by omega) (notS_c (by omega) (notS_c (by omega) (notS_n))))))))))))) hcv, (fun hq => GA_f ht hz hs150 (notS_c (by omega) (notS_c (by omega) (notS_c (by omega) (notS_c (by omega) (notS_c (by omega) (notS_c (by omega) (notS_c (by omega) (notS_c (by omega) (notS_c (by omega) (notS_c (by omega) (notS_c (by omega) (notS_n)))))))))))) (notS_c (by omega) (notS_c (by omega) (notS_c (by omega) (notS_c (by omega) (notS_c (by omega) (notS_c (by omega) (notS_c (by omega) (notS_c (by omega) (notS_c (by omega) (notS_c (by omega) (notS_c (by omega) (notS_n)))))))))))) (fun i => (notS_c (by omega) (notS_c (by omega) (notS_c (by omega) (notS_c (by omega) (notS_c (by omega) (notS_c (by omega) (notS_c (by omega) (notS_c (by omega) (notS_c (by omega) (notS_c (by omega) (notS_c (by omega) (notS_n))))))))))))) (fun a h1 h2 i => (notS_c (by omega) (notS_c (by omega) (notS_c (by omega) (notS_c (by omega) (notS_c (by omega) (notS_c (by omega) (notS_c (by omega) (notS_c (by omega) (notS_c (by omega) (notS_c (by omega) (notS_c (by omega) (notS_n))))))))))))) hq), hs150.2.2.1 _ _ (notS_c (by omega) (notS_c (by omega) (notS_c (by omega) (notS_c (by omega) (notS_c (by omega) (notS_c (by omega) (notS_c (by omega) (notS_c (by omega) (notS_c (by omega) (notS_c (by omega) (notS_c (by omega) (notS_n))))))))))))⟩)⟩)
              · skip
                refine r_c0 (pc' := 82) rfl rfl ?_
                refine r_go rfl ?_
                have hb165 := rd_1_15 hz
                have hf166 : z144 1 15 = z0 1 15 := ((hs148.2.2.1 _ _ (notS_c (by omega) (notS_c (by omega) (notS_c (by omega) (notS_c (by omega) (notS_c (by omega) (notS_c (by omega) (notS_c (by omega) (notS_c (by omega) notS_n))))))))).trans (hs133.2.2.1 _ _ (notS_c (by omega) (notS_c (by omega) (notS_c (by omega) notS_n)))))
                exact r_ri rfl (po_I hs150 ⟨by decide, by decide⟩ ⟨_, rfl, by omega, by omega, (by exact ⟨CV_f ht hz hs150 (notS_c (by omega) (notS_c (by omega) (notS_c (by omega) (notS_c (by omega) (notS_c (by omega) (notS_c (by omega) (notS_c (by omega) (notS_c (by omega) (notS_c (by omega) (notS_c (by omega) (notS_c (by omega) (notS_n)))))))))))) (notS_c (by omega) (notS_c (by omega) (notS_c (by omega) (notS_c (by omega) (notS_c (by omega) (notS_c (by omega) (notS_c (by omega) (notS_c (by omega) (notS_c (by omega) (notS_c (by omega) (notS_c (by omega) (notS_n)))))))))))) (notS_c (by omega) (notS_c (by omega) (notS_c (by omega) (notS_c (by omega) (notS_c (by omega) (notS_c (by omega) (notS_c (by omega) (notS_c (by omega) (notS_c (by omega) (notS_c (by omega) (notS_c (by omega) (notS_n)))))))))))) (notS_c (by omega) (notS_c (by omega) (notS_c (by omega) (notS_c (by omega) (notS_c (by omega) (notS_c (by omega) (notS_c (by omega) (notS_c (by omega) (notS_c (by omega) (notS_c (by omega) (notS_c (by omega) (notS_n)))))))))))) (notS_c (by omega) (notS_c (by omega) (notS_c (by omega) (notS_c (by omega) (notS_c (by omega) (notS_c (by omega) (notS_c (by omega) (notS_c (by omega) (notS_c (by omega) (notS_c (by omega) (notS_c (by omega) (notS_n)))))))))))) (fun i => (notS_c (by omega) (notS_c (by omega) (notS_c (by omega) (notS_c (by omega) (notS_c (by omega) (notS_c (by omega) (notS_c (by omega) (notS_c (by omega) (notS_c (by omega) (notS_c (by omega) (notS_c (by omega) (notS_n))))))))))))) (fun i => (notS_c (by omega) (notS_c (by omega) (notS_c (by omega) (notS_c (by omega) (notS_c (by omega) (notS_c (by omega) (notS_c (by omega) (notS_c (by omega) (notS_c (by omega) (notS_c (by omega) (notS_c (by omega) (notS_n))))))))))))) (fun i => (notS_c (by omega) (notS_c (by omega) (notS_c (by omega) (notS_c (by omega) (notS_c (by omega) (notS_c (by omega) (notS_c (by omega) (notS_c (by omega) (notS_c (by omega) (notS_c (by omega) (notS_c (by omega) (notS_n))))))))))))) (fun a h1 h2 i => (notS_c (by omega) (notS_c (by omega) (notS_c (by omega) (notS_c (by omega) (notS_c (by omega) (notS_c (by omega) (notS_c (by omega) (notS_c (by omega) (notS_c (by omega) (notS_c (by omega) (notS_c (by omega) (notS_n))))))))))))) (notS_c (by omega) (notS_c (by omega) (notS_c (by omega) (notS_c (by omega) (notS_c (by omega) (notS_c (by omega) (notS_c (by omega) (notS_c (by omega) (notS_c (by omega) (notS_c (by omega) (notS_c (by omega) (notS_n)))))))))))) (notS_c (by omega) (notS_c (by omega) (notS_c (by omega) (notS_c (by omega) (notS_c (by omega) (notS_c (by omega) (notS_c (by omega) (notS_c (by omega) (notS_c (by omega) (notS_c (by omega) (notS_c (by omega) (notS_n)))))))))))) (notS_c (by omega) (notS_c (by omega) (notS_c (by omega) (notS_c (by omega) (notS_c (by omega) (notS_c (by omega) (notS_c (by omega) (notS_c (by omega) (notS_c (by omega) (notS_c (by omega) (notS_c (by omega) (notS_n)))))))))))) (fun a h1 h2 i => (notS_c (by omega) (notS_c (by omega) (notS_c (by omega) (notS_c (by omega) (notS_c (by omega) (notS_c (by omega) (notS_c (by omega) (notS_c (by omega) (notS_c (by omega) (notS_c (by omega) (notS_c (by omega) (notS_n))))))))))))) (fun a h1 h2 i => (notS_c (by omega) (notS_c (by omega) (notS_c (by omega) (notS_c (by omega) (notS_c (by omega) (notS_c (by omega) (notS_c (by omega) (notS_c (by omega) (notS_c (by omega) (notS_c (by omega) (notS_c (by omega) (notS_n))))))))))))) hcv, (fun hq => GA_f ht hz hs150 (notS_c (by omega) (notS_c (by omega) (notS_c (by omega) (notS_c (by omega) (notS_c (by omega) (notS_c (by omega) (notS_c (by omega) (notS_c (by omega) (notS_c (by omega) (notS_c (by omega) (notS_c (by omega) (notS_n)))))))))))) (notS_c (by omega) (notS_c (by omega) (notS_c (by omega) (notS_c (by omega) (notS_c (by omega) (notS_c (by omega) (notS_c (by omega) (notS_c (by omega) (notS_c (by omega) (notS_c (by omega) (notS_c (by omega) (notS_n)))))))))))) (fun i => (notS_c (by omega) (notS_c (by omega) (notS_c (by omega) (notS_c (by omega) (notS_c (by omega) (notS_c (by omega) (notS_c (by omega) (notS_c (by omega) (notS_c (by omega) (notS_c (by omega) (notS_c (by omega) (notS_n))))))))))))) (fun a h1 h2 i => (notS_c (by omega) (notS_c (by omega) (notS_c (by omega) (notS_c (by omega) (notS_c (by omega) (notS_c (by omega) (notS_c (by omega) (notS_c (by omega) (notS_c (by omega) (notS_c (by omega) (notS_c (by omega) (notS_n))))))))))))) hq), hs150.2.2.1 _ _ (notS_c (by omega) (notS_c (by omega) (notS_c (by omega) (notS_c (by omega) (notS_c (by omega) (notS_c (by omega) (notS_c (by omega) (notS_c (by omega) (notS_c (by omega) (notS_c (by omega) (notS_c (by omega) (notS_n))))))))))))⟩)⟩)
            · skip
              refine r_ld (pc' := 64) rfl rfl rfl rfl ?_
              refine r_gr (b := 4) (pc' := 67) rfl rfl sh_1 rfl pp_1_2 ?_
              have hb167 := rd_4_1 hs150.1
              refine r_gi (pc' := 70) rfl rfl sh_4 rfl rfl ?_
              have hb168 := rd_1_15 hz
              have hf169 : z144 1 15 = z0 1 15 := ((hs148.2.2.1 _ _ (notS_c (by omega) (notS_c (by omega) (notS_c (by omega) (notS_c (by omega) (notS_c (by omega) (notS_c (by omega) (notS_c (by omega) (notS_c (by omega) notS_n))))))))).trans (hs133.2.2.1 _ _ (notS_c (by omega) (notS_c (by omega) (notS_c (by omega) notS_n)))))
              exact r_ri rfl (po_I hs150 ⟨by omega, by omega⟩ ⟨_, rfl, by omega, by omega, (by exact ⟨CV_f ht hz hs150 (notS_c (by omega) (notS_c (by omega) (notS_c (by omega) (notS_c (by omega) (notS_c (by omega) (notS_c (by omega) (notS_c (by omega) (notS_c (by omega) (notS_c (by omega) (notS_c (by omega) (notS_c (by omega) (notS_n)))))))))))) (notS_c (by omega) (notS_c (by omega) (notS_c (by omega) (notS_c (by omega) (notS_c (by omega) (notS_c (by omega) (notS_c (by omega) (notS_c (by omega) (notS_c (by omega) (notS_c (by omega) (notS_c (by omega) (notS_n)))))))))))) (notS_c (by omega) (notS_c (by omega) (notS_c (by omega) (notS_c (by omega) (notS_c (by omega) (notS_c (by omega) (notS_c (by omega) (notS_c (by omega) (notS_c (by omega) (notS_c (by omega) (notS_c (by omega) (notS_n)))))))))))) (notS_c (by omega) (notS_c (by omega) (notS_c (by omega) (notS_c (by omega) (notS_c (by omega) (notS_c (by omega) (notS_c (by omega) (notS_c (by omega) (notS_c (by omega) (notS_c (by omega) (notS_c (by omega) (notS_n)))))))))))) (notS_c (by omega) (notS_c (by omega) (notS_c (by omega) (notS_c (by omega) (notS_c (by omega) (notS_c (by omega) (notS_c (by omega) (notS_c (by omega) (notS_c (by omega) (notS_c (by omega) (notS_c (by omega) (notS_n)))))))))))) (fun i => (notS_c (by omega) (notS_c (by omega) (notS_c (by omega) (notS_c (by omega) (notS_c (by omega) (notS_c (by omega) (notS_c (by omega) (notS_c (by omega) (notS_c (by omega) (notS_c (by omega) (notS_c (by omega) (notS_n))))))))))))) (fun i => (notS_c (by omega) (notS_c (by omega) (notS_c (by omega) (notS_c (by omega) (notS_c (by omega) (notS_c (by omega) (notS_c (by omega) (notS_c (by omega) (notS_c (by omega) (notS_c (by omega) (notS_c (by omega) (notS_n))))))))))))) (fun i => (notS_c (by omega) (notS_c (by omega) (notS_c (by omega) (notS_c (by omega) (notS_c (by omega) (notS_c (by omega) (notS_c (by omega) (notS_c (by omega) (notS_c (by omega) (notS_c (by omega) (notS_c (by omega) (notS_n))))))))))))) (fun a h1 h2 i => (notS_c (by omega) (notS_c (by omega) (notS_c (by omega) (notS_c (by omega) (notS_c (by omega) (notS_c (by omega) (notS_c (by omega) (notS_c (by omega) (notS_c (by omega) (notS_c (by omega) (notS_c (by omega) (notS_n))))))))))))) (notS_c (by omega) (notS_c (by omega) (notS_c (by omega) (notS_c (by omega) (notS_c (by omega) (notS_c (by omega) (notS_c (by omega) (notS_c (by omega) (notS_c (by omega) (notS_c (by omega) (notS_c (by omega) (notS_n)))))))))))) (notS_c (by omega) (notS_c (by omega) (notS_c (by omega) (notS_c (by omega) (notS_c (by omega) (notS_c (by omega) (notS_c (by omega) (notS_c (by omega) (notS_c (by omega) (notS_c (by omega) (notS_c (by omega) (notS_n)))))))))))) (notS_c (by omega) (notS_c (by omega) (notS_c (by omega) (notS_c (by omega) (notS_c (by omega) (notS_c (by omega) (notS_c (by omega) (notS_c (by omega) (notS_c (by omega) (notS_c (by omega) (notS_c (by omega) (notS_n)))))))))))) (fun a h1 h2 i => (notS_c (by omega) (notS_c (by omega) (notS_c (by omega) (notS_c (by omega) (notS_c (by omega) (notS_c (by omega) (notS_c (by omega) (notS_c (by omega) (notS_c (by omega) (notS_c (by omega) (notS_c (by omega) (notS_n))))))))))))) (fun a h1 h2 i => (notS_c (by omega) (notS_c (by omega) (notS_c (by omega) (notS_c (by omega) (notS_c (by omega) (notS_c (by omega) (notS_c (by omega) (notS_c (by omega) (notS_c (by omega) (notS_c (by omega) (notS_c (by omega) (notS_n))))))))))))) hcv, (fun hq => GA_f ht hz hs150 (notS_c (by omega) (notS_c (by omega) (notS_c (by omega) (notS_c (by omega) (notS_c (by omega) (notS_c (by omega) (notS_c (by omega) (notS_c (by omega) (notS_c (by omega) (notS_c (by omega) (notS_c (by omega) (notS_n)))))))))))) (notS_c (by omega) (notS_c (by omega) (notS_c (by omega) (notS_c (by omega) (notS_c (by omega) (notS_c (by omega) (notS_c (by omega) (notS_c (by omega) (notS_c (by omega) (notS_c (by omega) (notS_c (by omega) (notS_n)))))))))))) (fun i => (notS_c (by omega) (notS_c (by omega) (notS_c (by omega) (notS_c (by omega) (notS_c (by omega) (notS_c (by omega) (notS_c (by omega) (notS_c (by omega) (notS_c (by omega) (notS_c (by omega) (notS_c (by omega) (notS_n))))))))))))) (fun a h1 h2 i => (notS_c (by omega) (notS_c (by omega) (notS_c (by omega) (notS_c (by omega) (notS_c (by omega) (notS_c (by omega) (notS_c (by omega) (notS_c (by omega) (notS_c (by omega) (notS_c (by omega) (notS_c (by omega) (notS_n))))))))))))) hq), hs150.2.2.1 _ _ (notS_c (by omega) (notS_c (by omega) (notS_c (by omega) (notS_c (by omega) (notS_c (by omega) (notS_c (by omega) (notS_c (by omega) (notS_c (by omega) (notS_c (by omega) (notS_c (by omega) (notS_c (by omega) (notS_n))))))))))))⟩)⟩)
          · skip
            refine r_ld (pc' := 51) rfl rfl rfl rfl ?_
            refine r_gr (b := 4) (pc' := 54) rfl rfl sh_1 rfl pp_1_2 ?_
            have hb170 := rd_4_0 hs150.1
            refine r_gi (pc' := 57) rfl rfl sh_4 rfl rfl ?_
            have hb171 := rd_1_15 hz
            have hf172 : z144 1 15 = z0 1 15 := ((hs148.2.2.1 _ _ (notS_c (by omega) (notS_c (by omega) (notS_c (by omega) (notS_c (by omega) (notS_c (by omega) (notS_c (by omega) (notS_c (by omega) (notS_c (by omega) notS_n))))))))).trans (hs133.2.2.1 _ _ (notS_c (by omega) (notS_c (by omega) (notS_c (by omega) notS_n)))))
            exact r_ri rfl (po_I hs150 ⟨by omega, by omega⟩ ⟨_, rfl, by omega, by omega, (by exact ⟨CV_f ht hz hs150 (notS_c (by omega) (notS_c (by omega) (notS_c (by omega) (notS_c (by omega) (notS_c (by omega) (notS_c (by omega) (notS_c (by omega) (notS_c (by omega) (notS_c (by omega) (notS_c (by omega) (notS_c (by omega) (notS_n)))))))))))) (notS_c (by omega) (notS_c (by omega) (notS_c (by omega) (notS_c (by omega) (notS_c (by omega) (notS_c (by omega) (notS_c (by omega) (notS_c (by omega) (notS_c (by omega) (notS_c (by omega) (notS_c (by omega) (notS_n)))))))))))) (notS_c (by omega) (notS_c (by omega) (notS_c (by omega) (notS_c (by omega) (notS_c (by omega) (notS_c (by omega) (notS_c (by omega) (notS_c (by omega) (notS_c (by omega) (notS_c (by omega) (notS_c (by omega) (notS_n)))))))))))) (notS_c (by omega) (notS_c (by omega) (notS_c (by omega) (notS_c (by omega) (notS_c (by omega) (notS_c (by omega) (notS_c (by omega) (notS_c (by omega) (notS_c (by omega) (notS_c (by omega) (notS_c (by omega) (notS_n)))))))))))) (notS_c (by omega) (notS_c (by omega) (notS_c (by omega) (notS_c (by omega) (notS_c (by omega) (notS_c (by omega) (notS_c (by omega) (notS_c (by omega) (notS_c (by omega) (notS_c (by omega) (notS_c (by omega) (notS_n)))))))))))) (fun i => (notS_c (by omega) (notS_c (by omega) (notS_c (by omega) (notS_c (by omega) (notS_c (by omega) (notS_c (by omega) (notS_c (by omega) (notS_c (by omega) (notS_c (by omega) (notS_c (by omega) (notS_c (by omega) (notS_n))))))))))))) (fun i => (notS_c (by omega) (notS_c (by omega) (notS_c (by omega) (notS_c (by omega) (notS_c (by omega) (notS_c (by omega) (notS_c (by omega) (notS_c (by omega) (notS_c (by omega) (notS_c (by omega) (notS_c (by omega) (notS_n))))))))))))) (fun i => (notS_c (by omega) (notS_c (by omega) (notS_c (by omega) (notS_c (by omega) (notS_c (by omega) (notS_c (by omega) (notS_c (by omega) (notS_c (by omega) (notS_c (by omega) (notS_c (by omega) (notS_c (by omega) (notS_n))))))))))))) (fun a h1 h2 i => (notS_c (by omega) (notS_c (by omega) (notS_c (by omega) (notS_c (by omega) (notS_c (by omega) (notS_c (by omega) (notS_c (by omega) (notS_c (by omega) (notS_c (by omega) (notS_c (by omega) (notS_c (by omega) (notS_n))))))))))))) (notS_c (by omega) (notS_c (by omega) (notS_c (by omega) (notS_c (by omega) (notS_c (by omega) (notS_c (by omega) (notS_c (by omega) (notS_c (by omega) (notS_c (by omega) (notS_c (by omega) (notS_c (by omega) (notS_n)))))))))))) (notS_c (by omega) (notS_c (by omega) (notS_c (by omega) (notS_c (by omega) (notS_c (by omega) (notS_c (by omega) (notS_c (by omega) (notS_c (by omega) (notS_c (by omega) (notS_c (by omega) (notS_c (by omega) (notS_n)))))))))))) (notS_c (by omega) (notS_c (by omega) (notS_c (by omega) (notS_c (by omega) (notS_c (by omega) (notS_c (by omega) (notS_c (by omega) (notS_c (by omega) (notS_c (by omega) (notS_c (by omega) (notS_c (by omega) (notS_n)))))))))))) (fun a h1 h2 i => (notS_c (by omega) (notS_c (by omega) (notS_c (by omega) (notS_c (by omega) (notS_c (by omega) (notS_c (by omega) (notS_c (by omega) (notS_c (by omega) (notS_c (by omega) (notS_c (by omega) (notS_c (by omega) (notS_n))))))))))))) (fun a h1 h2 i => (notS_c (by omega) (notS_c (by omega) (notS_c (by omega) (notS_c (by omega) (notS_c (by omega) (notS_c (by omega) (notS_c (by omega) (notS_c (by omega) (notS_c (by omega) (notS_c (by omega) (notS_c (by omega) (notS_n))))))))))))) hcv, (fun hq => GA_f ht hz hs150 (notS_c (by omega) (notS_c (by omega) (notS_c (by omega) (notS_c (by omega) (notS_c (by omega) (notS_c (by omega) (notS_c (by omega) (notS_c (by omega) (notS_c (by omega) (notS_c (by omega) (notS_c (by omega) (notS_n)))))))))))) (notS_c (by omega) (notS_c (by omega) (notS_c (by omega) (notS_c (by omega) (notS_c (by omega) (notS_c (by omega) (notS_c (by omega) (notS_c (by omega) (notS_c (by omega) (notS_c (by omega) (notS_c (by omega) (notS_n)))))))))))) (fun i => (notS_c (by omega) (notS_c (by omega) (notS_c (by omega) (notS_c (by omega) (notS_c (by omega) (notS_c (by omega) (notS_c (by omega) (notS_c (by omega) (notS_c (by omega) (notS_c (by omega) (notS_c (by omega) (notS_n))))))))))))) (fun a h1 h2 i => (notS_c (by omega) (notS_c (by omega) (notS_c (by omega) (notS_c (by omega) (notS_c (by omega) (notS_c (by omega) (notS_c (by omega) (notS_c (by omega) (notS_c (by omega) (notS_c (by omega) (notS_c (by omega) (notS_n))))))))))))) hq), hs150.2.2.1 _ _ (notS_c (by omega) (notS_c (by omega) (notS_c (by omega) (notS_c (by omega) (notS_c (by omega) (notS_c (by omega) (notS_c (by omega) (notS_c (by omega) (notS_c (by omega) (notS_c (by omega) (notS_c (by omega) (notS_n))))))))))))⟩)⟩)
        · skip
          refine r_cb (pc' := 38) rfl (by decide) rfl ?_
          have hb173 := rd_1_15 hz
          have hf174 : z129 1 15 = z0 1 15 := (hs133.2.2.1 _ _ (notS_c (by omega) (notS_c (by omega) (notS_c (by omega) notS_n))))
          exact r_ri rfl (po_I hs135 ⟨by decide, by decide⟩ ⟨_, rfl, by omega, by omega, (by exact ⟨CV_f ht hz hs135 (notS_c (by omega) (notS_c (by omega) (notS_c (by omega) (notS_c (by omega) (notS_c (by omega) (notS_c (by omega) (notS_c (by omega) (notS_c (by omega) (notS_c (by omega) (notS_c (by omega) (notS_c (by omega) (notS_n)))))))))))) (notS_c (by omega) (notS_c (by omega) (notS_c (by omega) (notS_c (by omega) (notS_c (by omega) (notS_c (by omega) (notS_c (by omega) (notS_c (by omega) (notS_c (by omega) (notS_c (by omega) (notS_c (by omega) (notS_n)))))))))))) (notS_c (by omega) (notS_c (by omega) (notS_c (by omega) (notS_c (by omega) (notS_c (by omega) (notS_c (by omega) (notS_c (by omega) (notS_c (by omega) (notS_c (by omega) (notS_c (by omega) (notS_c (by omega) (notS_n)))))))))))) (notS_c (by omega) (notS_c (by omega) (notS_c (by omega) (notS_c (by omega) (notS_c (by omega) (notS_c (by omega) (notS_c (by omega) (notS_c (by omega) (notS_c (by omega) (notS_c (by omega) (notS_c (by omega) (notS_n)))))))))))) (notS_c (by omega) (notS_c (by omega) (notS_c (by omega) (notS_c (by omega) (notS_c (by omega) (notS_c (by omega) (notS_c (by omega) (notS_c (by omega) (notS_c (by omega) (notS_c (by omega) (notS_c (by omega) (notS_n)))))))))))) (fun i => (notS_c (by omega) (notS_c (by omega) (notS_c (by omega) (notS_c (by omega) (notS_c (by omega) (notS_c (by omega) (notS_c (by omega) (notS_c (by omega) (notS_c (by omega) (notS_c (by omega) (notS_c (by omega) (notS_n))))))))))))) (fun i => (notS_c (by omega) (notS_c (by omega) (notS_c (by omega) (notS_c (by omega) (notS_c (by omega) (notS_c (by omega) (notS_c (by omega) (notS_c (by omega) (notS_c (by omega) (notS_c (by omega) (notS_c (by omega) (notS_n))))))))))))) (fun i => (notS_c (by omega) (notS_c (by omega) (notS_c (by omega) (notS_c (by omega) (notS_c (by omega) (notS_c (by omega) (notS_c (by omega) (notS_c (by omega) (notS_c (by omega) (notS_c (by omega) (notS_c (by omega) (notS_n))))))))))))) (fun a h1 h2 i => (notS_c (by omega) (notS_c (by omega) (notS_c (by omega) (notS_c (by omega) (notS_c (by omega) (notS_c (by omega) (notS_c (by omega) (notS_c (by omega) (notS_c (by omega) (notS_c (by omega) (notS_c (by omega) (notS_n))))))))))))) (notS_c (by omega) (notS_c (by omega) (notS_c (by omega) (notS_c (by omega) (notS_c (by omega) (notS_c (by omega) (notS_c (by omega) (notS_c (by omega) (notS_c (by omega) (notS_c (by omega) (notS_c (by omega) (notS_n)))))))))))) (notS_c (by omega) (notS_c (by omega) (notS_c (by omega) (notS_c (by omega) (notS_c (by omega) (notS_c (by omega) (notS_c (by omega) (notS_c (by omega) (notS_c (by omega) (notS_c (by omega) (notS_c (by omega) (notS_n)))))))))))) (notS_c (by omega) (notS_c (by omega) (notS_c (by omega) (notS_c (by omega) (notS_c (by omega) (notS_c (by omega) (notS_c (by omega) (notS_c (by omega) (notS_c (by omega) (notS_c (by omega) (notS_c (by omega) (notS_n)))))))))))) (fun a h1 h2 i => (notS_c (by omega) (notS_c (by omega) (notS_c (by omega) (notS_c (by omega) (notS_c (by omega) (notS_c (by omega) (notS_c (by omega) (notS_c (by omega) (notS_c (by omega) (notS_c (by omega) (notS_c (by omega) (notS_n))))))))))))) (fun a h1 h2 i => (notS_c (by omega) (notS_c (by omega) (notS_c (by omega) (notS_c (by omega) (notS_c (by omega) (notS_c (by omega) (notS_c (by omega) (notS_c (by omega) (notS_c (by omega) (notS_c (by omega) (notS_c (by omega) (notS_n))))))))))))) hcv, (fun hq => GA_f ht hz hs135 (notS_c (by omega) (notS_c (by omega) (notS_c (by omega) (notS_c (by omega) (notS_c (by omega) (notS_c (by omega) (notS_c (by omega) (notS_c (by omega) (notS_c (by omega) (notS_c (by omega) (notS_c (by omega) (notS_n)))))))))))) (notS_c (by omega) (notS_c (by omega) (notS_c (by omega) (notS_c (by omega) (notS_c (by omega) (notS_c (by omega) (notS_c (by omega) (notS_c (by omega) (notS_c (by omega) (notS_c (by omega) (notS_c (by omega) (notS_n)))))))))))) (fun i => (notS_c (by omega) (notS_c (by omega) (notS_c (by omega) (notS_c (by omega) (notS_c (by omega) (notS_c (by omega) (notS_c (by omega) (notS_c (by omega) (notS_c (by omega) (notS_c (by omega) (notS_c (by omega) (notS_n))))))))))))) (fun a h1 h2 i => (notS_c (by omega) (notS_c (by omega) (notS_c (by omega) (notS_c (by omega) (notS_c (by omega) (notS_c (by omega) (notS_c (by omega) (notS_c (by omega) (notS_c (by omega) (notS_c (by omega) (notS_c (by omega) (notS_n))))))))))))) hq), hs135.2.2.1 _ _ (notS_c (by omega) (notS_c (by omega) (notS_c (by omega) (notS_c (by omega) (notS_c (by omega) (notS_c (by omega) (notS_c (by omega) (notS_c (by omega) (notS_c (by omega) (notS_c (by omega) (notS_c (by omega) (notS_n))))))))))))⟩)⟩)
      · skip
        refine r_c0 (pc' := 20) rfl rfl ?_
        have hb175 := rd_1_15 hz
        exact r_ri rfl (po_I hst ⟨by decide, by decide⟩ ⟨_, rfl, by omega, by omega, (by exact ⟨CV_f ht hz hst (notS_c (by omega) (notS_c (by omega) (notS_c (by omega) (notS_c (by omega) (notS_c (by omega) (notS_c (by omega) (notS_c (by omega) (notS_c (by omega) (notS_c (by omega) (notS_c (by omega) (notS_c (by omega) (notS_n)))))))))))) (notS_c (by omega) (notS_c (by omega) (notS_c (by omega) (notS_c (by omega) (notS_c (by omega) (notS_c (by omega) (notS_c (by omega) (notS_c (by omega) (notS_c (by omega) (notS_c (by omega) (notS_c (by omega) (notS_n)))))))))))) (notS_c (by omega) (notS_c (by omega) (notS_c (by omega) (notS_c (by omega) (notS_c (by omega) (notS_c (by omega) (notS_c (by omega) (notS_c (by omega) (notS_c (by omega) (notS_c (by omega) (notS_c (by omega) (notS_n)))))))))))) (notS_c (by omega) (notS_c (by omega) (notS_c (by omega) (notS_c (by omega) (notS_c (by omega) (notS_c (by omega) (notS_c (by omega) (notS_c (by omega) (notS_c (by omega) (notS_c (by omega) (notS_c (by omega) (notS_n)))))))))))) (notS_c (by omega) (notS_c (by omega) (notS_c (by omega) (notS_c (by omega) (notS_c (by omega) (notS_c (by omega) (notS_c (by omega) (notS_c (by omega) (notS_c (by omega) (notS_c (by omega) (notS_c (by omega) (notS_n)))))))))))) (fun i => (notS_c (by omega) (notS_c (by omega) (notS_c (by omega) (notS_c (by omega) (notS_c (by omega) (notS_c (by omega) (notS_c (by omega) (notS_c (by omega) (notS_c (by omega) (notS_c (by omega) (notS_c (by omega) (notS_n))))))))))))) (fun i => (notS_c (by omega) (notS_c (by omega) (notS_c (by omega) (notS_c (by omega) (notS_c (by omega) (notS_c (by omega) (notS_c (by omega) (notS_c (by omega) (notS_c (by omega) (notS_c (by omega) (notS_c (by omega) (notS_n))))))))))))) (fun i => (notS_c (by omega) (notS_c (by omega) (notS_c (by omega) (notS_c (by omega) (notS_c (by omega) (notS_c (by omega) (notS_c (by omega) (notS_c (by omega) (notS_c (by omega) (notS_c (by omega) (notS_c (by omega) (notS_n))))))))))))) (fun a h1 h2 i => (notS_c (by omega) (notS_c (by omega) (notS_c (by omega) (notS_c (by omega) (notS_c (by omega) (notS_c (by omega) (notS_c (by omega) (notS_c (by omega) (notS_c (by omega) (notS_c (by omega) (notS_c (by omega) (notS_n))))))))))))) (notS_c (by omega) (notS_c (by omega) (notS_c (by omega) (notS_c (by omega) (notS_c (by omega) (notS_c (by omega) (notS_c (by omega) (notS_c (by omega) (notS_c (by omega) (notS_c (by omega) (notS_c (by omega) (notS_n)))))))))))) (notS_c (by omega) (notS_c (by omega) (notS_c (by omega) (notS_c (by omega) (notS_c (by omega) (notS_c (by omega) (notS_c (by omega) (notS_c (by omega) (notS_c (by omega) (notS_c (by omega) (notS_c (by omega) (notS_n)))))))))))) (notS_c (by omega) (notS_c (by omega) (notS_c (by omega) (notS_c (by omega) (notS_c (by omega) (notS_c (by omega) (notS_c (by omega) (notS_c (by omega) (notS_c (by omega) (notS_c (by omega) (notS_c (by omega) (notS_n)))))))))))) (fun a h1 h2 i => (notS_c (by omega) (notS_c (by omega) (notS_c (by omega) (notS_c (by omega) (notS_c (by omega) (notS_c (by omega) (notS_c (by omega) (notS_c (by omega) (notS_c (by omega) (notS_c (by omega) (notS_c (by omega) (notS_n))))))))))))) (fun a h1 h2 i => (notS_c (by omega) (notS_c (by omega) (notS_c (by omega) (notS_c (by omega) (notS_c (by omega) (notS_c (by omega) (notS_c (by omega) (notS_c (by omega) (notS_c (by omega) (notS_c (by omega) (notS_c (by omega) (notS_n))))))))))))) hcv, (fun hq => GA_f ht hz hst (notS_c (by omega) (notS_c (by omega) (notS_c (by omega) (notS_c (by omega) (notS_c (by omega) (notS_c (by omega) (notS_c (by omega) (notS_c (by omega) (notS_c (by omega) (notS_c (by omega) (notS_c (by omega) (notS_n)))))))))))) (notS_c (by omega) (notS_c (by omega) (notS_c (by omega) (notS_c (by omega) (notS_c (by omega) (notS_c (by omega) (notS_c (by omega) (notS_c (by omega) (notS_c (by omega) (notS_c (by omega) (notS_c (by omega) (notS_n)))))))))))) (fun i => (notS_c (by omega) (notS_c (by omega) (notS_c (by omega) (notS_c (by omega) (notS_c (by omega) (notS_c (by omega) (notS_c (by omega) (notS_c (by omega) (notS_c (by omega) (notS_c (by omega) (notS_c (by omega) (notS_n))))))))))))) (fun a h1 h2 i => (notS_c (by omega) (notS_c (by omega) (notS_c (by omega) (notS_c (by omega) (notS_c (by omega) (notS_c (by omega) (notS_c (by omega) (notS_c (by omega) (notS_c (by omega) (notS_c (by omega) (notS_c (by omega) (notS_n))))))))))))) hq), hst.2.2.1 _ _ (notS_c (by omega) (notS_c (by omega) (notS_c (by omega) (notS_c (by omega) (notS_c (by omega) (notS_c (by omega) (notS_c (by omega) (notS_c (by omega) (notS_c (by omega) (notS_c (by omega) (notS_c (by omega) (notS_n))))))))))))⟩)⟩)
  · skip
    refine r_st (pc' := 6) (lv' := [(3, _), (0, _), (1, _), (2, _)]) rfl rfl rfl rfl ?_
    refine r_ld (pc' := 7) rfl rfl rfl rfl ?_
    refine r_nul_f (pc' := 10) rfl rfl ?_
    refine r_ld (pc' := 11) rfl rfl rfl rfl ?_
    refine r_zlt (pc' := 14) rfl rfl ⟨by omega, by omega⟩ (fun hc176 => ?_) (fun hc176 => ?_)
    · skip
      refine r_c0 (pc' := 20) rfl rfl ?_
      have hb177 := rd_1_15 hz
      exact r_ri rfl (po_I hst ⟨by decide, by decide⟩ ⟨_, rfl, by omega, by omega, (by exact ⟨CV_f ht hz hst (notS_c (by omega) (notS_c (by omega) (notS_c (by omega) (notS_c (by omega) (notS_c (by omega) (notS_c (by omega) (notS_c (by omega) (notS_c (by omega) (notS_c (by omega) (notS_c (by omega) (notS_c (by omega) (notS_n)))))))))))) (notS_c (by omega) (notS_c (by omega) (notS_c (by omega) (notS_c (by omega) (notS_c (by omega) (notS_c (by omega) (notS_c (by omega) (notS_c (by omega) (notS_c (by omega) (notS_c (by omega) (notS_c (by omega) (notS_n)))))))))))) (notS_c (by omega) (notS_c (by omega) (notS_c (by omega) (notS_c (by omega) (notS_c (by omega) (notS_c (by omega) (notS_c (by omega) (notS_c (by omega) (notS_c (by omega) (notS_c (by omega) (notS_c (by omega) (notS_n)))))))))))) (notS_c (by omega) (notS_c (by omega) (notS_c (by omega) (notS_c (by omega) (notS_c (by omega) (notS_c (by omega) (notS_c (by omega) (notS_c (by omega) (notS_c (by omega) (notS_c (by omega) (notS_c (by omega) (notS_n)))))))))))) (notS_c (by omega) (notS_c (by omega) (notS_c (by omega) (notS_c (by omega) (notS_c (by omega) (notS_c (by omega) (notS_c (by omega) (notS_c (by omega) (notS_c (by omega) (notS_c (by omega) (notS_c (by omega) (notS_n)))))))))))) (fun i => (notS_c (by omega) (notS_c (by omega) (notS_c (by omega) (notS_c (by omega) (notS_c (by omega) (notS_c (by omega) (notS_c (by omega) (notS_c (by omega) (notS_c (by omega) (notS_c (by omega) (notS_c (by omega) (notS_n))))))))))))) (fun i => (notS_c (by omega) (notS_c (by omega) (notS_c (by omega) (notS_c (by omega) (notS_c (by omega) (notS_c (by omega) (notS_c (by omega) (notS_c (by omega) (notS_c (by omega) (notS_c (by omega) (notS_c (by omega) (notS_n))))))))))))) (fun i => (notS_c (by omega) (notS_c (by omega) (notS_c (by omega) (notS_c (by omega) (notS_c (by omega) (notS_c (by omega) (notS_c (by omega) (notS_c (by omega) (notS_c (by omega) (notS_c (by omega) (notS_c (by omega) (notS_n))))))))))))) (fun a h1 h2 i => (notS_c (by omega) (notS_c (by omega) (notS_c (by omega) (notS_c (by omega) (notS_c (by omega) (notS_c (by omega) (notS_c (by omega) (notS_c (by omega) (notS_c (by omega) (notS_c (by omega) (notS_c (by omega) (notS_n))))))))))))) (notS_c (by omega) (notS_c (by omega) (notS_c (by omega) (notS_c (by omega) (notS_c (by omega) (notS_c (by omega) (notS_c (by omega) (notS_c (by omega) (notS_c (by omega) (notS_c (by omega) (notS_c (by omega) (notS_n)))))))))))) (notS_c (by omega) (notS_c (by omega) (notS_c (by omega) (notS_c (by omega) (notS_c (by omega) (notS_c (by omega) (notS_c (by omega) (notS_c (by omega) (notS_c (by omega) (notS_c (by omega) (notS_c (by omega) (notS_n)))))))))))) (notS_c (by omega) (notS_c (by omega) (notS_c (by omega) (notS_c (by omega) (notS_c (by omega) (notS_c (by omega) (notS_c (by omega) (notS_c (by omega) (notS_c (by omega) (notS_c (by omega) (notS_c (by omega) (notS_n)))))))))))) (fun a h1 h2 i => (notS_c (by omega) (notS_c (by omega) (notS_c (by omega) (notS_c (by omega) (notS_c (by omega) (notS_c (by omega) (notS_c (by omega) (notS_c (by omega) (notS_c (by omega) (notS_c (by omega) (notS_c (by omega) (notS_n))))))))))))) (fun a h1 h2 i => (notS_c (by omega) (notS_c (by omega) (notS_c (by omega) (notS_c (by omega) (notS_c (by omega) (notS_c (by omega) (notS_c (by omega) (notS_c (by omega) (notS_c (by omega) (notS_c (by omega) (notS_c (by omega) (notS_n))))))))))))) hcv, (fun hq => GA_f ht hz hst (notS_c (by omega) (notS_c (by omega) (notS_c (by omega) (notS_c (by omega) (notS_c (by omega) (notS_c (by omega) (notS_c (by omega) (notS_c (by omega) (notS_c (by omega) (notS_c (by omega) (notS_c (by omega) (notS_n)))))))))))) (notS_c (by omega) (notS_c (by omega) (notS_c (by omega) (notS_c (by omega) (notS_c (by omega) (notS_c (by omega) (notS_c (by omega) (notS_c (by omega) (notS_c (by omega) (notS_c (by omega) (notS_c (by omega) (notS_n)))))))))))) (fun i => (notS_c (by omega) (notS_c (by omega) (notS_c (by omega) (notS_c (by omega) (notS_c (by omega) (notS_c (by omega) (notS_c (by omega) (notS_c (by omega) (notS_c (by omega) (notS_c (by omega) (notS_c (by omega) (notS_n))))))))))))) (fun a h1 h2 i => (notS_c (by omega) (notS_c (by omega) (notS_c (by omega) (notS_c (by omega) (notS_c (by omega) (notS_c (by omega) (notS_c (by omega) (notS_c (by omega) (notS_c (by omega) (notS_c (by omega) (notS_c (by omega) (notS_n))))))))))))) hq), hst.2.2.1 _ _ (notS_c (by omega) (notS_c (by omega) (notS_c (by omega) (notS_c (by omega) (notS_c (by omega) (notS_c (by omega) (notS_c (by omega) (notS_c (by omega) (notS_c (by omega) (notS_c (by omega) (notS_c (by omega) (notS_n))))))))))))⟩)⟩)
    · skip
      refine r_ld (pc' := 15) rfl rfl rfl rfl ?_
      refine r_c0 (pc' := 16) rfl rfl ?_
      refine r_ile (pc' := 19) rfl rfl ⟨by omega, by omega⟩ ⟨by decide, by decide⟩ (fun hc178 => ?_) (fun hc178 => ?_)
      · skip
        refine r_ld (pc' := 22) rfl rfl rfl rfl ?_
        refine r_gr (b := 4) (pc' := 25) rfl rfl sh_1 rfl pp_1_2 ?_
        refine r_ld (pc' := 26) rfl rfl rfl rfl ?_
        refine r_gr (b := t) (pc' := 29) rfl rfl sh_1 rfl pp_1_13 ?_
        refine r_ld (pc' := 30) rfl rfl rfl rfl ?_
        refine r_cVI (pc' := 33) rfl rfl rfl rfl rfl sh_4 (m_86 (d := d + 2) t (t + 8 + a1.toNat) hst.1 hst.2.1 ht (by exact hwt) (by first | exact AK_now hcv.2.2.1 (by omega) (by omega) | exact hcv.2.1 _ (by omega)) (lr_T8 ht (k := a1.toNat) (by omega) ) (by first | omega | assumption) (fun e he => by have q := rd_T8 ht (k := a1.toNat) (by omega) hst.2.1 (i := e) he; exact ⟨by omega, by omega⟩)) (fun v179 z180 w181 p182 h183 hs184 hE185 => ?_)
        have hs186 := st_tr hst hs184 (sub_B rfl)
        obtain ⟨rfl, hE185⟩ := hE185
        have hld := hE185.2.2
        refine r_zne (pc' := 36) rfl rfl ⟨by omega, by omega⟩ (fun hc187 => ?_) (fun hc187 => ?_)
        · skip
          refine r_ld (pc' := 40) rfl rfl rfl rfl ?_
          refine r_gr (b := 4) (pc' := 43) rfl rfl sh_1 rfl pp_1_2 ?_
          have hb188 := rd_T_0 ht hz
          have hf189 : z180 t 0 = z0 t 0 := (hs184.2.2.1 _ _ (notS_c (by omega) (notS_c (by omega) (notS_c (by omega) notS_n))))
          have hb190 := rd_T_1 ht hz
          have hf191 : z180 t 1 = z0 t 1 := (hs184.2.2.1 _ _ (notS_c (by omega) (notS_c (by omega) (notS_c (by omega) notS_n))))
          have hF192 : z180 (t + 1) = z0 (t + 1) := (funext fun _ => hs184.2.2.1 _ _ (notS_c (by omega) (notS_c (by omega) (notS_c (by omega) notS_n))))
          have hF193 : z180 (t + 5) = z0 (t + 5) := (funext fun _ => hs184.2.2.1 _ _ (notS_c (by omega) (notS_c (by omega) (notS_c (by omega) notS_n))))
          refine r_cVV (pc' := 46) rfl rfl rfl rfl rfl sh_4 (m_93 (d := d) t hs186.1 hs186.2.1 ht (by exact WTt_f hs186 (notS_c (by omega) (notS_c (by omega) (notS_c (by omega) (notS_c (by omega) (notS_c (by omega) (notS_c (by omega) (notS_c (by omega) (notS_c (by omega) (notS_c (by omega) (notS_c (by omega) (notS_c (by omega) (notS_n)))))))))))) (notS_c (by omega) (notS_c (by omega) (notS_c (by omega) (notS_c (by omega) (notS_c (by omega) (notS_c (by omega) (notS_c (by omega) (notS_c (by omega) (notS_c (by omega) (notS_c (by omega) (notS_c (by omega) (notS_n)))))))))))) (fun i => (notS_c (by omega) (notS_c (by omega) (notS_c (by omega) (notS_c (by omega) (notS_c (by omega) (notS_c (by omega) (notS_c (by omega) (notS_c (by omega) (notS_c (by omega) (notS_c (by omega) (notS_c (by omega) (notS_n))))))))))))) (fun i => (notS_c (by omega) (notS_c (by omega) (notS_c (by omega) (notS_c (by omega) (notS_c (by omega) (notS_c (by omega) (notS_c (by omega) (notS_c (by omega) (notS_c (by omega) (notS_c (by omega) (notS_c (by omega) (notS_n))))))))))))) (fun i => (notS_c (by omega) (notS_c (by omega) (notS_c (by omega) (notS_c (by omega) (notS_c (by omega) (notS_c (by omega) (notS_c (by omega) (notS_c (by omega) (notS_c (by omega) (notS_c (by omega) (notS_c (by omega) (notS_n))))))))))))) hwt) (by exact (hld (by omega)).1)) (fun z195 w196 p197 hs199 hE200 => ?_)
          have hs201 := st_tr hs186 hs199 (sub_B rfl)
          obtain ⟨rfl, hE200⟩ := hE200
          refine r_ld (pc' := 47) rfl rfl rfl rfl ?_
          refine r_zne (pc' := 50) rfl rfl ⟨by omega, by omega⟩ (fun hc202 => ?_) (fun hc202 => ?_)
          · skip
            refine r_ld (pc' := 59) rfl rfl rfl rfl ?_
            refine r_c0 (pc' := 60) rfl rfl ?_
            refine r_ine (pc' := 63) rfl rfl ⟨by omega, by omega⟩ ⟨by decide, by decide⟩ (fun hc203 => ?_) (fun hc203 => ?_)
            · skip
              refine r_ld (pc' := 72) rfl rfl rfl rfl ?_
              refine r_gr (b := 4) (pc' := 75) rfl rfl sh_1 rfl pp_1_2 ?_
              have hb204 := rd_4_0 hs201.1
              refine r_cVI (pc' := 78) rfl rfl rfl rfl rfl sh_4 (m_96v (d := d + 3)  hs201.1 hs201.2.1 ) (fun v205 z206 w207 p208 h209 hs210 hE211 => ?_)
              obtain ⟨rfl, rfl, rfl, hE211⟩ := hE211
              refine r_zeq (pc' := 81) rfl rfl ⟨by omega, by omega⟩ (fun hc213 => ?_) (fun hc213 => ?_)
              · skip
                refine r_c0 (pc' := 86) rfl rfl ?_
                have hb214 := rd_1_15 hz
                have hf215 : z195 1 15 = z0 1 15 := ((hs199.2.2.1 _ _ (notS_c (by omega) (notS_c (by omega) (notS_c (by omega) (notS_c (by omega) (notS_c (by omega) (notS_c (by omega) (notS_c (by omega) (notS_c (by omega) notS_n))))))))).trans (hs184.2.2.1 _ _ (notS_c (by omega) (notS_c (by omega) (notS_c (by omega) notS_n)))))
                exact r_ri rfl (po_I hs201 ⟨by decide, by decide⟩ ⟨_, rfl, by omega, by omega, (by exact ⟨CV_f ht hz hs201 (notS_c (by omega) (notS_c (by omega) (notS_c (by omega) (notS_c (by omega) (notS_c (by omega) (notS_c (by omega) (notS_c (by omega) (notS_c (by omega) (notS_c (by omega) (notS_c (by omega) (notS_c (by omega) (notS_n)))))))))))) (notS_c (by omega) (notS_c (by omega) (notS_c (by omega) (notS_c (by omega) (notS_c (by omega) (notS_c (by omega) (notS_c (by omega) (notS_c (by omega) (notS_c (by omega) (notS_c (by omega) (notS_c (by omega) (notS_n)))))))))))) (notS_c (by omega) (notS_c (by omega) (notS_c (by omega) (notS_c (by omega) (notS_c (by omega) (notS_c (by omega) (notS_c (by omega) (notS_c (by omega) (notS_c (by omega) (notS_c (by omega) (notS_c (by omega) (notS_n)))))))))))) (notS_c (by omega) (notS_c (by omega) (notS_c (by omega) (notS_c (by omega) (notS_c (by omega) (notS_c (by omega) (notS_c (by omega) (notS_c (by omega) (notS_c (by omega) (notS_c (by omega) (notS_c (by omega) (notS_n)))))))))))) (notS_c (by omega) (notS_c (by omega) (notS_c (by omega) (notS_c (by omega) (notS_c (by omega) (notS_c (by omega) (notS_c (by omega) (notS_c (by omega) (notS_c (by omega) (notS_c (by omega) (notS_c (by omega) (notS_n)))))))))))) (fun i => (notS_c (by omega) (notS_c (by omega) (notS_c (by omega) (notS_c (by omega) (notS_c (by omega) (notS_c (by omega) (notS_c (by omega) (notS_c (by omega) (notS_c (by omega) (notS_c (by omega) (notS_c (by omega) (notS_n))))))))))))) (fun i => (notS_c (by omega) (notS_c (by omega) (notS_c (by omega) (notS_c (by omega) (notS_c (by omega) (notS_c (by omega) (notS_c (by omega) (notS_c (by omega) (notS_c (by omega) (notS_c (by omega) (notS_c (by omega) (notS_n))))))))))))) (fun i => (notS_c (by omega) (notS_c (by omega) (notS_c (by omega) (notS_c (by omega) (notS_c (by omega) (notS_c (by omega) (notS_c (by omega) (notS_c (by omega) (notS_c (by omega) (notS_c (by omega) (notS_c (by omega) (notS_n))))))))))))) (fun a h1 h2 i => (notS_c (by omega) (notS_c (by omega) (notS_c (by omega) (notS_c (by omega) (notS_c (by omega) (notS_c (by omega) (notS_c (by omega) (notS_c (by omega) (notS_c (by omega) (notS_c (by omega) (notS_c (by omega) (notS_n))))))))))))) (notS_c (by omega) (notS_c (by omega) (notS_c (by omega) (notS_c (by omega) (notS_c (by omega) (notS_c (by omega) (notS_c (by omega) (notS_c (by omega) (notS_c (by omega) (notS_c (by omega) (notS_c (by omega) (notS_n)))))))))))) (notS_c (by omega) (notS_c (by omega) (notS_c (by omega) (notS_c (by omega) (notS_c (by omega) (notS_c (by omega) (notS_c (by omega) (notS_c (by omega) (notS_c (by omega) (notS_c (by omega) (notS_c (by omega) (notS_n)))))))))))) (notS_c (by omega) (notS_c (by omega) (notS_c (by omega) (notS_c (by omega) (notS_c (by omega) (notS_c (by omega) (notS_c (by omega) (notS_c (by omega) (notS_c (by omega) (notS_c (by omega) (notS_c (by omega) (notS_n)))))))))))) (fun a h1 h2 i => (notS_c (by omega) (notS_c (by omega) (notS_c (by omega) (notS_c (by omega) (notS_c (by omega) (notS_c (by omega) (notS_c (by omega) (notS_c (by omega) (notS_c (by omega) (notS_c (by omega) (notS_c (by omega) (notS_n))))))))))))) (fun a h1 h2 i => (notS_c (by omega) (notS_c (by omega) (notS_c (by omega) (notS_c (by omega) (notS_c (by omega) (notS_c (by omega) (notS_c (by omega) (notS_c (by omega) (notS_c (by omega) (notS_c (by omega) (notS_c (by omega) (notS_n))))))))))))) hcv, (fun hq => GA_f ht hz hs201 (notS_c (by omega) (notS_c (by omega) (notS_c (by omega) (notS_c (by omega) (notS_c (by omega) (notS_c (by omega) (notS_c (by omega) (notS_c (by omega) (notS_c (by omega) (notS_c (by omega) (notS_c (by omega) (notS_n)))))))))))) (notS_c (by omega) (notS_c (by omega) (notS_c (by omega) (notS_c (by omega) (notS_c (by omega) (notS_c (by omega) (notS_c (by omega) (notS_c (by omega) (notS_c (by omega) (notS_c (by omega) (notS_c (by omega) (notS_n)))))))))))) (fun i => (notS_c (by omega) (notS_c (by omega) (notS_c (by omega) (notS_c (by omega) (notS_c (by omega) (notS_c (by omega) (notS_c (by omega) (notS_c (by omega) (notS_c (by omega) (notS_c (by omega) (notS_c (by omega) (notS_n))))))))))))) (fun a h1 h2 i => (notS_c (by omega) (notS_c (by omega) (notS_c (by omega) (notS_c (by omega) (notS_c (by omega) (notS_c (by omega) (notS_c (by omega) (notS_c (by omega) (notS_c (by omega) (notS_c (by omega) (notS_c (by omega) (notS_n))))))))))))) hq), hs201.2.2.1 _ _ (notS_c (by omega) (notS_c (by omega) (notS_c (by omega) (notS_c (by omega) (notS_c (by omega) (notS_c (by omega) (notS_c (by omega) (notS_c (by omega) (notS_c (by omega) (notS_c (by omega) (notS_c (by omega) (notS_n))))))))))))⟩)⟩)
              · skip
                refine r_c0 (pc' := 82) rfl rfl ?_
                refine r_go rfl ?_
                have hb216 := rd_1_15 hz
                have hf217 : z195 1 15 = z0 1 15 := ((hs199.2.2.1 _ _ (notS_c (by omega) (notS_c (by omega) (notS_c (by omega) (notS_c (by omega) (notS_c (by omega) (notS_c (by omega) (notS_c (by omega) (notS_c (by omega) notS_n))))))))).trans (hs184.2.2.1 _ _ (notS_c (by omega) (notS_c (by omega) (notS_c (by omega) notS_n)))))
                exact r_ri rfl (po_I hs201 ⟨by decide, by decide⟩ ⟨_, rfl, by omega, by omega, (by exact ⟨CV_f ht hz hs201 (notS_c (by omega) (notS_c (by omega) (notS_c (by omega) (notS_c (by omega) (notS_c (by omega) (notS_c (by omega) (notS_c (by omega) (notS_c (by omega) (notS_c (by omega) (notS_c (by omega) (notS_c (by omega) (notS_n)))))))))))) (notS_c (by omega) (notS_c (by omega) (notS_c (by omega) (notS_c (by omega) (notS_c (by omega) (notS_c (by omega) (notS_c (by omega) (notS_c (by omega) (notS_c (by omega) (notS_c (by omega) (notS_c (by omega) (notS_n)))))))))))) (notS_c (by omega) (notS_c (by omega) (notS_c (by omega) (notS_c (by omega) (notS_c (by omega) (notS_c (by omega) (notS_c (by omega) (notS_c (by omega) (notS_c (by omega) (notS_c (by omega) (notS_c (by omega) (notS_n)))))))))))) (notS_c (by omega) (notS_c (by omega) (notS_c (by omega) (notS_c (by omega) (notS_c (by omega) (notS_c (by omega) (notS_c (by omega) (notS_c (by omega) (notS_c (by omega) (notS_c (by omega) (notS_c (by omega) (notS_n)))))))))))) (notS_c (by omega) (notS_c (by omega) (notS_c (by omega) (notS_c (by omega) (notS_c (by omega) (notS_c (by omega) (notS_c (by omega) (notS_c (by omega) (notS_c (by omega) (notS_c (by omega) (notS_c (by omega) (notS_n)))))))))))) (fun i => (notS_c (by omega) (notS_c (by omega) (notS_c (by omega) (notS_c (by omega) (notS_c (by omega) (notS_c (by omega) (notS_c (by omega) (notS_c (by omega) (notS_c (by omega) (notS_c (by omega) (notS_c (by omega) (notS_n))))))))))))) (fun i => (notS_c (by omega) (notS_c (by omega) (notS_c (by omega) (notS_c (by omega) (notS_c (by omega) (notS_c (by omega) (notS_c (by omega) (notS_c (by omega) (notS_c (by omega) (notS_c (by omega) (notS_c (by omega) (notS_n))))))))))))) (fun i => (notS_c (by omega) (notS_c (by omega) (notS_c (by omega) (notS_c (by omega) (notS_c (by omega) (notS_c (by omega) (notS_c (by omega) (notS_c (by omega) (notS_c (by omega) (notS_c (by omega) (notS_c (by omega) (notS_n))))))))))))) (fun a h1 h2 i => (notS_c (by omega) (notS_c (by omega) (notS_c (by omega) (notS_c (by omega) (notS_c (by omega) (notS_c (by omega) (notS_c (by omega) (notS_c (by omega) (notS_c (by omega) (notS_c (by omega) (notS_c (by omega) (notS_n))))))))))))) (notS_c (by omega) (notS_c (by omega) (notS_c (by omega) (notS_c (by omega) (notS_c (by omega) (notS_c (by omega) (notS_c (by omega) (notS_c (by omega) (notS_c (by omega) (notS_c (by omega) (notS_c (by omega) (notS_n)))))))))))) (notS_c (by omega) (notS_c (by omega) (notS_c (by omega) (notS_c (by omega) (notS_c (by omega) (notS_c (by omega) (notS_c (by omega) (notS_c (by omega) (notS_c (by omega) (notS_c (by omega) (notS_c (by omega) (notS_n)))))))))))) (notS_c (by omega) (notS_c (by omega) (notS_c (by omega) (notS_c (by omega) (notS_c (by omega) (notS_c (by omega) (notS_c (by omega) (notS_c (by omega) (notS_c (by omega) (notS_c (by omega) (notS_c (by omega) (notS_n)))))))))))) (fun a h1 h2 i => (notS_c (by omega) (notS_c (by omega) (notS_c (by omega) (notS_c (by omega) (notS_c (by omega) (notS_c (by omega) (notS_c (by omega) (notS_c (by omega) (notS_c (by omega) (notS_c (by omega) (notS_c (by omega) (notS_n))))))))))))) (fun a h1 h2 i => (notS_c (by omega) (notS_c (by omega) (notS_c (by omega) (notS_c (by omega) (notS_c (by omega) (notS_c (by omega) (notS_c (by omega) (notS_c (by omega) (notS_c (by omega) (notS_c (by omega) (notS_c (by omega) (notS_n))))))))))))) hcv, (fun hq => GA_f ht hz hs201 (notS_c (by omega) (notS_c (by omega) (notS_c (by omega) (notS_c (by omega) (notS_c (by omega) (notS_c (by omega) (notS_c (by omega) (notS_c (by omega) (notS_c (by omega) (notS_c (by omega) (notS_c (by omega) (notS_n)))))))))))) (notS_c (by omega) (notS_c (by omega) (notS_c (by omega) (notS_c (by omega) (notS_c (by omega) (notS_c (by omega) (notS_c (by omega) (notS_c (by omega) (notS_c (by omega) (notS_c (by omega) (notS_c (by omega) (notS_n)))))))))))) (fun i => (notS_c (by omega) (notS_c (by omega) (notS_c (by omega) (notS_c (by omega) (notS_c (by omega) (notS_c (by omega) (notS_c (by omega) (notS_c (by omega) (notS_c (by omega) (notS_c (by omega) (notS_c (by omega) (notS_n))))))))))))) (fun a h1 h2 i => (notS_c (by omega) (notS_c (by omega) (notS_c (by omega) (notS_c (by omega) (notS_c (by omega) (notS_c (by omega) (notS_c (by omega) (notS_c (by omega) (notS_c (by omega) (notS_c (by omega) (notS_c (by omega) (notS_n))))))))))))) hq), hs201.2.2.1 _ _ (notS_c (by omega) (notS_c (by omega) (notS_c (by omega) (notS_c (by omega) (notS_c (by omega) (notS_c (by omega) (notS_c (by omega) (notS_c (by omega) (notS_c (by omega) (notS_c (by omega) (notS_c (by omega) (notS_n))))))))))))⟩)⟩)
            · skip
              refine r_ld (pc' := 64) rfl rfl rfl rfl ?_
              refine r_gr (b := 4) (pc' := 67) rfl rfl sh_1 rfl pp_1_2 ?_
              have hb218 := rd_4_1 hs201.1
              refine r_gi (pc' := 70) rfl rfl sh_4 rfl rfl ?_
              have hb219 := rd_1_15 hz
              have hf220 : z195 1 15 = z0 1 15 := ((hs199.2.2.1 _ _ (notS_c (by omega) (notS_c (by omega) (notS_c (by omega) (notS_c (by omega) (notS_c (by omega) (notS_c (by omega) (notS_c (by omega) (notS_c (by omega) notS_n))))))))).trans (hs184.2.2.1 _ _ (notS_c (by omega) (notS_c (by omega) (notS_c (by omega) notS_n)))))
              exact r_ri rfl (po_I hs201 ⟨by omega, by omega⟩ ⟨_, rfl, by omega, by omega, (by exact ⟨CV_f ht hz hs201 (notS_c (by omega) (notS_c (by omega) (notS_c (by omega) (notS_c (by omega) (notS_c (by omega) (notS_c (by omega) (notS_c (by omega) (notS_c (by omega) (notS_c (by omega) (notS_c (by omega) (notS_c (by omega) (notS_n)))))))))))) (notS_c (by omega) (notS_c (by omega) (notS_c (by omega) (notS_c (by omega) (notS_c (by omega) (notS_c (by omega) (notS_c (by omega) (notS_c (by omega) (notS_c (by omega) (notS_c (by omega) (notS_c (by omega) (notS_n)))))))))))) (notS_c (by omega) (notS_c (by omega) (notS_c (by omega) (notS_c (by omega) (notS_c (by omega) (notS_c (by omega) (notS_c (by omega) (notS_c (by omega) (notS_c (by omega) (notS_c (by omega) (notS_c (by omega) (notS_n)))))))))))) (notS_c (by omega) (notS_c (by omega) (notS_c (by omega) (notS_c (by omega) (notS_c (by omega) (notS_c (by omega) (notS_c (by omega) (notS_c (by omega) (notS_c (by omega) (notS_c (by omega) (notS_c (by omega) (notS_n)))))))))))) (notS_c (by omega) (notS_c (by omega) (notS_c (by omega) (notS_c (by omega) (notS_c (by omega) (notS_c (by omega) (notS_c (by omega) (notS_c (by omega) (notS_c (by omega) (notS_c (by omega) (notS_c (by omega) (notS_n)))))))))))) (fun i => (notS_c (by omega) (notS_c (by omega) (notS_c (by omega) (notS_c (by omega) (notS_c (by omega) (notS_c (by omega) (notS_c (by omega) (notS_c (by omega) (notS_c (by omega) (notS_c (by omega) (notS_c (by omega) (notS_n))))))))))))) (fun i => (notS_c (by omega) (notS_c (by omega) (notS_c (by omega) (notS_c (by omega) (notS_c (by omega) (notS_c (by omega) (notS_c (by omega) (notS_c (by omega) (notS_c (by omega) (notS_c (by omega) (notS_c (by omega) (notS_n))))))))))))) (fun i => (notS_c (by omega) (notS_c (by omega) (notS_c (by omega) (notS_c (by omega) (notS_c (by omega) (notS_c (by omega) (notS_c (by omega) (notS_c (by omega) (notS_c (by omega) (notS_c (by omega) (notS_c (by omega) (notS_n))))))))))))) (fun a h1 h2 i => (notS_c (by omega) (notS_c (by omega) (notS_c (by omega) (notS_c (by omega) (notS_c (by omega) (notS_c (by omega) (notS_c (by omega) (notS_c (by omega) (notS_c (by omega) (notS_c (by omega) (notS_c (by omega) (notS_n))))))))))))) (notS_c (by omega) (notS_c (by omega) (notS_c (by omega) (notS_c (by omega) (notS_c (by omega) (notS_c (by omega) (notS_c (by omega) (notS_c (by omega) (notS_c (by omega) (notS_c (by omega) (notS_c (by omega) (notS_n)))))))))))) (notS_c (by omega) (notS_c (by omega) (notS_c (by omega) (notS_c (by omega) (notS_c (by omega) (notS_c (by omega) (notS_c (by omega) (notS_c (by omega) (notS_c (by omega) (notS_c (by omega) (notS_c (by omega) (notS_n)))))))))))) (notS_c (by omega) (notS_c (by omega) (notS_c (by omega) (notS_c (by omega) (notS_c (by omega) (notS_c (by omega) (notS_c (by omega) (notS_c (by omega) (notS_c (by omega) (notS_c (by omega) (notS_c (by omega) (notS_n)))))))))))) (fun a h1 h2 i => (notS_c (by omega) (notS_c (by omega) (notS_c (by omega) (notS_c (by omega) (notS_c (by omega) (notS_c (by omega) (notS_c (by omega) (notS_c (by omega) (notS_c (by omega) (notS_c (by omega) (notS_c (by omega) (notS_n))))))))))))) (fun a h1 h2 i => (notS_c (by omega) (notS_c (by omega) (notS_c (by omega) (notS_c (by omega) (notS_c (by omega) (notS_c (by omega) (notS_c (by omega) (notS_c (by omega) (notS_c (by omega) (notS_c (by omega) (notS_c (by omega) (notS_n))))))))))))) hcv, (fun hq => GA_f ht hz hs201 (notS_c (by omega) (notS_c (by omega) (notS_c (by omega) (notS_c (by omega) (notS_c (by omega) (notS_c (by omega) (notS_c (by omega) (notS_c (by omega) (notS_c (by omega) (notS_c (by omega) (notS_c (by omega) (notS_n)))))))))))) (notS_c (by omega) (notS_c (by omega) (notS_c (by omega) (notS_c (by omega) (notS_c (by omega) (notS_c (by omega) (notS_c (by omega) (notS_c (by omega) (notS_c (by omega) (notS_c (by omega) (notS_c (by omega) (notS_n)))))))))))) (fun i => (notS_c (by omega) (notS_c (by omega) (notS_c (by omega) (notS_c (by omega) (notS_c (by omega) (notS_c (by omega) (notS_c (by omega) (notS_c (by omega) (notS_c (by omega) (notS_c (by omega) (notS_c (by omega) (notS_n))))))))))))) (fun a h1 h2 i => (notS_c (by omega) (notS_c (by omega) (notS_c (by omega) (notS_c (by omega) (notS_c (by omega) (notS_c (by omega) (notS_c (by omega) (notS_c (by omega) (notS_c (by omega) (notS_c (by omega) (notS_c (by omega) (notS_n))))))))))))) hq), hs201.2.2.1 _ _ (notS_c (by omega) (notS_c (by omega) (notS_c (by omega) (notS_c (by omega) (notS_c (by omega) (notS_c (by omega) (notS_c (by omega) (notS_c (by omega) (notS_c (by omega) (notS_c (by omega) (notS_c (by omega) (notS_n))))))))))))⟩)⟩)
          · skip
            refine r_ld (pc' := 51) rfl rfl rfl rfl ?_
            refine r_gr (b := 4) (pc' := 54) rfl rfl sh_1 rfl pp_1_2 ?_
            have hb221 := rd_4_0 hs201.1
            refine r_gi (pc' := 57) rfl rfl sh_4 rfl rfl ?_
            have hb222 := rd_1_15 hz
            have hf223 : z195 1 15 = z0 1 15 := ((hs199.2.2.1 _ _ (notS_c (by omega) (notS_c (by omega) (notS_c (by omega) (notS_c (by omega) (notS_c (by omega) (notS_c (by omega) (notS_c (by omega) (notS_c (by omega) notS_n))))))))).trans (hs184.2.2.1 _ _ (notS_c (by omega) (notS_c (by omega) (notS_c (by omega) notS_n)))))
            exact r_ri rfl (po_I hs201 ⟨by omega, by omega⟩ ⟨_, rfl, by omega, by omega, (by exact ⟨CV_f ht hz hs201 (notS_c (by omega) (notS_c (by omega) (notS_c (by omega) (notS_c (by omega) (notS_c (by omega) (notS_c (by omega) (notS_c (by omega) (notS_c (by omega) (notS_c (by omega) (notS_c (by omega) (notS_c (by omega) (notS_n)))))))))))) (notS_c (by omega) (notS_c (by omega) (notS_c (by omega) (notS_c (by omega) (notS_c (by omega) (notS_c (by omega) (notS_c (by omega) (notS_c (by omega) (notS_c (by omega) (notS_c (by omega) (notS_c (by omega) (notS_n)))))))))))) (notS_c (by omega) (notS_c (by omega) (notS_c (by omega) (notS_c (by omega) (notS_c (by omega) (notS_c (by omega) (notS_c (by omega) (notS_c (by omega) (notS_c (by omega) (notS_c (by omega) (notS_c (by omega) (notS_n)))))))))))) (notS_c (by omega) (notS_c (by omega) (notS_c (by omega) (notS_c (by omega) (notS_c (by omega) (notS_c (by omega) (notS_c (by omega) (notS_c (by omega) (notS_c (by omega) (notS_c (by omega) (notS_c (by omega) (notS_n)))))))))))) (notS_c (by omega) (notS_c (by omega) (notS_c (by omega) (notS_c (by omega) (notS_c (by omega) (notS_c (by omega) (notS_c (by omega) (notS_c (by omega) (notS_c (by omega) (notS_c (by omega) (notS_c (by omega) (notS_n)))))))))))) (fun i => (notS_c (by omega) (notS_c (by omega) (notS_c (by omega) (notS_c (by omega) (notS_c (by omega) (notS_c (by omega) (notS_c (by omega) (notS_c (by omega) (notS_c (by omega) (notS_c (by omega) (notS_c (by omega) (notS_n))))))))))))) (fun i => (notS_c (by omega) (notS_c (by omega) (notS_c (by omega) (notS_c (by omega) (notS_c (by omega) (notS_c (by omega) (notS_c (by omega) (notS_c (by omega) (notS_c (by omega) (notS_c (by omega) (notS_c (by omega) (notS_n))))))))))))) (fun i => (notS_c (by omega) (notS_c (by omega) (notS_c (by omega) (notS_c (by omega) (notS_c (by omega) (notS_c (by omega) (notS_c (by omega) (notS_c (by omega) (notS_c (by omega) (notS_c (by omega) (notS_c (by omega) (notS_n))))))))))))) (fun a h1 h2 i => (notS_c (by omega) (notS_c (by omega) (notS_c (by omega) (notS_c (by omega) (notS_c (by omega) (notS_c (by omega) (notS_c (by omega) (notS_c (by omega) (notS_c (by omega) (notS_c (by omega) (notS_c (by omega) (notS_n))))))))))))) (notS_c (by omega) (notS_c (by omega) (notS_c (by omega) (notS_c (by omega) (notS_c (by omega) (notS_c (by omega) (notS_c (by omega) (notS_c (by omega) (notS_c (by omega) (notS_c (by omega) (notS_c (by omega) (notS_n)))))))))))) (notS_c (by omega) (notS_c (by omega) (notS_c (by omega) (notS_c (by omega) (notS_c (by omega) (notS_c (by omega) (notS_c (by omega) (notS_c (by omega) (notS_c (by omega) (notS_c (by omega) (notS_c (by omega) (notS_n)))))))))))) (notS_c (by omega) (notS_c (by omega) (notS_c (by omega) (notS_c (by omega) (notS_c (by omega) (notS_c (by omega) (notS_c (by omega) (notS_c (by omega) (notS_c (by omega) (notS_c (by omega) (notS_c (by omega) (notS_n)))))))))))) (fun a h1 h2 i => (notS_c (by omega) (notS_c (by omega) (notS_c (by omega) (notS_c (by omega) (notS_c (by omega) (notS_c (by omega) (notS_c (by omega) (notS_c (by omega) (notS_c (by omega) (notS_c (by omega) (notS_c (by omega) (notS_n))))))))))))) (fun a h1 h2 i => (notS_c (by omega) (notS_c (by omega) (notS_c (by omega) (notS_c (by omega) (notS_c (by omega) (notS_c (by omega) (notS_c (by omega) (notS_c (by omega) (notS_c (by omega) (notS_c (by omega) (notS_c (by omega) (notS_n))))))))))))) hcv, (fun hq => GA_f ht hz hs201 (notS_c (by omega) (notS_c (by omega) (notS_c (by omega) (notS_c (by omega) (notS_c (by omega) (notS_c (by omega) (notS_c (by omega) (notS_c (by omega) (notS_c (by omega) (notS_c (by omega) (notS_c (by omega) (notS_n)))))))))))) (notS_c (by omega) (notS_c (by omega) (notS_c (by omega) (notS_c (by omega) (notS_c (by omega) (notS_c (by omega) (notS_c (by omega) (notS_c (by omega) (notS_c (by omega) (notS_c (by omega) (notS_c (by omega) (notS_n)))))))))))) (fun i => (notS_c (by omega) (notS_c (by omega) (notS_c (by omega) (notS_c (by omega) (notS_c (by omega) (notS_c (by omega) (notS_c (by omega) (notS_c (by omega) (notS_c (by omega) (notS_c (by omega) (notS_c (by omega) (notS_n))))))))))))) (fun a h1 h2 i => (notS_c (by omega) (notS_c (by omega) (notS_c (by omega) (notS_c (by omega) (notS_c (by omega) (notS_c (by omega) (notS_c (by omega) (notS_c (by omega) (notS_c (by omega) (notS_c (by omega) (notS_c (by omega) (notS_n))))))))))))) hq), hs201.2.2.1 _ _ (notS_c (by omega) (notS_c (by omega) (notS_c (by omega) (notS_c (by omega) (notS_c (by omega) (notS_c (by omega) (notS_c (by omega) (notS_c (by omega) (notS_c (by omega) (notS_c (by omega) (notS_c (by omega) (notS_n))))))))))))⟩)⟩)
        · skip
          refine r_cb (pc' := 38) rfl (by decide) rfl ?_
          have hb224 := rd_1_15 hz
          have hf225 : z180 1 15 = z0 1 15 := (hs184.2.2.1 _ _ (notS_c (by omega) (notS_c (by omega) (notS_c (by omega) notS_n))))
          exact r_ri rfl (po_I hs186 ⟨by decide, by decide⟩ ⟨_, rfl, by omega, by omega, (by exact ⟨CV_f ht hz hs186 (notS_c (by omega) (notS_c (by omega) (notS_c (by omega) (notS_c (by omega) (notS_c (by omega) (notS_c (by omega) (notS_c (by omega) (notS_c (by omega) (notS_c (by omega) (notS_c (by omega) (notS_c (by omega) (notS_n)))))))))))) (notS_c (by omega) (notS_c (by omega) (notS_c (by omega) (notS_c (by omega) (notS_c (by omega) (notS_c (by omega) (notS_c (by omega) (notS_c (by omega) (notS_c (by omega) (notS_c (by omega) (notS_c (by omega) (notS_n)))))))))))) (notS_c (by omega) (notS_c (by omega) (notS_c (by omega) (notS_c (by omega) (notS_c (by omega) (notS_c (by omega) (notS_c (by omega) (notS_c (by omega) (notS_c (by omega) (notS_c (by omega) (notS_c (by omega) (notS_n)))))))))))) (notS_c (by omega) (notS_c (by omega) (notS_c (by omega) (notS_c (by omega) (notS_c (by omega) (notS_c (by omega) (notS_c (by omega) (notS_c (by omega) (notS_c (by omega) (notS_c (by omega) (notS_c (by omega) (notS_n)))))))))))) (notS_c (by omega) (notS_c (by omega) (notS_c (by omega) (notS_c (by omega) (notS_c (by omega) (notS_c (by omega) (notS_c (by omega) (notS_c (by omega) (notS_c (by omega) (notS_c (by omega) (notS_c (by omega) (notS_n)))))))))))) (fun i => (notS_c (by omega) (notS_c (by omega) (notS_c (by omega) (notS_c (by omega) (notS_c (by omega) (notS_c (by omega) (notS_c (by omega) (notS_c (by omega) (notS_c (by omega) (notS_c (by omega) (notS_c (by omega) (notS_n))))))))))))) (fun i => (notS_c (by omega) (notS_c (by omega) (notS_c (by omega) (notS_c (by omega) (notS_c (by omega) (notS_c (by omega) (notS_c (by omega) (notS_c (by omega) (notS_c (by omega) (notS_c (by omega) (notS_c (by omega) (notS_n))))))))))))) (fun i => (notS_c (by omega) (notS_c (by omega) (notS_c (by omega) (notS_c (by omega) (notS_c (by omega) (notS_c (by omega) (notS_c (by omega) (notS_c (by omega) (notS_c (by omega) (notS_c (by omega) (notS_c (by omega) (notS_n))))))))))))) (fun a h1 h2 i => (notS_c (by omega) (notS_c (by omega) (notS_c (by omega) (notS_c (by omega) (notS_c (by omega) (notS_c (by omega) (notS_c (by omega) (notS_c (by omega) (notS_c (by omega) (notS_c (by omega) (notS_c (by omega) (notS_n))))))))))))) (notS_c (by omega) (notS_c (by omega) (notS_c (by omega) (notS_c (by omega) (notS_c (by omega) (notS_c (by omega) (notS_c (by omega) (notS_c (by omega) (notS_c (by omega) (notS_c (by omega) (notS_c (by omega) (notS_n)))))))))))) (notS_c (by omega) (notS_c (by omega) (notS_c (by omega) (notS_c (by omega) (notS_c (by omega) (notS_c (by omega) (notS_c (by omega) (notS_c (by omega) (notS_c (by omega) (notS_c (by omega) (notS_c (by omega) (notS_n)))))))))))) (notS_c (by omega) (notS_c (by omega) (notS_c (by omega) (notS_c (by omega) (notS_c (by omega) (notS_c (by omega) (notS_c (by omega) (notS_c (by omega) (notS_c (by omega) (notS_c (by omega) (notS_c (by omega) (notS_n)))))))))))) (fun a h1 h2 i => (notS_c (by omega) (notS_c (by omega) (notS_c (by omega) (notS_c (by omega) (notS_c (by omega) (notS_c (by omega) (notS_c (by omega) (notS_c (by omega) (notS_c (by omega) (notS_c (by omega) (notS_c (by omega) (notS_n))))))))))))) (fun a h1 h2 i => (notS_c (by omega) (notS_c (by omega) (notS_c (by omega) (notS_c (by omega) (notS_c (by omega) (notS_c (by omega) (notS_c (by omega) (notS_c (by omega) (notS_c (by omega) (notS_c (by omega) (notS_c (by omega) (notS_n))))))))))))) hcv, (fun hq => GA_f ht hz hs186 (notS_c (by omega) (notS_c (by omega) (notS_c (by omega) (notS_c (by omega) (notS_c (by omega) (notS_c (by omega) (notS_c (by omega) (notS_c (by omega) (notS_c (by omega) (notS_c (by omega) (notS_c (by omega) (notS_n)))))))))))) (notS_c (by omega) (notS_c (by omega) (notS_c (by omega) (notS_c (by omega) (notS_c (by omega) (notS_c (by omega) (notS_c (by omega) (notS_c (by omega) (notS_c (by omega) (notS_c (by omega) (notS_c (by omega) (notS_n)))))))))))) (fun i => (notS_c (by omega) (notS_c (by omega) (notS_c (by omega) (notS_c (by omega) (notS_c (by omega) (notS_c (by omega) (notS_c (by omega) (notS_c (by omega) (notS_c (by omega) (notS_c (by omega) (notS_c (by omega) (notS_n))))))))))))) (fun a h1 h2 i => (notS_c (by omega) (notS_c (by omega) (notS_c (by omega) (notS_c (by omega) (notS_c (by omega) (notS_c (by omega) (notS_c (by omega) (notS_c (by omega) (notS_c (by omega) (notS_c (by omega) (notS_c (by omega) (notS_n))))))))))))) hq), hs186.2.2.1 _ _ (notS_c (by omega) (notS_c (by omega) (notS_c (by omega) (notS_c (by omega) (notS_c (by omega) (notS_c (by omega) (notS_c (by omega) (notS_c (by omega) (notS_c (by omega) (notS_c (by omega) (notS_c (by omega) (notS_n))))))))))))⟩)⟩)
      · skip
        refine r_c0 (pc' := 20) rfl rfl ?_
        have hb226 := rd_1_15 hz
        exact r_ri rfl (po_I hst ⟨by decide, by decide⟩ ⟨_, rfl, by omega, by omega, (by exact ⟨CV_f ht hz hst (notS_c (by omega) (notS_c (by omega) (notS_c (by omega) (notS_c (by omega) (notS_c (by omega) (notS_c (by omega) (notS_c (by omega) (notS_c (by omega) (notS_c (by omega) (notS_c (by omega) (notS_c (by omega) (notS_n)))))))))))) (notS_c (by omega) (notS_c (by omega) (notS_c (by omega) (notS_c (by omega) (notS_c (by omega) (notS_c (by omega) (notS_c (by omega) (notS_c (by omega) (notS_c (by omega) (notS_c (by omega) (notS_c (by omega) (notS_n)))))))))))) (notS_c (by omega) (notS_c (by omega) (notS_c (by omega) (notS_c (by omega) (notS_c (by omega) (notS_c (by omega) (notS_c (by omega) (notS_c (by omega) (notS_c (by omega) (notS_c (by omega) (notS_c (by omega) (notS_n)))))))))))) (notS_c (by omega) (notS_c (by omega) (notS_c (by omega) (notS_c (by omega) (notS_c (by omega) (notS_c (by omega) (notS_c (by omega) (notS_c (by omega) (notS_c (by omega) (notS_c (by omega) (notS_c (by omega) (notS_n)))))))))))) (notS_c (by omega) (notS_c (by omega) (notS_c (by omega) (notS_c (by omega) (notS_c (by omega) (notS_c (by omega) (notS_c (by omega) (notS_c (by omega) (notS_c (by omega) (notS_c (by omega) (notS_c (by omega) (notS_n)))))))))))) (fun i => (notS_c (by omega) (notS_c (by omega) (notS_c (by omega) (notS_c (by omega) (notS_c (by omega) (notS_c (by omega) (notS_c (by omega) (notS_c (by omega) (notS_c (by omega) (notS_c (by omega) (notS_c (by omega) (notS_n))))))))))))) (fun i => (notS_c (by omega) (notS_c (by omega) (notS_c (by omega) (notS_c (by omega) (notS_c (by omega) (notS_c (by omega) (notS_c (by omega) (notS_c (by omega) (notS_c (by omega) (notS_c (by omega) (notS_c (by omega) (notS_n))))))))))))) (fun i => (notS_c (by omega) (notS_c (by omega) (notS_c (by omega) (notS_c (by omega) (notS_c (by omega) (notS_c (by omega) (notS_c (by omega) (notS_c (by omega) (notS_c (by omega) (notS_c (by omega) (notS_c (by omega) (notS_n))))))))))))) (fun a h1 h2 i => (notS_c (by omega) (notS_c (by omega) (notS_c (by omega) (notS_c (by omega) (notS_c (by omega) (notS_c (by omega) (notS_c (by omega) (notS_c (by omega) (notS_c (by omega) (notS_c (by omega) (notS_c (by omega) (notS_n))))))))))))) (notS_c (by omega) (notS_c (by omega) (notS_c (by omega) (notS_c (by omega) (notS_c (by omega) (notS_c (by omega) (notS_c (by omega) (notS_c (by omega) (notS_c (by omega) (notS_c (by omega) (notS_c (by omega) (notS_n)))))))))))) (notS_c (by omega) (notS_c (by omega) (notS_c (by omega) (notS_c (by omega) (notS_c (by omega) (notS_c (by omega) (notS_c (by omega) (notS_c (by omega) (notS_c (by omega) (notS_c (by omega) (notS_c (by omega) (notS_n)))))))))))) (notS_c (by omega) (notS_c (by omega) (notS_c (by omega) (notS_c (by omega) (notS_c (by omega) (notS_c (by omega) (notS_c (by omega) (notS_c (by omega) (notS_c (by omega) (notS_c (by omega) (notS_c (by omega) (notS_n)))))))))))) (fun a h1 h2 i => (notS_c (by omega) (notS_c (by omega) (notS_c (by omega) (notS_c (by omega) (notS_c (by omega) (notS_c (by omega) (notS_c (by omega) (notS_c (by omega) (notS_c (by omega) (notS_c (by omega) (notS_c (by omega) (notS_n))))))))))))) (fun a h1 h2 i => (notS_c (by omega) (notS_c (by omega) (notS_c (by omega) (notS_c (by omega) (notS_c (by omega) (notS_c (by omega) (notS_c (by omega) (notS_c (by omega) (notS_c (by omega) (notS_c (by omega) (notS_c (by omega) (notS_n))))))))))))) hcv, (fun hq => GA_f ht hz hst (notS_c (by omega) (notS_c (by omega) (notS_c (by omega) (notS_c (by omega) (notS_c (by omega) (notS_c (by omega) (notS_c (by omega) (notS_c (by omega) (notS_c (by omega) (notS_c (by omega) (notS_c (by omega) (notS_n)))))))))))) (notS_c (by omega) (notS_c (by omega) (notS_c (by omega) (notS_c (by omega) (notS_c (by omega) (notS_c (by omega) (notS_c (by omega) (notS_c (by omega) (notS_c (by omega) (notS_c (by omega) (notS_c (by omega) (notS_n)))))))))))) (fun i => (notS_c (by omega) (notS_c (by omega) (notS_c (by omega) (notS_c (by omega) (notS_c (by omega) (notS_c (by omega) (notS_c (by omega) (notS_c (by omega) (notS_c (by omega) (notS_c (by omega) (notS_c (by omega) (notS_n))))))))))))) (fun a h1 h2 i => (notS_c (by omega) (notS_c (by omega) (notS_c (by omega) (notS_c (by omega) (notS_c (by omega) (notS_c (by omega) (notS_c (by omega) (notS_c (by omega) (notS_c (by omega) (notS_c (by omega) (notS_c (by omega) (notS_n))))))))))))) hq), hst.2.2.1 _ _ (notS_c (by omega) (notS_c (by omega) (notS_c (by omega) (notS_c (by omega) (notS_c (by omega) (notS_c (by omega) (notS_c (by omega) (notS_c (by omega) (notS_c (by omega) (notS_c (by omega) (notS_c (by omega) (notS_n))))))))))))⟩)⟩)
  · skip
    refine r_st (pc' := 6) (lv' := [(3, _), (0, _), (1, _), (2, _)]) rfl rfl rfl rfl ?_
    refine r_ld (pc' := 7) rfl rfl rfl rfl ?_
    refine r_nul_t rfl ?_
    refine r_c0 (pc' := 20) rfl rfl ?_
    have hb227 := rd_1_15 hz
    exact r_ri rfl (po_I hst ⟨by decide, by decide⟩ ⟨_, rfl, by omega, by omega, (by exact ⟨CV_f ht hz hst (notS_c (by omega) (notS_c (by omega) (notS_c (by omega) (notS_c (by omega) (notS_c (by omega) (notS_c (by omega) (notS_c (by omega) (notS_c (by omega) (notS_c (by omega) (notS_c (by omega) (notS_c (by omega) (notS_n)))))))))))) (notS_c (by omega) (notS_c (by omega) (notS_c (by omega) (notS_c (by omega) (notS_c (by omega) (notS_c (by omega) (notS_c (by omega) (notS_c (by omega) (notS_c (by omega) (notS_c (by omega) (notS_c (by omega) (notS_n)))))))))))) (notS_c (by omega) (notS_c (by omega) (notS_c (by omega) (notS_c (by omega) (notS_c (by omega) (notS_c (by omega) (notS_c (by omega) (notS_c (by omega) (notS_c (by omega) (notS_c (by omega) (notS_c (by omega) (notS_n)))))))))))) (notS_c (by omega) (notS_c (by omega) (notS_c (by omega) (notS_c (by omega) (notS_c (by omega) (notS_c (by omega) (notS_c (by omega) (notS_c (by omega) (notS_c (by omega) (notS_c (by omega) (notS_c (by omega) (notS_n)))))))))))) (notS_c (by omega) (notS_c (by omega) (notS_c (by omega) (notS_c (by omega) (notS_c (by omega) (notS_c (by omega) (notS_c (by omega) (notS_c (by omega) (notS_c (by omega) (notS_c (by omega) (notS_c (by omega) (notS_n)))))))))))) (fun i => (notS_c (by omega) (notS_c (by omega) (notS_c (by omega) (notS_c (by omega) (notS_c (by omega) (notS_c (by omega) (notS_c (by omega) (notS_c (by omega) (notS_c (by omega) (notS_c (by omega) (notS_c (by omega) (notS_n))))))))))))) (fun i => (notS_c (by omega) (notS_c (by omega) (notS_c (by omega) (notS_c (by omega) (notS_c (by omega) (notS_c (by omega) (notS_c (by omega) (notS_c (by omega) (notS_c (by omega) (notS_c (by omega) (notS_c (by omega) (notS_n))))))))))))) (fun i => (notS_c (by omega) (notS_c (by omega) (notS_c (by omega) (notS_c (by omega) (notS_c (by omega) (notS_c (by omega) (notS_c (by omega) (notS_c (by omega) (notS_c (by omega) (notS_c (by omega) (notS_c (by omega) (notS_n))))))))))))) (fun a h1 h2 i => (notS_c (by omega) (notS_c (by omega) (notS_c (by omega) (notS_c (by omega) (notS_c (by omega) (notS_c (by omega) (notS_c (by omega) (notS_c (by omega) (notS_c (by omega) (notS_c (by omega) (notS_c (by omega) (notS_n))))))))))))) (notS_c (by omega) (notS_c (by omega) (notS_c (by omega) (notS_c (by omega) (notS_c (by omega) (notS_c (by omega) (notS_c (by omega) (notS_c (by omega) (notS_c (by omega) (notS_c (by omega) (notS_c (by omega) (notS_n)))))))))))) (notS_c (by omega) (notS_c (by omega) (notS_c (by omega) (notS_c (by omega) (notS_c (by omega) (notS_c (by omega) (notS_c (by omega) (notS_c (by omega) (notS_c (by omega) (notS_c (by omega) (notS_c (by omega) (notS_n)))))))))))) (notS_c (by omega) (notS_c (by omega) (notS_c (by omega) (notS_c (by omega) (notS_c (by omega) (notS_c (by omega) (notS_c (by omega) (notS_c (by omega) (notS_c (by omega) (notS_c (by omega) (notS_c (by omega) (notS_n)))))))))))) (fun a h1 h2 i => (notS_c (by omega) (notS_c (by omega) (notS_c (by omega) (notS_c (by omega) (notS_c (by omega) (notS_c (by omega) (notS_c (by omega) (notS_c (by omega) (notS_c (by omega) (notS_c (by omega) (notS_c (by omega) (notS_n))))))))))))) (fun a h1 h2 i => (notS_c (by omega) (notS_c (by omega) (notS_c (by omega) (notS_c (by omega) (notS_c (by omega) (notS_c (by omega) (notS_c (by omega) (notS_c (by omega) (notS_c (by omega) (notS_c (by omega) (notS_c (by omega) (notS_n))))))))))))) hcv, (fun hq => GA_f ht hz hst (notS_c (by omega) (notS_c (by omega) (notS_c (by omega) (notS_c (by omega) (notS_c (by omega) (notS_c (by omega) (notS_c (by omega) (notS_c (by omega) (notS_c (by omega) (notS_c (by omega) (notS_c (by omega) (notS_n)))))))))))) (notS_c (by omega) (notS_c (by omega) (notS_c (by omega) (notS_c (by omega) (notS_c (by omega) (notS_c (by omega) (notS_c (by omega) (notS_c (by omega) (notS_c (by omega) (notS_c (by omega) (notS_c (by omega) (notS_n)))))))))))) (fun i => (notS_c (by omega) (notS_c (by omega) (notS_c (by omega) (notS_c (by omega) (notS_c (by omega) (notS_c (by omega) (notS_c (by omega) (notS_c (by omega) (notS_c (by omega) (notS_c (by omega) (notS_c (by omega) (notS_n))))))))))))) (fun a h1 h2 i => (notS_c (by omega) (notS_c (by omega) (notS_c (by omega) (notS_c (by omega) (notS_c (by omega) (notS_c (by omega) (notS_c (by omega) (notS_c (by omega) (notS_c (by omega) (notS_c (by omega) (notS_c (by omega) (notS_n))))))))))))) hq), hst.2.2.1 _ _ (notS_c (by omega) (notS_c (by omega) (notS_c (by omega) (notS_c (by omega) (notS_c (by omega) (notS_c (by omega) (notS_c (by omega) (notS_c (by omega) (notS_c (by omega) (notS_c (by omega) (notS_c (by omega) (notS_n))))))))))))⟩)⟩)
/-- LoopGround cross -/
abbrev S_113s  : mS := [(157, 157, 0, 17)]
abbrev E_113s (t : Nat) (u : Nat) (a1 : Int) (a2 : Int) (z0 w0 : mZ) (tx it tt ct : Option Nat) : Int → mZ → mZ → mP → Prop := fun v z w p => p = (pq (some t) (some u) tx it (some t) tt ct) ∧ (-9223372036854775808) ≤ v ∧ v ≤ 9223372036854775807 ∧ (CV z w t ∧ (GA z0 z0 t → GA z z t) ∧ z 1 15 = z0 1 15)
theorem m_113s {d : Nat} {z0 w0 : mZ} {tx it tt ct : Option Nat} (t : Nat) (u : Nat) (a1 : Int) (a2 : Int) (hz : rz z0) (hw : rw_ w0) (ha1 : (-2147483648) ≤ a1 ∧ a1 ≤ 2147483647) (ha2 : (-2147483648) ≤ a2 ∧ a2 ≤ 2147483647) (ht : isT t) (hu : isT u) (hcv : CV z0 w0 t) (hga : GA z0 z0 t) : wc (d + 5) 113 [.ref 1, .int (Int32.ofInt a1), .int (Int32.ofInt a2)] (mk z0 w0 (pq (some t) (some u) tx it (some t) tt ct)) (poL S_113s z0 w0 (E_113s t u a1 a2 z0 w0 tx it tt ct)) := by
  have hst : st_ S_113s z0 w0 z0 w0 := st_rf hz hw
  have htb : 159 ≤ t ∧ t ≤ 192 := by have := ht; unfold isT at this; omega
  have hub : 159 ≤ u ∧ u ≤ 192 := by have := hu; unfold isT at this; omega
  have hz74 := rd_1_15 hz
  have hwt := hcv.1
  have hzt3 := rd_T_3 ht hz
  have h390 := rd_39_0 hz
  have h391 := rd_39_1 hz
  have h392 := rd_39_2 hz
  refine w_m rfl rfl ?_
  refine r_ld (pc' := 1) rfl rfl rfl rfl ?_
  refine r_ld (pc' := 2) rfl rfl rfl rfl ?_
  refine r_cVR (pc' := 5) rfl rfl rfl rfl rfl sh_1 (m_135 (d := d + 2) t u a1 hst.1 hst.2.1 ⟨by omega, by omega⟩ ht hu) (fun v75 z76 w77 p78 hs80 hE81 => ?_)
  rcases hE81 with ⟨rfl, rfl, rfl, rfl, hra⟩ | ⟨rfl, rfl, rfl, rfl, hrt⟩ | ⟨rfl, rfl, rfl, rfl, hrn⟩
  · skip
    have hb83 := rd_39_2 hz
    have hb84 := rd_39_0 hz
    refine r_st (pc' := 6) (lv' := [(3, _), (0, _), (1, _), (2, _)]) rfl rfl rfl rfl ?_
    refine r_ld (pc' := 7) rfl rfl rfl rfl ?_
    refine r_nul_f (pc' := 10) rfl rfl ?_
    refine r_ld (pc' := 11) rfl rfl rfl rfl ?_
    refine r_gr (b := 10) (pc' := 14) rfl rfl sh_1 rfl pp_1_3 ?_
    refine r_ld (pc' := 15) rfl rfl rfl rfl ?_
    have hb85 := rd_T_3 ht hz
    refine r_cVI (pc' := 18) rfl rfl rfl rfl rfl sh_10 (m_23s (d := d + 2) t a2 hst.1 hst.2.1 ⟨by omega, by omega⟩ ht) (fun v86 z87 w88 p89 h90 hs91 hE92 => ?_)
    obtain ⟨rfl, rfl, rfl, hE92⟩ := hE92
    have hfl := hE92.2.2
    refine r_zne (pc' := 21) rfl rfl ⟨by omega, by omega⟩ (fun hc94 => ?_) (fun hc94 => ?_)
    · skip
      refine r_ld (pc' := 26) rfl rfl rfl rfl ?_
      refine r_ld (pc' := 27) rfl rfl rfl rfl ?_
      refine r_gr (b := 157) (pc' := 30) rfl rfl sh_1 rfl pp_1_11 ?_
      refine r_cSV (pc' := 33) rfl rfl rfl rfl rfl (m_140 (d := d + 3) (41 + ((z0 39 2 + (z0 39 0)) % 61).toNat) 157 hst.1 hst.2.1 (by first | omega | assumption) (lr_41 (k := ((z0 39 2 + (z0 39 0)) % 61).toNat) (by omega) ) (by first | omega | assumption) lr_157 (by first | omega | assumption) wrr_157) (fun z96 w97 p98 hs100 hE101 => ?_)
      have hs102 := st_tr hst hs100 (sub_B rfl)
      obtain ⟨rfl, hE101⟩ := hE101
      have hcp := hE101
      refine r_ld (pc' := 34) rfl rfl rfl rfl ?_
      refine r_gr (b := 10) (pc' := 37) rfl rfl sh_1 rfl pp_1_3 ?_
      refine r_ld (pc' := 38) rfl rfl rfl rfl ?_
      refine r_gr (b := 157) (pc' := 41) rfl rfl sh_1 rfl pp_1_11 ?_
      refine r_ld (pc' := 42) rfl rfl rfl rfl ?_
      have hb103 := rd_R_0 (k := a2.toNat) (by omega) hz
      have hf104 : z96 (17 + 2 * a2.toNat) 0 = z0 (17 + 2 * a2.toNat) 0 := (hs100.2.2.1 _ _ (notS_c (by omega) notS_n))
      refine r_cVL (pc' := 45) rfl rfl rfl rfl rfl sh_10 (m_25 (d := d) t 157 a2 hs102.1 hs102.2.1 ⟨by omega, by omega⟩ ht (by refine NB_c hcp ?_; first | exact NB_A (by omega) hw | exact NB_T ht (by omega) hw) (by refine FTt_fr (hs102.2.2.1 _ _ (notS_c (by omega) (notS_n))) (funext fun i => hs102.2.2.1 _ _ (notS_c (by omega) (notS_n))) (FTt_cg hwt hcp ?_); first | exact AK_now hcv.2.2.1 (by omega) (by omega) | exact hcv.2.1 _ (by omega)) (by exact GRt_cg (hga a2.toNat (by omega)) (hs102.2.2.1 _ _ (notS_c (by omega) (notS_n))).symm (funext fun i => (hs102.2.2.1 _ _ (notS_c (by omega) (notS_n))).symm) (fun i _ => hs102.2.2.1 _ _ (notS_c (by omega) (notS_n))) (funext fun i => hs102.2.2.1 _ _ (notS_c (by omega) (notS_n)))) (by exact (hs102.2.2.1 _ _ (notS_c (by omega) (notS_n))).trans (hfl (by omega)).2.2.2) lr_157 (by first | omega | assumption | (simp only [hf104]; assumption)) wrr_157 (by first | omega | assumption | (simp only [hf104]; assumption))) (fun v105 z106 w107 p108 h109 hs110 hE111 => ?_)
      have hs112 := st_tr hs102 hs110 (sub_B rfl)
      obtain ⟨rfl, hE111⟩ := hE111
      have hb113 := rd_1_15 hz
      have hf114 : z106 1 15 = z0 1 15 := ((hs110.2.2.1 _ _ (notS_c (by omega) notS_n)).trans (hs100.2.2.1 _ _ (notS_c (by omega) notS_n)))
      exact r_rl rfl (po_L hs112 ⟨by omega, by omega⟩ ⟨rfl, by omega, by omega, (by exact ⟨CV_f ht hz hs112 (notS_c (by omega) (notS_n)) (notS_c (by omega) (notS_n)) (notS_c (by omega) (notS_n)) (notS_c (by omega) (notS_n)) (notS_c (by omega) (notS_n)) (fun i => (notS_c (by omega) (notS_n))) (fun i => (notS_c (by omega) (notS_n))) (fun i => (notS_c (by omega) (notS_n))) (fun a h1 h2 i => (notS_c (by omega) (notS_n))) (notS_c (by omega) (notS_n)) (notS_c (by omega) (notS_n)) (notS_c (by omega) (notS_n)) (fun a h1 h2 i => (notS_c (by omega) (notS_n))) (fun a h1 h2 i => (notS_c (by omega) (notS_n))) hcv, (fun hq => GA_f ht hz hs112 (notS_c (by omega) (notS_n)) (notS_c (by omega) (notS_n)) (fun i => (notS_c (by omega) (notS_n))) (fun a h1 h2 i => (notS_c (by omega) (notS_n))) hq), hs112.2.2.1 _ _ (notS_c (by omega) (notS_n))⟩)⟩)
    · skip
      refine r_al (pc' := 24) rfl rfl rfl rfl ?_
      have hb115 := rd_1_15 hz
      exact r_rl rfl (po_L hst ⟨by decide, by decide⟩ ⟨rfl, by omega, by omega, (by exact ⟨CV_f ht hz hst (notS_c (by omega) (notS_n)) (notS_c (by omega) (notS_n)) (notS_c (by omega) (notS_n)) (notS_c (by omega) (notS_n)) (notS_c (by omega) (notS_n)) (fun i => (notS_c (by omega) (notS_n))) (fun i => (notS_c (by omega) (notS_n))) (fun i => (notS_c (by omega) (notS_n))) (fun a h1 h2 i => (notS_c (by omega) (notS_n))) (notS_c (by omega) (notS_n)) (notS_c (by omega) (notS_n)) (notS_c (by omega) (notS_n)) (fun a h1 h2 i => (notS_c (by omega) (notS_n))) (fun a h1 h2 i => (notS_c (by omega) (notS_n))) hcv, (fun hq => GA_f ht hz hst (notS_c (by omega) (notS_n)) (notS_c (by omega) (notS_n)) (fun i => (notS_c (by omega) (notS_n))) (fun a h1 h2 i => (notS_c (by omega) (notS_n))) hq), hst.2.2.1 _ _ (notS_c (by omega) (notS_n))⟩)⟩)
  · skip
    refine r_st (pc' := 6) (lv' := [(3, _), (0, _), (1, _), (2, _)]) rfl rfl rfl rfl ?_
    refine r_ld (pc' := 7) rfl rfl rfl rfl ?_
    refine r_nul_f (pc' := 10) rfl rfl ?_
    refine r_ld (pc' := 11) rfl rfl rfl rfl ?_
    refine r_gr (b := 10) (pc' := 14) rfl rfl sh_1 rfl pp_1_3 ?_
    refine r_ld (pc' := 15) rfl rfl rfl rfl ?_
    have hb116 := rd_T_3 ht hz
    refine r_cVI (pc' := 18) rfl rfl rfl rfl rfl sh_10 (m_23s (d := d + 2) t a2 hst.1 hst.2.1 ⟨by omega, by omega⟩ ht) (fun v117 z118 w119 p120 h121 hs122 hE123 => ?_)
    obtain ⟨rfl, rfl, rfl, hE123⟩ := hE123
    have hfl := hE123.2.2
    refine r_zne (pc' := 21) rfl rfl ⟨by omega, by omega⟩ (fun hc125 => ?_) (fun hc125 => ?_)
    · skip
      refine r_ld (pc' := 26) rfl rfl rfl rfl ?_
      refine r_ld (pc' := 27) rfl rfl rfl rfl ?_
      refine r_gr (b := 157) (pc' := 30) rfl rfl sh_1 rfl pp_1_11 ?_
      refine r_cSV (pc' := 33) rfl rfl rfl rfl rfl (m_140 (d := d + 3) (t + 8 + a1.toNat) 157 hst.1 hst.2.1 (by first | omega | assumption) (lr_T8 ht (k := a1.toNat) (by omega) ) (by first | omega | assumption) lr_157 (by first | omega | assumption) wrr_157) (fun z127 w128 p129 hs131 hE132 => ?_)
      have hs133 := st_tr hst hs131 (sub_B rfl)
      obtain ⟨rfl, hE132⟩ := hE132
      have hcp := hE132
      refine r_ld (pc' := 34) rfl rfl rfl rfl ?_
      refine r_gr (b := 10) (pc' := 37) rfl rfl sh_1 rfl pp_1_3 ?_
      refine r_ld (pc' := 38) rfl rfl rfl rfl ?_
      refine r_gr (b := 157) (pc' := 41) rfl rfl sh_1 rfl pp_1_11 ?_
      refine r_ld (pc' := 42) rfl rfl rfl rfl ?_
      have hb134 := rd_R_0 (k := a2.toNat) (by omega) hz
      have hf135 : z127 (17 + 2 * a2.toNat) 0 = z0 (17 + 2 * a2.toNat) 0 := (hs131.2.2.1 _ _ (notS_c (by omega) notS_n))
      refine r_cVL (pc' := 45) rfl rfl rfl rfl rfl sh_10 (m_25 (d := d) t 157 a2 hs133.1 hs133.2.1 ⟨by omega, by omega⟩ ht (by refine NB_c hcp ?_; first | exact NB_A (by omega) hw | exact NB_T ht (by omega) hw) (by refine FTt_fr (hs133.2.2.1 _ _ (notS_c (by omega) (notS_n))) (funext fun i => hs133.2.2.1 _ _ (notS_c (by omega) (notS_n))) (FTt_cg hwt hcp ?_); first | exact AK_now hcv.2.2.1 (by omega) (by omega) | exact hcv.2.1 _ (by omega)) (by exact GRt_cg (hga a2.toNat (by omega)) (hs133.2.2.1 _ _ (notS_c (by omega) (notS_n))).symm (funext fun i => (hs133.2.2.1 _ _ (notS_c (by omega) (notS_n))).symm) (fun i _ => hs133.2.2.1 _ _ (notS_c (by omega) (notS_n))) (funext fun i => hs133.2.2.1 _ _ (notS_c (by omega) (notS_n)))) (by exact (hs133.2.2.1 _ _ (notS_c (by omega) (notS_n))).trans (hfl (by omega)).2.2.2) lr_157 (by first | omega | assumption | (simp only [hf135]; assumption)) wrr_157 (by first | omega | assumption | (simp only [hf135]; assumption))) (fun v136 z137 w138 p139 h140 hs141 hE142 => ?_)
      have hs143 := st_tr hs133 hs141 (sub_B rfl)
      obtain ⟨rfl, hE142⟩ := hE142
      have hb144 := rd_1_15 hz
      have hf145 : z137 1 15 = z0 1 15 := ((hs141.2.2.1 _ _ (notS_c (by omega) notS_n)).trans (hs131.2.2.1 _ _ (notS_c (by omega) notS_n)))
      exact r_rl rfl (po_L hs143 ⟨by omega, by omega⟩ ⟨rfl, by omega, by omega, (by exact ⟨CV_f ht hz hs143 (notS_c (by omega) (notS_n)) (notS_c (by omega) (notS_n)) (notS_c (by omega) (notS_n)) (notS_c (by omega) (notS_n)) (notS_c (by omega) (notS_n)) (fun i => (notS_c (by omega) (notS_n))) (fun i => (notS_c (by omega) (notS_n))) (fun i => (notS_c (by omega) (notS_n))) (fun a h1 h2 i => (notS_c (by omega) (notS_n))) (notS_c (by omega) (notS_n)) (notS_c (by omega) (notS_n)) (notS_c (by omega) (notS_n)) (fun a h1 h2 i => (notS_c (by omega) (notS_n))) (fun a h1 h2 i => (notS_c (by omega) (notS_n))) hcv, (fun hq => GA_f ht hz hs143 (notS_c (by omega) (notS_n)) (notS_c (by omega) (notS_n)) (fun i => (notS_c (by omega) (notS_n))) (fun a h1 h2 i => (notS_c (by omega) (notS_n))) hq), hs143.2.2.1 _ _ (notS_c (by omega) (notS_n))⟩)⟩)
    · skip
      refine r_al (pc' := 24) rfl rfl rfl rfl ?_
      have hb146 := rd_1_15 hz
      exact r_rl rfl (po_L hst ⟨by decide, by decide⟩ ⟨rfl, by omega, by omega, (by exact ⟨CV_f ht hz hst (notS_c (by omega) (notS_n)) (notS_c (by omega) (notS_n)) (notS_c (by omega) (notS_n)) (notS_c (by omega) (notS_n)) (notS_c (by omega) (notS_n)) (fun i => (notS_c (by omega) (notS_n))) (fun i => (notS_c (by omega) (notS_n))) (fun i => (notS_c (by omega) (notS_n))) (fun a h1 h2 i => (notS_c (by omega) (notS_n))) (notS_c (by omega) (notS_n)) (notS_c (by omega) (notS_n)) (notS_c (by omega) (notS_n)) (fun a h1 h2 i => (notS_c (by omega) (notS_n))) (fun a h1 h2 i => (notS_c (by omega) (notS_n))) hcv, (fun hq => GA_f ht hz hst (notS_c (by omega) (notS_n)) (notS_c (by omega) (notS_n)) (fun i => (notS_c (by omega) (notS_n))) (fun a h1 h2 i => (notS_c (by omega) (notS_n))) hq), hst.2.2.1 _ _ (notS_c (by omega) (notS_n))⟩)⟩)
  · skip
    refine r_st (pc' := 6) (lv' := [(3, _), (0, _), (1, _), (2, _)]) rfl rfl rfl rfl ?_
    refine r_ld (pc' := 7) rfl rfl rfl rfl ?_
    refine r_nul_t rfl ?_
    refine r_al (pc' := 24) rfl rfl rfl rfl ?_
    have hb147 := rd_1_15 hz
    exact r_rl rfl (po_L hst ⟨by decide, by decide⟩ ⟨rfl, by omega, by omega, (by exact ⟨CV_f ht hz hst (notS_c (by omega) (notS_n)) (notS_c (by omega) (notS_n)) (notS_c (by omega) (notS_n)) (notS_c (by omega) (notS_n)) (notS_c (by omega) (notS_n)) (fun i => (notS_c (by omega) (notS_n))) (fun i => (notS_c (by omega) (notS_n))) (fun i => (notS_c (by omega) (notS_n))) (fun a h1 h2 i => (notS_c (by omega) (notS_n))) (notS_c (by omega) (notS_n)) (notS_c (by omega) (notS_n)) (notS_c (by omega) (notS_n)) (fun a h1 h2 i => (notS_c (by omega) (notS_n))) (fun a h1 h2 i => (notS_c (by omega) (notS_n))) hcv, (fun hq => GA_f ht hz hst (notS_c (by omega) (notS_n)) (notS_c (by omega) (notS_n)) (fun i => (notS_c (by omega) (notS_n))) (fun a h1 h2 i => (notS_c (by omega) (notS_n))) hq), hst.2.2.1 _ _ (notS_c (by omega) (notS_n))⟩)⟩)
/-- LoopGround cross -/
abbrev S_113z  : mS := []
abbrev E_113z (t : Nat) (u : Nat) (a1 : Int) (a2 : Int) (z0 w0 : mZ) (tx it tt ct : Option Nat) : Int → mZ → mZ → mP → Prop := fun v z w p => p = (pq (some t) (some u) tx it none tt ct) ∧ z0 = z ∧ w0 = w ∧ (-1) ≤ v ∧ v ≤ (-1) ∧ (CV z w t ∧ (GA z0 z0 t → GA z z t) ∧ z 1 15 = z0 1 15)
theorem m_113z {d : Nat} {z0 w0 : mZ} {tx it tt ct : Option Nat} (t : Nat) (u : Nat) (a1 : Int) (a2 : Int) (hz : rz z0) (hw : rw_ w0) (ha1 : (-2147483648) ≤ a1 ∧ a1 ≤ 2147483647) (ha2 : (-2147483648) ≤ a2 ∧ a2 ≤ 2147483647) (ht : isT t) (hu : isT u) (hcv : CV z0 w0 t) : wc (d + 5) 113 [.ref 1, .int (Int32.ofInt a1), .int (Int32.ofInt a2)] (mk z0 w0 (pq (some t) (some u) tx it none tt ct)) (poL S_113z z0 w0 (E_113z t u a1 a2 z0 w0 tx it tt ct)) := by
  have hst : st_ S_113z z0 w0 z0 w0 := st_rf hz hw
  have htb : 159 ≤ t ∧ t ≤ 192 := by have := ht; unfold isT at this; omega
  have hub : 159 ≤ u ∧ u ≤ 192 := by have := hu; unfold isT at this; omega
  have hz29 := rd_1_15 hz
  have hwt := hcv.1
  have hzt3 := rd_T_3 ht hz
  have h390 := rd_39_0 hz
  have h391 := rd_39_1 hz
  have h392 := rd_39_2 hz
  refine w_m rfl rfl ?_
  refine r_ld (pc' := 1) rfl rfl rfl rfl ?_
  refine r_ld (pc' := 2) rfl rfl rfl rfl ?_
  refine r_cVR (pc' := 5) rfl rfl rfl rfl rfl sh_1 (m_135 (d := d + 2) t u a1 hst.1 hst.2.1 ⟨by omega, by omega⟩ ht hu) (fun v30 z31 w32 p33 hs35 hE36 => ?_)
  rcases hE36 with ⟨rfl, rfl, rfl, rfl, hra⟩ | ⟨rfl, rfl, rfl, rfl, hrt⟩ | ⟨rfl, rfl, rfl, rfl, hrn⟩
  · skip
    have hb38 := rd_39_2 hz
    have hb39 := rd_39_0 hz
    refine r_st (pc' := 6) (lv' := [(3, _), (0, _), (1, _), (2, _)]) rfl rfl rfl rfl ?_
    refine r_ld (pc' := 7) rfl rfl rfl rfl ?_
    refine r_nul_f (pc' := 10) rfl rfl ?_
    refine r_ld (pc' := 11) rfl rfl rfl rfl ?_
    refine r_gr (b := 10) (pc' := 14) rfl rfl sh_1 rfl pp_1_3 ?_
    refine r_ld (pc' := 15) rfl rfl rfl rfl ?_
    refine r_cVI (pc' := 18) rfl rfl rfl rfl rfl sh_10 (m_23z (d := d + 2) a2 hst.1 hst.2.1 ⟨by omega, by omega⟩) (fun v40 z41 w42 p43 h44 hs45 hE46 => ?_)
    obtain ⟨rfl, rfl, rfl, hE46⟩ := hE46
    refine r_zne (pc' := 21) rfl rfl ⟨by omega, by omega⟩ (fun hc48 => ?_) (fun hc48 => ?_)
    · exfalso; omega
    · skip
      refine r_al (pc' := 24) rfl rfl rfl rfl ?_
      exact r_rl rfl (po_L hst ⟨by decide, by decide⟩ ⟨rfl, rfl, rfl, by omega, by omega, (by exact ⟨CV_f ht hz hst (notS_n) (notS_n) (notS_n) (notS_n) (notS_n) (fun i => (notS_n)) (fun i => (notS_n)) (fun i => (notS_n)) (fun a h1 h2 i => (notS_n)) (notS_n) (notS_n) (notS_n) (fun a h1 h2 i => (notS_n)) (fun a h1 h2 i => (notS_n)) hcv, (fun hq => GA_f ht hz hst (notS_n) (notS_n) (fun i => (notS_n)) (fun a h1 h2 i => (notS_n)) hq), hst.2.2.1 _ _ (notS_n)⟩)⟩)
  · skip
    refine r_st (pc' := 6) (lv' := [(3, _), (0, _), (1, _), (2, _)]) rfl rfl rfl rfl ?_
    refine r_ld (pc' := 7) rfl rfl rfl rfl ?_
    refine r_nul_f (pc' := 10) rfl rfl ?_
    refine r_ld (pc' := 11) rfl rfl rfl rfl ?_
    refine r_gr (b := 10) (pc' := 14) rfl rfl sh_1 rfl pp_1_3 ?_
    refine r_ld (pc' := 15) rfl rfl rfl rfl ?_
    refine r_cVI (pc' := 18) rfl rfl rfl rfl rfl sh_10 (m_23z (d := d + 2) a2 hst.1 hst.2.1 ⟨by omega, by omega⟩) (fun v49 z50 w51 p52 h53 hs54 hE55 => ?_)
    obtain ⟨rfl, rfl, rfl, hE55⟩ := hE55
    refine r_zne (pc' := 21) rfl rfl ⟨by omega, by omega⟩ (fun hc57 => ?_) (fun hc57 => ?_)
    · exfalso; omega
    · skip
      refine r_al (pc' := 24) rfl rfl rfl rfl ?_
      exact r_rl rfl (po_L hst ⟨by decide, by decide⟩ ⟨rfl, rfl, rfl, by omega, by omega, (by exact ⟨CV_f ht hz hst (notS_n) (notS_n) (notS_n) (notS_n) (notS_n) (fun i => (notS_n)) (fun i => (notS_n)) (fun i => (notS_n)) (fun a h1 h2 i => (notS_n)) (notS_n) (notS_n) (notS_n) (fun a h1 h2 i => (notS_n)) (fun a h1 h2 i => (notS_n)) hcv, (fun hq => GA_f ht hz hst (notS_n) (notS_n) (fun i => (notS_n)) (fun a h1 h2 i => (notS_n)) hq), hst.2.2.1 _ _ (notS_n)⟩)⟩)
  · skip
    refine r_st (pc' := 6) (lv' := [(3, _), (0, _), (1, _), (2, _)]) rfl rfl rfl rfl ?_
    refine r_ld (pc' := 7) rfl rfl rfl rfl ?_
    refine r_nul_t rfl ?_
    refine r_al (pc' := 24) rfl rfl rfl rfl ?_
    exact r_rl rfl (po_L hst ⟨by decide, by decide⟩ ⟨rfl, rfl, rfl, by omega, by omega, (by exact ⟨CV_f ht hz hst (notS_n) (notS_n) (notS_n) (notS_n) (notS_n) (fun i => (notS_n)) (fun i => (notS_n)) (fun i => (notS_n)) (fun a h1 h2 i => (notS_n)) (notS_n) (notS_n) (notS_n) (fun a h1 h2 i => (notS_n)) (fun a h1 h2 i => (notS_n)) hcv, (fun hq => GA_f ht hz hst (notS_n) (notS_n) (fun i => (notS_n)) (fun a h1 h2 i => (notS_n)) hq), hst.2.2.1 _ _ (notS_n)⟩)⟩)
/-- LoopGround across -/
abbrev S_114s  : mS := [(4, 4, 8, 8), (7, 7, 0, 17), (6, 6, 0, 17), (8, 8, 0, 35), (4, 4, 9, 9), (4, 4, 10, 10), (4, 4, 11, 11), (4, 4, 12, 12), (4, 4, 13, 13), (9, 9, 0, 35)]
abbrev E_114s (t : Nat) (u : Nat) (a1 : Int) (a2 : Int) (z0 w0 : mZ) (tx it tt ct : Option Nat) : Int → mZ → mZ → mP → Prop := fun v z w p => ∃ tt_e : Option Nat, p = (pq (some t) (some u) tx it (some t) tt_e ct) ∧ (-1073741824) ≤ v ∧ v ≤ 1073741823 ∧ (CV z w t ∧ (GA z0 z0 t → GA z z t) ∧ z 1 15 = z0 1 15)
theorem m_114s {d : Nat} {z0 w0 : mZ} {tx it tt ct : Option Nat} (t : Nat) (u : Nat) (a1 : Int) (a2 : Int) (hz : rz z0) (hw : rw_ w0) (ha1 : (-2147483648) ≤ a1 ∧ a1 ≤ 2147483647) (ha2 : (-2147483648) ≤ a2 ∧ a2 ≤ 2147483647) (ht : isT t) (hu : isT u) (hcv : CV z0 w0 t) (hga : GA z0 z0 t) : wc (d + 5) 114 [.ref 1, .int (Int32.ofInt a1), .int (Int32.ofInt a2)] (mk z0 w0 (pq (some t) (some u) tx it (some t) tt ct)) (poI S_114s z0 w0 (E_114s t u a1 a2 z0 w0 tx it tt ct)) := by
  have hst : st_ S_114s z0 w0 z0 w0 := st_rf hz hw
  have htb : 159 ≤ t ∧ t ≤ 192 := by have := ht; unfold isT at this; omega
  have hub : 159 ≤ u ∧ u ≤ 192 := by have := hu; unfold isT at this; omega
  have hz44 := rd_1_15 hz
  have hwt := hcv.1
  have hzt3 := rd_T_3 ht hz
  have h390 := rd_39_0 hz
  have h391 := rd_39_1 hz
  have h392 := rd_39_2 hz
  refine w_m rfl rfl ?_
  refine r_ld (pc' := 1) rfl rfl rfl rfl ?_
  refine r_gr (b := 10) (pc' := 4) rfl rfl sh_1 rfl pp_1_3 ?_
  refine r_ld (pc' := 5) rfl rfl rfl rfl ?_
  refine r_cVR (pc' := 8) rfl rfl rfl rfl rfl sh_10 (m_22s (d := d + 3) t a1 hst.1 hst.2.1 ⟨by omega, by omega⟩ ht) (fun v45 z46 w47 p48 hs50 hE51 => ?_)
  rcases hE51 with ⟨rfl, rfl, rfl, rfl, hrn⟩ | ⟨rfl, rfl, rfl, rfl, hrx⟩
  · skip
    refine r_st (pc' := 9) (lv' := [(3, _), (0, _), (1, _), (2, _)]) rfl rfl rfl rfl ?_
    refine r_ld (pc' := 10) rfl rfl rfl rfl ?_
    refine r_gr (b := 10) (pc' := 13) rfl rfl sh_1 rfl pp_1_3 ?_
    refine r_ld (pc' := 14) rfl rfl rfl rfl ?_
    refine r_cVR (pc' := 17) rfl rfl rfl rfl rfl sh_10 (m_22s (d := d + 3) t a2 hst.1 hst.2.1 ⟨by omega, by omega⟩ ht) (fun v53 z54 w55 p56 hs58 hE59 => ?_)
    rcases hE59 with ⟨rfl, rfl, rfl, rfl, hrn⟩ | ⟨rfl, rfl, rfl, rfl, hrx⟩
    · skip
      refine r_st (pc' := 19) (lv' := [(4, _), (3, _), (0, _), (1, _), (2, _)]) rfl rfl rfl rfl ?_
      refine r_ld (pc' := 20) rfl rfl rfl rfl ?_
      refine r_nul_t rfl ?_
      refine r_al (pc' := 45) rfl rfl rfl rfl ?_
      have hb61 := rd_1_15 hz
      exact r_ri rfl (po_I hst ⟨by decide, by decide⟩ ⟨_, rfl, by omega, by omega, (by exact ⟨CV_f ht hz hst (notS_c (by omega) (notS_c (by omega) (notS_c (by omega) (notS_c (by omega) (notS_c (by omega) (notS_c (by omega) (notS_c (by omega) (notS_c (by omega) (notS_c (by omega) (notS_c (by omega) (notS_n))))))))))) (notS_c (by omega) (notS_c (by omega) (notS_c (by omega) (notS_c (by omega) (notS_c (by omega) (notS_c (by omega) (notS_c (by omega) (notS_c (by omega) (notS_c (by omega) (notS_c (by omega) (notS_n))))))))))) (notS_c (by omega) (notS_c (by omega) (notS_c (by omega) (notS_c (by omega) (notS_c (by omega) (notS_c (by omega) (notS_c (by omega) (notS_c (by omega) (notS_c (by omega) (notS_c (by omega) (notS_n))))))))))) (notS_c (by omega) (notS_c (by omega) (notS_c (by omega) (notS_c (by omega) (notS_c (by omega) (notS_c (by omega) (notS_c (by omega) (notS_c (by omega) (notS_c (by omega) (notS_c (by omega) (notS_n))))))))))) (notS_c (by omega) (notS_c (by omega) (notS_c (by omega) (notS_c (by omega) (notS_c (by omega) (notS_c (by omega) (notS_c (by omega) (notS_c (by omega) (notS_c (by omega) (notS_c (by omega) (notS_n))))))))))) (fun i => (notS_c (by omega) (notS_c (by omega) (notS_c (by omega) (notS_c (by omega) (notS_c (by omega) (notS_c (by omega) (notS_c (by omega) (notS_c (by omega) (notS_c (by omega) (notS_c (by omega) (notS_n)))))))))))) (fun i => (notS_c (by omega) (notS_c (by omega) (notS_c (by omega) (notS_c (by omega) (notS_c (by omega) (notS_c (by omega) (notS_c (by omega) (notS_c (by omega) (notS_c (by omega) (notS_c (by omega) (notS_n)))))))))))) (fun i => (notS_c (by omega) (notS_c (by omega) (notS_c (by omega) (notS_c (by omega) (notS_c (by omega) (notS_c (by omega) (notS_c (by omega) (notS_c (by omega) (notS_c (by omega) (notS_c (by omega) (notS_n)))))))))))) (fun a h1 h2 i => (notS_c (by omega) (notS_c (by omega) (notS_c (by omega) (notS_c (by omega) (notS_c (by omega) (notS_c (by omega) (notS_c (by omega) (notS_c (by omega) (notS_c (by omega) (notS_c (by omega) (notS_n)))))))))))) (notS_c (by omega) (notS_c (by omega) (notS_c (by omega) (notS_c (by omega) (notS_c (by omega) (notS_c (by omega) (notS_c (by omega) (notS_c (by omega) (notS_c (by omega) (notS_c (by omega) (notS_n))))))))))) (notS_c (by omega) (notS_c (by omega) (notS_c (by omega) (notS_c (by omega) (notS_c (by omega) (notS_c (by omega) (notS_c (by omega) (notS_c (by omega) (notS_c (by omega) (notS_c (by omega) (notS_n))))))))))) (notS_c (by omega) (notS_c (by omega) (notS_c (by omega) (notS_c (by omega) (notS_c (by omega) (notS_c (by omega) (notS_c (by omega) (notS_c (by omega) (notS_c (by omega) (notS_c (by omega) (notS_n))))))))))) (fun a h1 h2 i => (notS_c (by omega) (notS_c (by omega) (notS_c (by omega) (notS_c (by omega) (notS_c (by omega) (notS_c (by omega) (notS_c (by omega) (notS_c (by omega) (notS_c (by omega) (notS_c (by omega) (notS_n)))))))))))) (fun a h1 h2 i => (notS_c (by omega) (notS_c (by omega) (notS_c (by omega) (notS_c (by omega) (notS_c (by omega) (notS_c (by omega) (notS_c (by omega) (notS_c (by omega) (notS_c (by omega) (notS_c (by omega) (notS_n)))))))))))) hcv, (fun hq => GA_f ht hz hst (notS_c (by omega) (notS_c (by omega) (notS_c (by omega) (notS_c (by omega) (notS_c (by omega) (notS_c (by omega) (notS_c (by omega) (notS_c (by omega) (notS_c (by omega) (notS_c (by omega) (notS_n))))))))))) (notS_c (by omega) (notS_c (by omega) (notS_c (by omega) (notS_c (by omega) (notS_c (by omega) (notS_c (by omega) (notS_c (by omega) (notS_c (by omega) (notS_c (by omega) (notS_c (by omega) (notS_n))))))))))) (fun i => (notS_c (by omega) (notS_c (by omega) (notS_c (by omega) (notS_c (by omega) (notS_c (by omega) (notS_c (by omega) (notS_c (by omega) (notS_c (by omega) (notS_c (by omega) (notS_c (by omega) (notS_n)))))))))))) (fun a h1 h2 i => (notS_c (by omega) (notS_c (by omega) (notS_c (by omega) (notS_c (by omega) (notS_c (by omega) (notS_c (by omega) (notS_c (by omega) (notS_c (by omega) (notS_c (by omega) (notS_c (by omega) (notS_n)))))))))))) hq), hst.2.2.1 _ _ (notS_c (by omega) (notS_c (by omega) (notS_c (by omega) (notS_c (by omega) (notS_c (by omega) (notS_c (by omega) (notS_c (by omega) (notS_c (by omega) (notS_c (by omega) (notS_c (by omega) (notS_n)))))))))))⟩)⟩)
    · skip
      refine r_st (pc' := 19) (lv' := [(4, _), (3, _), (0, _), (1, _), (2, _)]) rfl rfl rfl rfl ?_
      refine r_ld (pc' := 20) rfl rfl rfl rfl ?_
      refine r_nul_t rfl ?_
      refine r_al (pc' := 45) rfl rfl rfl rfl ?_
      have hb62 := rd_1_15 hz
      exact r_ri rfl (po_I hst ⟨by decide, by decide⟩ ⟨_, rfl, by omega, by omega, (by exact ⟨CV_f ht hz hst (notS_c (by omega) (notS_c (by omega) (notS_c (by omega) (notS_c (by omega) (notS_c (by omega) (notS_c (by omega) (notS_c (by omega) (notS_c (by omega) (notS_c (by omega) (notS_c (by omega) (notS_n))))))))))) (notS_c (by omega) (notS_c (by omega) (notS_c (by omega) (notS_c (by omega) (notS_c (by omega) (notS_c (by omega) (notS_c (by omega) (notS_c (by omega) (notS_c (by omega) (notS_c (by omega) (notS_n))))))))))) (notS_c (by omega) (notS_c (by omega) (notS_c (by omega) (notS_c (by omega) (notS_c (by omega) (notS_c (by omega) (notS_c (by omega) (notS_c (by omega) (notS_c (by omega) (notS_c (by omega) (notS_n))))))))))) (notS_c (by omega) (notS_c (by omega) (notS_c (by omega) (notS_c (by omega) (notS_c (by omega) (notS_c (by omega) (notS_c (by omega) (notS_c (by omega) (notS_c (by omega) (notS_c (by omega) (notS_n))))))))))) (notS_c (by omega) (notS_c (by omega) (notS_c (by omega) (notS_c (by omega) (notS_c (by omega) (notS_c (by omega) (notS_c (by omega) (notS_c (by omega) (notS_c (by omega) (notS_c (by omega) (notS_n))))))))))) (fun i => (notS_c (by omega) (notS_c (by omega) (notS_c (by omega) (notS_c (by omega) (notS_c (by omega) (notS_c (by omega) (notS_c (by omega) (notS_c (by omega) (notS_c (by omega) (notS_c (by omega) (notS_n)))))))))))) (fun i => (notS_c (by omega) (notS_c (by omega) (notS_c (by omega) (notS_c (by omega) (notS_c (by omega) (notS_c (by omega) (notS_c (by omega) (notS_c (by omega) (notS_c (by omega) (notS_c (by omega) (notS_n)))))))))))) (fun i => (notS_c (by omega) (notS_c (by omega) (notS_c (by omega) (notS_c (by omega) (notS_c (by omega) (notS_c (by omega) (notS_c (by omega) (notS_c (by omega) (notS_c (by omega) (notS_c (by omega) (notS_n)))))))))))) (fun a h1 h2 i => (notS_c (by omega) (notS_c (by omega) (notS_c (by omega) (notS_c (by omega) (notS_c (by omega) (notS_c (by omega) (notS_c (by omega) (notS_c (by omega) (notS_c (by omega) (notS_c (by omega) (notS_n)))))))))))) (notS_c (by omega) (notS_c (by omega) (notS_c (by omega) (notS_c (by omega) (notS_c (by omega) (notS_c (by omega) (notS_c (by omega) (notS_c (by omega) (notS_c (by omega) (notS_c (by omega) (notS_n))))))))))) (notS_c (by omega) (notS_c (by omega) (notS_c (by omega) (notS_c (by omega) (notS_c (by omega) (notS_c (by omega) (notS_c (by omega) (notS_c (by omega) (notS_c (by omega) (notS_c (by omega) (notS_n))))))))))) (notS_c (by omega) (notS_c (by omega) (notS_c (by omega) (notS_c (by omega) (notS_c (by omega) (notS_c (by omega) (notS_c (by omega) (notS_c (by omega) (notS_c (by omega) (notS_c (by omega) (notS_n))))))))))) (fun a h1 h2 i => (notS_c (by omega) (notS_c (by omega) (notS_c (by omega) (notS_c (by omega) (notS_c (by omega) (notS_c (by omega) (notS_c (by omega) (notS_c (by omega) (notS_c (by omega) (notS_c (by omega) (notS_n)))))))))))) (fun a h1 h2 i => (notS_c (by omega) (notS_c (by omega) (notS_c (by omega) (notS_c (by omega) (notS_c (by omega) (notS_c (by omega) (notS_c (by omega) (notS_c (by omega) (notS_c (by omega) (notS_c (by omega) (notS_n)))))))))))) hcv, (fun hq => GA_f ht hz hst (notS_c (by omega) (notS_c (by omega) (notS_c (by omega) (notS_c (by omega) (notS_c (by omega) (notS_c (by omega) (notS_c (by omega) (notS_c (by omega) (notS_c (by omega) (notS_c (by omega) (notS_n))))))))))) (notS_c (by omega) (notS_c (by omega) (notS_c (by omega) (notS_c (by omega) (notS_c (by omega) (notS_c (by omega) (notS_c (by omega) (notS_c (by omega) (notS_c (by omega) (notS_c (by omega) (notS_n))))))))))) (fun i => (notS_c (by omega) (notS_c (by omega) (notS_c (by omega) (notS_c (by omega) (notS_c (by omega) (notS_c (by omega) (notS_c (by omega) (notS_c (by omega) (notS_c (by omega) (notS_c (by omega) (notS_n)))))))))))) (fun a h1 h2 i => (notS_c (by omega) (notS_c (by omega) (notS_c (by omega) (notS_c (by omega) (notS_c (by omega) (notS_c (by omega) (notS_c (by omega) (notS_c (by omega) (notS_c (by omega) (notS_c (by omega) (notS_n)))))))))))) hq), hst.2.2.1 _ _ (notS_c (by omega) (notS_c (by omega) (notS_c (by omega) (notS_c (by omega) (notS_c (by omega) (notS_c (by omega) (notS_c (by omega) (notS_c (by omega) (notS_c (by omega) (notS_c (by omega) (notS_n)))))))))))⟩)⟩)
  · skip
    refine r_st (pc' := 9) (lv' := [(3, _), (0, _), (1, _), (2, _)]) rfl rfl rfl rfl ?_
    refine r_ld (pc' := 10) rfl rfl rfl rfl ?_
    refine r_gr (b := 10) (pc' := 13) rfl rfl sh_1 rfl pp_1_3 ?_
    refine r_ld (pc' := 14) rfl rfl rfl rfl ?_
    refine r_cVR (pc' := 17) rfl rfl rfl rfl rfl sh_10 (m_22s (d := d + 3) t a2 hst.1 hst.2.1 ⟨by omega, by omega⟩ ht) (fun v63 z64 w65 p66 hs68 hE69 => ?_)
    rcases hE69 with ⟨rfl, rfl, rfl, rfl, hrn⟩ | ⟨rfl, rfl, rfl, rfl, hrx⟩
    · skip
      refine r_st (pc' := 19) (lv' := [(4, _), (3, _), (0, _), (1, _), (2, _)]) rfl rfl rfl rfl ?_
      refine r_ld (pc' := 20) rfl rfl rfl rfl ?_
      refine r_nul_f (pc' := 23) rfl rfl ?_
      refine r_ld (pc' := 25) rfl rfl rfl rfl ?_
      refine r_nul_t rfl ?_
      refine r_al (pc' := 45) rfl rfl rfl rfl ?_
      have hb71 := rd_1_15 hz
      exact r_ri rfl (po_I hst ⟨by decide, by decide⟩ ⟨_, rfl, by omega, by omega, (by exact ⟨CV_f ht hz hst (notS_c (by omega) (notS_c (by omega) (notS_c (by omega) (notS_c (by omega) (notS_c (by omega) (notS_c (by omega) (notS_c (by omega) (notS_c (by omega) (notS_c (by omega) (notS_c (by omega) (notS_n))))))))))) (notS_c (by omega) (notS_c (by omega) (notS_c (by omega) (notS_c (by omega) (notS_c (by omega) (notS_c (by omega) (notS_c (by omega) (notS_c (by omega) (notS_c (by omega) (notS_c (by omega) (notS_n))))))))))) (notS_c (by omega) (notS_c (by omega) (notS_c (by omega) (notS_c (by omega) (notS_c (by omega) (notS_c (by omega) (notS_c (by omega) (notS_c (by omega) (notS_c (by omega) (notS_c (by omega) (notS_n))))))))))) (notS_c (by omega) (notS_c (by omega) (notS_c (by omega) (notS_c (by omega) (notS_c (by omega) (notS_c (by omega) (notS_c (by omega) (notS_c (by omega) (notS_c (by omega) (notS_c (by omega) (notS_n))))))))))) (notS_c (by omega) (notS_c (by omega) (notS_c (by omega) (notS_c (by omega) (notS_c (by omega) (notS_c (by omega) (notS_c (by omega) (notS_c (by omega) (notS_c (by omega) (notS_c (by omega) (notS_n))))))))))) (fun i => (notS_c (by omega) (notS_c (by omega) (notS_c (by omega) (notS_c (by omega) (notS_c (by omega) (notS_c (by omega) (notS_c (by omega) (notS_c (by omega) (notS_c (by omega) (notS_c (by omega) (notS_n)))))))))))) (fun i => (notS_c (by omega) (notS_c (by omega) (notS_c (by omega) (notS_c (by omega) (notS_c (by omega) (notS_c (by omega) (notS_c (by omega) (notS_c (by omega) (notS_c (by omega) (notS_c (by omega) (notS_n)))))))))))) (fun i => (notS_c (by omega) (notS_c (by omega) (notS_c (by omega) (notS_c (by omega) (notS_c (by omega) (notS_c (by omega) (notS_c (by omega) (notS_c (by omega) (notS_c (by omega) (notS_c (by omega) (notS_n)))))))))))) (fun a h1 h2 i => (notS_c (by omega) (notS_c (by omega) (notS_c (by omega) (notS_c (by omega) (notS_c (by omega) (notS_c (by omega) (notS_c (by omega) (notS_c (by omega) (notS_c (by omega) (notS_c (by omega) (notS_n)))))))))))) (notS_c (by omega) (notS_c (by omega) (notS_c (by omega) (notS_c (by omega) (notS_c (by omega) (notS_c (by omega) (notS_c (by omega) (notS_c (by omega) (notS_c (by omega) (notS_c (by omega) (notS_n))))))))))) (notS_c (by omega) (notS_c (by omega) (notS_c (by omega) (notS_c (by omega) (notS_c (by omega) (notS_c (by omega) (notS_c (by omega) (notS_c (by omega) (notS_c (by omega) (notS_c (by omega) (notS_n))))))))))) (notS_c (by omega) (notS_c (by omega) (notS_c (by omega) (notS_c (by omega) (notS_c (by omega) (notS_c (by omega) (notS_c (by omega) (notS_c (by omega) (notS_c (by omega) (notS_c (by omega) (notS_n))))))))))) (fun a h1 h2 i => (notS_c (by omega) (notS_c (by omega) (notS_c (by omega) (notS_c (by omega) (notS_c (by omega) (notS_c (by omega) (notS_c (by omega) (notS_c (by omega) (notS_c (by omega) (notS_c (by omega) (notS_n)))))))))))) (fun a h1 h2 i => (notS_c (by omega) (notS_c (by omega) (notS_c (by omega) (notS_c (by omega) (notS_c (by omega) (notS_c (by omega) (notS_c (by omega) (notS_c (by omega) (notS_c (by omega) (notS_c (by omega) (notS_n)))))))))))) hcv, (fun hq => GA_f ht hz hst (notS_c (by omega) (notS_c (by omega) (notS_c (by omega) (notS_c (by omega) (notS_c (by omega) (notS_c (by omega) (notS_c (by omega) (notS_c (by omega) (notS_c (by omega) (notS_c (by omega) (notS_n))))))))))) (notS_c (by omega) (notS_c (by omega) (notS_c (by omega) (notS_c (by omega) (notS_c (by omega) (notS_c (by omega) (notS_c (by omega) (notS_c (by omega) (notS_c (by omega) (notS_c (by omega) (notS_n))))))))))) (fun i => (notS_c (by omega) (notS_c (by omega) (notS_c (by omega) (notS_c (by omega) (notS_c (by omega) (notS_c (by omega) (notS_c (by omega) (notS_c (by omega) (notS_c (by omega) (notS_c (by omega) (notS_n)))))))))))) (fun a h1 h2 i => (notS_c (by omega) (notS_c (by omega) (notS_c (by omega) (notS_c (by omega) (notS_c (by omega) (notS_c (by omega) (notS_c (by omega) (notS_c (by omega) (notS_c (by omega) (notS_c (by omega) (notS_n)))))))))))) hq), hst.2.2.1 _ _ (notS_c (by omega) (notS_c (by omega) (notS_c (by omega) (notS_c (by omega) (notS_c (by omega) (notS_c (by omega) (notS_c (by omega) (notS_c (by omega) (notS_c (by omega) (notS_c (by omega) (notS_n)))))))))))⟩)⟩)
    · skip
      refine r_st (pc' := 19) (lv' := [(4, _), (3, _), (0, _), (1, _), (2, _)]) rfl rfl rfl rfl ?_
      refine r_ld (pc' := 20) rfl rfl rfl rfl ?_
      refine r_nul_f (pc' := 23) rfl rfl ?_
      refine r_ld (pc' := 25) rfl rfl rfl rfl ?_
      refine r_nul_f (pc' := 28) rfl rfl ?_
      refine r_ld (pc' := 29) rfl rfl rfl rfl ?_
      have hb72 := rd_R_0 (k := a1.toNat) (by omega) hz
      refine r_gi (pc' := 32) rfl rfl (sh_R (k := a1.toNat) (by omega)) rfl rfl ?_
      refine r_zeq (pc' := 35) rfl rfl ⟨by omega, by omega⟩ (fun hc73 => ?_) (fun hc73 => ?_)
      · skip
        refine r_al (pc' := 45) rfl rfl rfl rfl ?_
        have hb74 := rd_1_15 hz
        exact r_ri rfl (po_I hst ⟨by decide, by decide⟩ ⟨_, rfl, by omega, by omega, (by exact ⟨CV_f ht hz hst (notS_c (by omega) (notS_c (by omega) (notS_c (by omega) (notS_c (by omega) (notS_c (by omega) (notS_c (by omega) (notS_c (by omega) (notS_c (by omega) (notS_c (by omega) (notS_c (by omega) (notS_n))))))))))) (notS_c (by omega) (notS_c (by omega) (notS_c (by omega) (notS_c (by omega) (notS_c (by omega) (notS_c (by omega) (notS_c (by omega) (notS_c (by omega) (notS_c (by omega) (notS_c (by omega) (notS_n))))))))))) (notS_c (by omega) (notS_c (by omega) (notS_c (by omega) (notS_c (by omega) (notS_c (by omega) (notS_c (by omega) (notS_c (by omega) (notS_c (by omega) (notS_c (by omega) (notS_c (by omega) (notS_n))))))))))) (notS_c (by omega) (notS_c (by omega) (notS_c (by omega) (notS_c (by omega) (notS_c (by omega) (notS_c (by omega) (notS_c (by omega) (notS_c (by omega) (notS_c (by omega) (notS_c (by omega) (notS_n))))))))))) (notS_c (by omega) (notS_c (by omega) (notS_c (by omega) (notS_c (by omega) (notS_c (by omega) (notS_c (by omega) (notS_c (by omega) (notS_c (by omega) (notS_c (by omega) (notS_c (by omega) (notS_n))))))))))) (fun i => (notS_c (by omega) (notS_c (by omega) (notS_c (by omega) (notS_c (by omega) (notS_c (by omega) (notS_c (by omega) (notS_c (by omega) (notS_c (by omega) (notS_c (by omega) (notS_c (by omega) (notS_n)))))))))))) (fun i => (notS_c (by omega) (notS_c (by omega) (notS_c (by omega) (notS_c (by omega) (notS_c (by omega) (notS_c (by omega) (notS_c (by omega) (notS_c (by omega) (notS_c (by omega) (notS_c (by omega) (notS_n)))))))))))) (fun i => (notS_c (by omega) (notS_c (by omega) (notS_c (by omega) (notS_c (by omega) (notS_c (by omega) (notS_c (by omega) (notS_c (by omega) (notS_c (by omega) (notS_c (by omega) (notS_c (by omega) (notS_n)))))))))))) (fun a h1 h2 i => (notS_c (by omega) (notS_c (by omega) (notS_c (by omega) (notS_c (by omega) (notS_c (by omega) (notS_c (by omega) (notS_c (by omega) (notS_c (by omega) (notS_c (by omega) (notS_c (by omega) (notS_n)))))))))))) (notS_c (by omega) (notS_c (by omega) (notS_c (by omega) (notS_c (by omega) (notS_c (by omega) (notS_c (by omega) (notS_c (by omega) (notS_c (by omega) (notS_c (by omega) (notS_c (by omega) (notS_n))))))))))) (notS_c (by omega) (notS_c (by omega) (notS_c (by omega) (notS_c (by omega) (notS_c (by omega) (notS_c (by omega) (notS_c (by omega) (notS_c (by omega) (notS_c (by omega) (notS_c (by omega) (notS_n))))))))))) (notS_c (by omega) (notS_c (by omega) (notS_c (by omega) (notS_c (by omega) (notS_c (by omega) (notS_c (by omega) (notS_c (by omega) (notS_c (by omega) (notS_c (by omega) (notS_c (by omega) (notS_n))))))))))) (fun a h1 h2 i => (notS_c (by omega) (notS_c (by omega) (notS_c (by omega) (notS_c (by omega) (notS_c (by omega) (notS_c (by omega) (notS_c (by omega) (notS_c (by omega) (notS_c (by omega) (notS_c (by omega) (notS_n)))))))))))) (fun a h1 h2 i => (notS_c (by omega) (notS_c (by omega) (notS_c (by omega) (notS_c (by omega) (notS_c (by omega) (notS_c (by omega) (notS_c (by omega) (notS_c (by omega) (notS_c (by omega) (notS_c (by omega) (notS_n)))))))))))) hcv, (fun hq => GA_f ht hz hst (notS_c (by omega) (notS_c (by omega) (notS_c (by omega) (notS_c (by omega) (notS_c (by omega) (notS_c (by omega) (notS_c (by omega) (notS_c (by omega) (notS_c (by omega) (notS_c (by omega) (notS_n))))))))))) (notS_c (by omega) (notS_c (by omega) (notS_c (by omega) (notS_c (by omega) (notS_c (by omega) (notS_c (by omega) (notS_c (by omega) (notS_c (by omega) (notS_c (by omega) (notS_c (by omega) (notS_n))))))))))) (fun i => (notS_c (by omega) (notS_c (by omega) (notS_c (by omega) (notS_c (by omega) (notS_c (by omega) (notS_c (by omega) (notS_c (by omega) (notS_c (by omega) (notS_c (by omega) (notS_c (by omega) (notS_n)))))))))))) (fun a h1 h2 i => (notS_c (by omega) (notS_c (by omega) (notS_c (by omega) (notS_c (by omega) (notS_c (by omega) (notS_c (by omega) (notS_c (by omega) (notS_c (by omega) (notS_c (by omega) (notS_c (by omega) (notS_n)))))))))))) hq), hst.2.2.1 _ _ (notS_c (by omega) (notS_c (by omega) (notS_c (by omega) (notS_c (by omega) (notS_c (by omega) (notS_c (by omega) (notS_c (by omega) (notS_c (by omega) (notS_c (by omega) (notS_c (by omega) (notS_n)))))))))))⟩)⟩)
      · skip
        refine r_ld (pc' := 37) rfl rfl rfl rfl ?_
        have hb75 := rd_R_0 (k := a2.toNat) (by omega) hz
        refine r_gi (pc' := 40) rfl rfl (sh_R (k := a2.toNat) (by omega)) rfl rfl ?_
        refine r_zne (pc' := 43) rfl rfl ⟨by omega, by omega⟩ (fun hc76 => ?_) (fun hc76 => ?_)
        · skip
          refine r_ld (pc' := 47) rfl rfl rfl rfl ?_
          refine r_gr (b := 4) (pc' := 50) rfl rfl sh_1 rfl pp_1_2 ?_
          refine r_ld (pc' := 51) rfl rfl rfl rfl ?_
          refine r_gr (b := t) (pc' := 54) rfl rfl sh_1 rfl pp_1_13 ?_
          refine r_ld (pc' := 55) rfl rfl rfl rfl ?_
          refine r_gr (b := t) (pc' := 58) rfl rfl sh_1 rfl pp_1_13 ?_
          refine r_gr (b := t + 7) (pc' := 61) rfl rfl (sh_T ht) rfl (pp_T_11 ht) ?_
          refine r_ld (pc' := 62) rfl rfl rfl rfl ?_
          refine r_aa (b := t + 8 + a1.toNat) (pc' := 63) rfl rfl (sh_T7 ht) (Or.inl rfl) rfl (by omega) (by omega) (pa_T7 ht (by omega)) ?_
          refine r_ld (pc' := 64) rfl rfl rfl rfl ?_
          refine r_gr (b := t) (pc' := 67) rfl rfl sh_1 rfl pp_1_13 ?_
          refine r_gr (b := t + 7) (pc' := 70) rfl rfl (sh_T ht) rfl (pp_T_11 ht) ?_
          refine r_ld (pc' := 71) rfl rfl rfl rfl ?_
          refine r_aa (b := t + 8 + a2.toNat) (pc' := 72) rfl rfl (sh_T7 ht) (Or.inl rfl) rfl (by omega) (by omega) (pa_T7 ht (by omega)) ?_
          refine r_cVI (pc' := 75) rfl rfl rfl rfl rfl sh_4 (m_99 (d := d) t (t + 8 + a1.toNat) (t + 8 + a2.toNat) hst.1 hst.2.1 ht (by exact hwt) (by exact hcv.2.1 _ (by omega)) (by exact hcv.2.1 _ (by omega)) (lr_T8 ht (k := a1.toNat) (by omega) ) (by first | omega | assumption) (fun e he => by have q := rd_T8 ht (k := a1.toNat) (by omega) hst.2.1 (i := e) he; exact ⟨by omega, by omega⟩) (lr_T8 ht (k := a2.toNat) (by omega) ) (by first | omega | assumption) (fun e he => by have q := rd_T8 ht (k := a2.toNat) (by omega) hst.2.1 (i := e) he; exact ⟨by omega, by omega⟩)) (fun v77 z78 w79 p80 h81 hs82 hE83 => ?_)
          have hs84 := st_tr hst hs82 (sub_B rfl)
          obtain ⟨rfl, hE83⟩ := hE83
          have hb85 := rd_1_15 hz
          have hf86 : z78 1 15 = z0 1 15 := (hs82.2.2.1 _ _ (notS_c (by omega) (notS_c (by omega) (notS_c (by omega) (notS_c (by omega) (notS_c (by omega) (notS_c (by omega) (notS_c (by omega) (notS_c (by omega) (notS_c (by omega) (notS_c (by omega) notS_n)))))))))))
          exact r_ri rfl (po_I hs84 ⟨by omega, by omega⟩ ⟨_, rfl, by omega, by omega, (by exact ⟨CV_f ht hz hs84 (notS_c (by omega) (notS_c (by omega) (notS_c (by omega) (notS_c (by omega) (notS_c (by omega) (notS_c (by omega) (notS_c (by omega) (notS_c (by omega) (notS_c (by omega) (notS_c (by omega) (notS_n))))))))))) (notS_c (by omega) (notS_c (by omega) (notS_c (by omega) (notS_c (by omega) (notS_c (by omega) (notS_c (by omega) (notS_c (by omega) (notS_c (by omega) (notS_c (by omega) (notS_c (by omega) (notS_n))))))))))) (notS_c (by omega) (notS_c (by omega) (notS_c (by omega) (notS_c (by omega) (notS_c (by omega) (notS_c (by omega) (notS_c (by omega) (notS_c (by omega) (notS_c (by omega) (notS_c (by omega) (notS_n))))))))))) (notS_c (by omega) (notS_c (by omega) (notS_c (by omega) (notS_c (by omega) (notS_c (by omega) (notS_c (by omega) (notS_c (by omega) (notS_c (by omega) (notS_c (by omega) (notS_c (by omega) (notS_n))))))))))) (notS_c (by omega) (notS_c (by omega) (notS_c (by omega) (notS_c (by omega) (notS_c (by omega) (notS_c (by omega) (notS_c (by omega) (notS_c (by omega) (notS_c (by omega) (notS_c (by omega) (notS_n))))))))))) (fun i => (notS_c (by omega) (notS_c (by omega) (notS_c (by omega) (notS_c (by omega) (notS_c (by omega) (notS_c (by omega) (notS_c (by omega) (notS_c (by omega) (notS_c (by omega) (notS_c (by omega) (notS_n)))))))))))) (fun i => (notS_c (by omega) (notS_c (by omega) (notS_c (by omega) (notS_c (by omega) (notS_c (by omega) (notS_c (by omega) (notS_c (by omega) (notS_c (by omega) (notS_c (by omega) (notS_c (by omega) (notS_n)))))))))))) (fun i => (notS_c (by omega) (notS_c (by omega) (notS_c (by omega) (notS_c (by omega) (notS_c (by omega) (notS_c (by omega) (notS_c (by omega) (notS_c (by omega) (notS_c (by omega) (notS_c (by omega) (notS_n)))))))))))) (fun a h1 h2 i => (notS_c (by omega) (notS_c (by omega) (notS_c (by omega) (notS_c (by omega) (notS_c (by omega) (notS_c (by omega) (notS_c (by omega) (notS_c (by omega) (notS_c (by omega) (notS_c (by omega) (notS_n)))))))))))) (notS_c (by omega) (notS_c (by omega) (notS_c (by omega) (notS_c (by omega) (notS_c (by omega) (notS_c (by omega) (notS_c (by omega) (notS_c (by omega) (notS_c (by omega) (notS_c (by omega) (notS_n))))))))))) (notS_c (by omega) (notS_c (by omega) (notS_c (by omega) (notS_c (by omega) (notS_c (by omega) (notS_c (by omega) (notS_c (by omega) (notS_c (by omega) (notS_c (by omega) (notS_c (by omega) (notS_n))))))))))) (notS_c (by omega) (notS_c (by omega) (notS_c (by omega) (notS_c (by omega) (notS_c (by omega) (notS_c (by omega) (notS_c (by omega) (notS_c (by omega) (notS_c (by omega) (notS_c (by omega) (notS_n))))))))))) (fun a h1 h2 i => (notS_c (by omega) (notS_c (by omega) (notS_c (by omega) (notS_c (by omega) (notS_c (by omega) (notS_c (by omega) (notS_c (by omega) (notS_c (by omega) (notS_c (by omega) (notS_c (by omega) (notS_n)))))))))))) (fun a h1 h2 i => (notS_c (by omega) (notS_c (by omega) (notS_c (by omega) (notS_c (by omega) (notS_c (by omega) (notS_c (by omega) (notS_c (by omega) (notS_c (by omega) (notS_c (by omega) (notS_c (by omega) (notS_n)))))))))))) hcv, (fun hq => GA_f ht hz hs84 (notS_c (by omega) (notS_c (by omega) (notS_c (by omega) (notS_c (by omega) (notS_c (by omega) (notS_c (by omega) (notS_c (by omega) (notS_c (by omega) (notS_c (by omega) (notS_c (by omega) (notS_n))))))))))) (notS_c (by omega) (notS_c (by omega) (notS_c (by omega) (notS_c (by omega) (notS_c (by omega) (notS_c (by omega) (notS_c (by omega) (notS_c (by omega) (notS_c (by omega) (notS_c (by omega) (notS_n))))))))))) (fun i => (notS_c (by omega) (notS_c (by omega) (notS_c (by omega) (notS_c (by omega) (notS_c (by omega) (notS_c (by omega) (notS_c (by omega) (notS_c (by omega) (notS_c (by omega) (notS_c (by omega) (notS_n)))))))))))) (fun a h1 h2 i => (notS_c (by omega) (notS_c (by omega) (notS_c (by omega) (notS_c (by omega) (notS_c (by omega) (notS_c (by omega) (notS_c (by omega) (notS_c (by omega) (notS_c (by omega) (notS_c (by omega) (notS_n)))))))))))) hq), hs84.2.2.1 _ _ (notS_c (by omega) (notS_c (by omega) (notS_c (by omega) (notS_c (by omega) (notS_c (by omega) (notS_c (by omega) (notS_c (by omega) (notS_c (by omega) (notS_c (by omega) (notS_c (by omega) (notS_n)))))))))))⟩)⟩)
        · skip
          refine r_al (pc' := 45) rfl rfl rfl rfl ?_
          have hb87 := rd_1_15 hz
          exact r_ri rfl (po_I hst ⟨by decide, by decide⟩ ⟨_, rfl, by omega, by omega, (by exact ⟨CV_f ht hz hst (notS_c (by omega) (notS_c (by omega) (notS_c (by omega) (notS_c (by omega) (notS_c (by omega) (notS_c (by omega) (notS_c (by omega) (notS_c (by omega) (notS_c (by omega) (notS_c (by omega) (notS_n))))))))))) (notS_c (by omega) (notS_c (by omega) (notS_c (by omega) (notS_c (by omega) (notS_c (by omega) (notS_c (by omega) (notS_c (by omega) (notS_c (by omega) (notS_c (by omega) (notS_c (by omega) (notS_n))))))))))) (notS_c (by omega) (notS_c (by omega) (notS_c (by omega) (notS_c (by omega) (notS_c (by omega) (notS_c (by omega) (notS_c (by omega) (notS_c (by omega) (notS_c (by omega) (notS_c (by omega) (notS_n))))))))))) (notS_c (by omega) (notS_c (by omega) (notS_c (by omega) (notS_c (by omega) (notS_c (by omega) (notS_c (by omega) (notS_c (by omega) (notS_c (by omega) (notS_c (by omega) (notS_c (by omega) (notS_n))))))))))) (notS_c (by omega) (notS_c (by omega) (notS_c (by omega) (notS_c (by omega) (notS_c (by omega) (notS_c (by omega) (notS_c (by omega) (notS_c (by omega) (notS_c (by omega) (notS_c (by omega) (notS_n))))))))))) (fun i => (notS_c (by omega) (notS_c (by omega) (notS_c (by omega) (notS_c (by omega) (notS_c (by omega) (notS_c (by omega) (notS_c (by omega) (notS_c (by omega) (notS_c (by omega) (notS_c (by omega) (notS_n)))))))))))) (fun i => (notS_c (by omega) (notS_c (by omega) (notS_c (by omega) (notS_c (by omega) (notS_c (by omega) (notS_c (by omega) (notS_c (by omega) (notS_c (by omega) (notS_c (by omega) (notS_c (by omega) (notS_n)))))))))))) (fun i => (notS_c (by omega) (notS_c (by omega) (notS_c (by omega) (notS_c (by omega) (notS_c (by omega) (notS_c (by omega) (notS_c (by omega) (notS_c (by omega) (notS_c (by omega) (notS_c (by omega) (notS_n)))))))))))) (fun a h1 h2 i => (notS_c (by omega) (notS_c (by omega) (notS_c (by omega) (notS_c (by omega) (notS_c (by omega) (notS_c (by omega) (notS_c (by omega) (notS_c (by omega) (notS_c (by omega) (notS_c (by omega) (notS_n)))))))))))) (notS_c (by omega) (notS_c (by omega) (notS_c (by omega) (notS_c (by omega) (notS_c (by omega) (notS_c (by omega) (notS_c (by omega) (notS_c (by omega) (notS_c (by omega) (notS_c (by omega) (notS_n))))))))))) (notS_c (by omega) (notS_c (by omega) (notS_c (by omega) (notS_c (by omega) (notS_c (by omega) (notS_c (by omega) (notS_c (by omega) (notS_c (by omega) (notS_c (by omega) (notS_c (by omega) (notS_n))))))))))) (notS_c (by omega) (notS_c (by omega) (notS_c (by omega) (notS_c (by omega) (notS_c (by omega) (notS_c (by omega) (notS_c (by omega) (notS_c (by omega) (notS_c (by omega) (notS_c (by omega) (notS_n))))))))))) (fun a h1 h2 i => (notS_c (by omega) (notS_c (by omega) (notS_c (by omega) (notS_c (by omega) (notS_c (by omega) (notS_c (by omega) (notS_c (by omega) (notS_c (by omega) (notS_c (by omega) (notS_c (by omega) (notS_n)))))))))))) (fun a h1 h2 i => (notS_c (by omega) (notS_c (by omega) (notS_c (by omega) (notS_c (by omega) (notS_c (by omega) (notS_c (by omega) (notS_c (by omega) (notS_c (by omega) (notS_c (by omega) (notS_c (by omega) (notS_n)))))))))))) hcv, (fun hq => GA_f ht hz hst (notS_c (by omega) (notS_c (by omega) (notS_c (by omega) (notS_c (by omega) (notS_c (by omega) (notS_c (by omega) (notS_c (by omega) (notS_c (by omega) (notS_c (by omega) (notS_c (by omega) (notS_n))))))))))) (notS_c (by omega) (notS_c (by omega) (notS_c (by omega) (notS_c (by omega) (notS_c (by omega) (notS_c (by omega) (notS_c (by omega) (notS_c (by omega) (notS_c (by omega) (notS_c (by omega) (notS_n))))))))))) (fun i => (notS_c (by omega) (notS_c (by omega) (notS_c (by omega) (notS_c (by omega) (notS_c (by omega) (notS_c (by omega) (notS_c (by omega) (notS_c (by omega) (notS_c (by omega) (notS_c (by omega) (notS_n)))))))))))) (fun a h1 h2 i => (notS_c (by omega) (notS_c (by omega) (notS_c (by omega) (notS_c (by omega) (notS_c (by omega) (notS_c (by omega) (notS_c (by omega) (notS_c (by omega) (notS_c (by omega) (notS_c (by omega) (notS_n)))))))))))) hq), hst.2.2.1 _ _ (notS_c (by omega) (notS_c (by omega) (notS_c (by omega) (notS_c (by omega) (notS_c (by omega) (notS_c (by omega) (notS_c (by omega) (notS_c (by omega) (notS_c (by omega) (notS_c (by omega) (notS_n)))))))))))⟩)⟩)
/-- LoopGround across -/
abbrev S_114z  : mS := []
abbrev E_114z (t : Nat) (u : Nat) (a1 : Int) (a2 : Int) (z0 w0 : mZ) (tx it tt ct : Option Nat) : Int → mZ → mZ → mP → Prop := fun v z w p => p = (pq (some t) (some u) tx it none tt ct) ∧ z0 = z ∧ w0 = w ∧ (-1000000) ≤ v ∧ v ≤ (-1000000) ∧ (CV z w t ∧ (GA z0 z0 t → GA z z t) ∧ z 1 15 = z0 1 15)
theorem m_114z {d : Nat} {z0 w0 : mZ} {tx it tt ct : Option Nat} (t : Nat) (u : Nat) (a1 : Int) (a2 : Int) (hz : rz z0) (hw : rw_ w0) (ha1 : (-2147483648) ≤ a1 ∧ a1 ≤ 2147483647) (ha2 : (-2147483648) ≤ a2 ∧ a2 ≤ 2147483647) (ht : isT t) (hu : isT u) (hcv : CV z0 w0 t) : wc (d + 5) 114 [.ref 1, .int (Int32.ofInt a1), .int (Int32.ofInt a2)] (mk z0 w0 (pq (some t) (some u) tx it none tt ct)) (poI S_114z z0 w0 (E_114z t u a1 a2 z0 w0 tx it tt ct)) := by
  have hst : st_ S_114z z0 w0 z0 w0 := st_rf hz hw
  have htb : 159 ≤ t ∧ t ≤ 192 := by have := ht; unfold isT at this; omega
  have hub : 159 ≤ u ∧ u ≤ 192 := by have := hu; unfold isT at this; omega
  have hz17 := rd_1_15 hz
  have hwt := hcv.1
  have hzt3 := rd_T_3 ht hz
  have h390 := rd_39_0 hz
  have h391 := rd_39_1 hz
  have h392 := rd_39_2 hz
  refine w_m rfl rfl ?_
  refine r_ld (pc' := 1) rfl rfl rfl rfl ?_
  refine r_gr (b := 10) (pc' := 4) rfl rfl sh_1 rfl pp_1_3 ?_
  refine r_ld (pc' := 5) rfl rfl rfl rfl ?_
  refine r_cVR (pc' := 8) rfl rfl rfl rfl rfl sh_10 (m_22z (d := d + 3) a1 hst.1 hst.2.1 ⟨by omega, by omega⟩) (fun v18 z19 w20 p21 hs23 hE24 => ?_)
  rcases hE24 with ⟨rfl, rfl, rfl, rfl, hrn⟩
  refine r_st (pc' := 9) (lv' := [(3, _), (0, _), (1, _), (2, _)]) rfl rfl rfl rfl ?_
  refine r_ld (pc' := 10) rfl rfl rfl rfl ?_
  refine r_gr (b := 10) (pc' := 13) rfl rfl sh_1 rfl pp_1_3 ?_
  refine r_ld (pc' := 14) rfl rfl rfl rfl ?_
  refine r_cVR (pc' := 17) rfl rfl rfl rfl rfl sh_10 (m_22z (d := d + 3) a2 hst.1 hst.2.1 ⟨by omega, by omega⟩) (fun v26 z27 w28 p29 hs31 hE32 => ?_)
  rcases hE32 with ⟨rfl, rfl, rfl, rfl, hrn⟩
  refine r_st (pc' := 19) (lv' := [(4, _), (3, _), (0, _), (1, _), (2, _)]) rfl rfl rfl rfl ?_
  refine r_ld (pc' := 20) rfl rfl rfl rfl ?_
  refine r_nul_t rfl ?_
  refine r_al (pc' := 45) rfl rfl rfl rfl ?_
  exact r_ri rfl (po_I hst ⟨by decide, by decide⟩ ⟨rfl, rfl, rfl, by omega, by omega, (by exact ⟨CV_f ht hz hst (notS_n) (notS_n) (notS_n) (notS_n) (notS_n) (fun i => (notS_n)) (fun i => (notS_n)) (fun i => (notS_n)) (fun a h1 h2 i => (notS_n)) (notS_n) (notS_n) (notS_n) (fun a h1 h2 i => (notS_n)) (fun a h1 h2 i => (notS_n)) hcv, (fun hq => GA_f ht hz hst (notS_n) (notS_n) (fun i => (notS_n)) (fun a h1 h2 i => (notS_n)) hq), hst.2.2.1 _ _ (notS_n)⟩)⟩)
