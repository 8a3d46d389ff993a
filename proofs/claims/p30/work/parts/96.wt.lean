section
/-! methods, printed by wip/tools/vcg.py -/
/-- LoopGround about -/
abbrev S_132x  : mS := []
abbrev E_132x (t : Nat) (u : Nat) (a1 : Int) (z0 w0 : mZ) (tx it mt tt ct : Option Nat) : Int → mZ → mZ → mP → Prop := fun v z w p => p = (pq (some t) (some u) tx it mt tt ct) ∧ z0 = z ∧ w0 = w ∧ (-2147483648) ≤ v ∧ v ≤ 2147483647 ∧ ((CV z w t ∧ (GA z0 z0 t → GA z z t) ∧ z 1 15 = z0 1 15) ∧ (a1 = 0 → v = z0 t 0) ∧ (a1 = 1 → v = z0 t 1) ∧ (a1 = 2 → v = z0 t 2) ∧ (a1 = 3 → 0 ≤ z0 t 2 ∧ z0 t 2 ≤ 36 → (0 ≤ 2 - z0 t 2 + z0 t 1 - z0 t 0 → v = (2 - z0 t 2 + z0 t 1 - z0 t 0) / 2) ∧ (2 - z0 t 2 + z0 t 1 - z0 t 0 < 0 → v = -(-(2 - z0 t 2 + z0 t 1 - z0 t 0) / 2))) ∧ (a1 = 4 → v = z0 t 3) ∧ (a1 = 5 → v = z0 t 4) ∧ (a1 = 6 → v = z0 39 0) ∧ (a1 = 7 → v = z0 39 1) ∧ (a1 = 8 → v = z0 1 15) ∧ (a1 < 0 ∨ 8 < a1 → v = -1))
theorem m_132x {d : Nat} {z0 w0 : mZ} {tx it mt tt ct : Option Nat} (t : Nat) (u : Nat) (a1 : Int) (hz : rz z0) (hw : rw_ w0) (ha1 : (-2147483648) ≤ a1 ∧ a1 ≤ 2147483647) (ht : isT t) (hu : isT u) (hcv : CV z0 w0 t) : wc (d + 1) 132 [.ref 1, .int (Int32.ofInt a1)] (mk z0 w0 (pq (some t) (some u) tx it mt tt ct)) (poI S_132x z0 w0 (E_132x t u a1 z0 w0 tx it mt tt ct)) := by
  have hst : st_ S_132x z0 w0 z0 w0 := st_rf hz hw
  have htb : 159 ≤ t ∧ t ≤ 192 := by have := ht; unfold isT at this; omega
  have hub : 159 ≤ u ∧ u ≤ 192 := by have := hu; unfold isT at this; omega
  have hz25 := rd_1_15 hz
  have hz26 := rd_39_0 hz
  have hz27 := rd_39_1 hz
  have hz28 := rd_T_0 ht hz
  have hz29 := rd_T_1 ht hz
  have hz30 := rd_T_2 ht hz
  have hz31 := rd_T_3 ht hz
  have hz32 := rd_T_4 ht hz
  refine w_m rfl rfl ?_
  refine r_ld (pc' := 1) rfl rfl rfl rfl ?_
  by_cases hd33 : a1 < 0 ∨ 8 < a1
  · refine r_sw (t := 141) rfl ⟨by omega, by omega⟩ (by rw [if_pos hd33]; rfl) ?_
    refine r_c0 (pc' := 142) rfl rfl ?_
    exact r_ri rfl (po_I hst ⟨by decide, by decide⟩ ⟨rfl, rfl, rfl, by omega, by omega, (by refine ⟨?_, ?_⟩; (first | exact ⟨hcv, fun q => q, rfl⟩ | exact ⟨CV_f ht hz hst (notS_n) (notS_n) (notS_n) (notS_n) (notS_n) (fun i => (notS_n)) (fun i => (notS_n)) (fun i => (notS_n)) (fun a h1 h2 i => (notS_n)) (notS_n) (notS_n) (notS_n) (fun a h1 h2 i => (notS_n)) (fun a h1 h2 i => (notS_n)) hcv, (fun hq => GA_f ht hz hst (notS_n) (notS_n) (fun i => (notS_n)) (fun a h1 h2 i => (notS_n)) hq), hst.2.2.1 _ _ (notS_n)⟩); (refine ⟨?_, ?_, ?_, ?_, ?_, ?_, ?_, ?_, ?_, ?_⟩ <;> first | (intro h; exfalso; omega) | exact fun _ => rfl | (intro _; omega) | (intro _ q; exact ⟨fun _ => by omega, fun _ => by omega⟩)))⟩)
  · rcases (show a1 = 0 ∨ a1 = 1 ∨ a1 = 2 ∨ a1 = 3 ∨ a1 = 4 ∨ a1 = 5 ∨ a1 = 6 ∨ a1 = 7 ∨ a1 = 8 by omega) with hd33 | hd33 | hd33 | hd33 | hd33 | hd33 | hd33 | hd33 | hd33
    · refine r_sw (t := 52) rfl ⟨by omega, by omega⟩ (by rw [hd33]; rfl) ?_
      refine r_ld (pc' := 53) rfl rfl rfl rfl ?_
      refine r_gr (b := t) (pc' := 56) rfl rfl sh_1 rfl pp_1_13 ?_
      have hb34 := rd_T_0 ht hz
      refine r_gi (pc' := 59) rfl rfl (sh_T ht) rfl rfl ?_
      exact r_ri rfl (po_I hst ⟨by omega, by omega⟩ ⟨rfl, rfl, rfl, by omega, by omega, (by refine ⟨?_, ?_⟩; (first | exact ⟨hcv, fun q => q, rfl⟩ | exact ⟨CV_f ht hz hst (notS_n) (notS_n) (notS_n) (notS_n) (notS_n) (fun i => (notS_n)) (fun i => (notS_n)) (fun i => (notS_n)) (fun a h1 h2 i => (notS_n)) (notS_n) (notS_n) (notS_n) (fun a h1 h2 i => (notS_n)) (fun a h1 h2 i => (notS_n)) hcv, (fun hq => GA_f ht hz hst (notS_n) (notS_n) (fun i => (notS_n)) (fun a h1 h2 i => (notS_n)) hq), hst.2.2.1 _ _ (notS_n)⟩); (refine ⟨?_, ?_, ?_, ?_, ?_, ?_, ?_, ?_, ?_, ?_⟩ <;> first | (intro h; exfalso; omega) | exact fun _ => rfl | (intro _; omega) | (intro _ q; exact ⟨fun _ => by omega, fun _ => by omega⟩)))⟩)
    · refine r_sw (t := 60) rfl ⟨by omega, by omega⟩ (by rw [hd33]; rfl) ?_
      refine r_ld (pc' := 61) rfl rfl rfl rfl ?_
      refine r_gr (b := t) (pc' := 64) rfl rfl sh_1 rfl pp_1_13 ?_
      have hb35 := rd_T_1 ht hz
      refine r_gi (pc' := 67) rfl rfl (sh_T ht) rfl rfl ?_
      exact r_ri rfl (po_I hst ⟨by omega, by omega⟩ ⟨rfl, rfl, rfl, by omega, by omega, (by refine ⟨?_, ?_⟩; (first | exact ⟨hcv, fun q => q, rfl⟩ | exact ⟨CV_f ht hz hst (notS_n) (notS_n) (notS_n) (notS_n) (notS_n) (fun i => (notS_n)) (fun i => (notS_n)) (fun i => (notS_n)) (fun a h1 h2 i => (notS_n)) (notS_n) (notS_n) (notS_n) (fun a h1 h2 i => (notS_n)) (fun a h1 h2 i => (notS_n)) hcv, (fun hq => GA_f ht hz hst (notS_n) (notS_n) (fun i => (notS_n)) (fun a h1 h2 i => (notS_n)) hq), hst.2.2.1 _ _ (notS_n)⟩); (refine ⟨?_, ?_, ?_, ?_, ?_, ?_, ?_, ?_, ?_, ?_⟩ <;> first | (intro h; exfalso; omega) | exact fun _ => rfl | (intro _; omega) | (intro _ q; exact ⟨fun _ => by omega, fun _ => by omega⟩)))⟩)
    · refine r_sw (t := 68) rfl ⟨by omega, by omega⟩ (by rw [hd33]; rfl) ?_
      refine r_ld (pc' := 69) rfl rfl rfl rfl ?_
      refine r_gr (b := t) (pc' := 72) rfl rfl sh_1 rfl pp_1_13 ?_
      have hb36 := rd_T_2 ht hz
      refine r_gi (pc' := 75) rfl rfl (sh_T ht) rfl rfl ?_
      exact r_ri rfl (po_I hst ⟨by omega, by omega⟩ ⟨rfl, rfl, rfl, by omega, by omega, (by refine ⟨?_, ?_⟩; (first | exact ⟨hcv, fun q => q, rfl⟩ | exact ⟨CV_f ht hz hst (notS_n) (notS_n) (notS_n) (notS_n) (notS_n) (fun i => (notS_n)) (fun i => (notS_n)) (fun i => (notS_n)) (fun a h1 h2 i => (notS_n)) (notS_n) (notS_n) (notS_n) (fun a h1 h2 i => (notS_n)) (fun a h1 h2 i => (notS_n)) hcv, (fun hq => GA_f ht hz hst (notS_n) (notS_n) (fun i => (notS_n)) (fun a h1 h2 i => (notS_n)) hq), hst.2.2.1 _ _ (notS_n)⟩); (refine ⟨?_, ?_, ?_, ?_, ?_, ?_, ?_, ?_, ?_, ?_⟩ <;> first | (intro h; exfalso; omega) | exact fun _ => rfl | (intro _; omega) | (intro _ q; exact ⟨fun _ => by omega, fun _ => by omega⟩)))⟩)
    · refine r_sw (t := 76) rfl ⟨by omega, by omega⟩ (by rw [hd33]; rfl) ?_
      refine r_c0 (pc' := 77) rfl rfl ?_
      refine r_ld (pc' := 78) rfl rfl rfl rfl ?_
      refine r_gr (b := t) (pc' := 81) rfl rfl sh_1 rfl pp_1_13 ?_
      have hb37 := rd_T_2 ht hz
      refine r_gi (pc' := 84) rfl rfl (sh_T ht) rfl rfl ?_
      refine r_sub (pc' := 85) rfl rfl ?_
      refine w_hxi (fun v38 h39 h40 => ?_)
      refine r_ld (pc' := 86) rfl rfl rfl rfl ?_
      refine r_gr (b := t) (pc' := 89) rfl rfl sh_1 rfl pp_1_13 ?_
      have hb41 := rd_T_1 ht hz
      refine r_gi (pc' := 92) rfl rfl (sh_T ht) rfl rfl ?_
      refine r_add (pc' := 93) rfl rfl ?_
      refine w_hxi (fun v42 h43 h44 => ?_)
      refine r_ld (pc' := 94) rfl rfl rfl rfl ?_
      refine r_gr (b := t) (pc' := 97) rfl rfl sh_1 rfl pp_1_13 ?_
      have hb45 := rd_T_0 ht hz
      refine r_gi (pc' := 100) rfl rfl (sh_T ht) rfl rfl ?_
      refine r_sub (pc' := 101) rfl rfl ?_
      refine w_hxi (fun v46 h47 h48 => ?_)
      refine r_c0 (pc' := 102) rfl rfl ?_
      refine r_dvg (pc' := 103) rfl rfl ⟨by omega, by omega⟩ ⟨by decide, by decide⟩ (by decide) (fun v49 h50 h51 => ?_)
      exact r_ri rfl (po_I hst ⟨by omega, by omega⟩ ⟨rfl, rfl, rfl, by omega, by omega, (by refine ⟨?_, ?_⟩; (first | exact ⟨hcv, fun q => q, rfl⟩ | exact ⟨CV_f ht hz hst (notS_n) (notS_n) (notS_n) (notS_n) (notS_n) (fun i => (notS_n)) (fun i => (notS_n)) (fun i => (notS_n)) (fun a h1 h2 i => (notS_n)) (notS_n) (notS_n) (notS_n) (fun a h1 h2 i => (notS_n)) (fun a h1 h2 i => (notS_n)) hcv, (fun hq => GA_f ht hz hst (notS_n) (notS_n) (fun i => (notS_n)) (fun a h1 h2 i => (notS_n)) hq), hst.2.2.1 _ _ (notS_n)⟩); (refine ⟨?_, ?_, ?_, ?_, ?_, ?_, ?_, ?_, ?_, ?_⟩ <;> first | (intro h; exfalso; omega) | exact fun _ => rfl | (intro _; omega) | (intro _ q; exact ⟨fun _ => by omega, fun _ => by omega⟩)))⟩)
    · refine r_sw (t := 104) rfl ⟨by omega, by omega⟩ (by rw [hd33]; rfl) ?_
      refine r_ld (pc' := 105) rfl rfl rfl rfl ?_
      refine r_gr (b := t) (pc' := 108) rfl rfl sh_1 rfl pp_1_13 ?_
      have hb52 := rd_T_3 ht hz
      refine r_gi (pc' := 111) rfl rfl (sh_T ht) rfl rfl ?_
      exact r_ri rfl (po_I hst ⟨by omega, by omega⟩ ⟨rfl, rfl, rfl, by omega, by omega, (by refine ⟨?_, ?_⟩; (first | exact ⟨hcv, fun q => q, rfl⟩ | exact ⟨CV_f ht hz hst (notS_n) (notS_n) (notS_n) (notS_n) (notS_n) (fun i => (notS_n)) (fun i => (notS_n)) (fun i => (notS_n)) (fun a h1 h2 i => (notS_n)) (notS_n) (notS_n) (notS_n) (fun a h1 h2 i => (notS_n)) (fun a h1 h2 i => (notS_n)) hcv, (fun hq => GA_f ht hz hst (notS_n) (notS_n) (fun i => (notS_n)) (fun a h1 h2 i => (notS_n)) hq), hst.2.2.1 _ _ (notS_n)⟩); (refine ⟨?_, ?_, ?_, ?_, ?_, ?_, ?_, ?_, ?_, ?_⟩ <;> first | (intro h; exfalso; omega) | exact fun _ => rfl | (intro _; omega) | (intro _ q; exact ⟨fun _ => by omega, fun _ => by omega⟩)))⟩)
    · refine r_sw (t := 112) rfl ⟨by omega, by omega⟩ (by rw [hd33]; rfl) ?_
      refine r_ld (pc' := 113) rfl rfl rfl rfl ?_
      refine r_gr (b := t) (pc' := 116) rfl rfl sh_1 rfl pp_1_13 ?_
      have hb53 := rd_T_4 ht hz
      refine r_gi (pc' := 119) rfl rfl (sh_T ht) rfl rfl ?_
      exact r_ri rfl (po_I hst ⟨by omega, by omega⟩ ⟨rfl, rfl, rfl, by omega, by omega, (by refine ⟨?_, ?_⟩; (first | exact ⟨hcv, fun q => q, rfl⟩ | exact ⟨CV_f ht hz hst (notS_n) (notS_n) (notS_n) (notS_n) (notS_n) (fun i => (notS_n)) (fun i => (notS_n)) (fun i => (notS_n)) (fun a h1 h2 i => (notS_n)) (notS_n) (notS_n) (notS_n) (fun a h1 h2 i => (notS_n)) (fun a h1 h2 i => (notS_n)) hcv, (fun hq => GA_f ht hz hst (notS_n) (notS_n) (fun i => (notS_n)) (fun a h1 h2 i => (notS_n)) hq), hst.2.2.1 _ _ (notS_n)⟩); (refine ⟨?_, ?_, ?_, ?_, ?_, ?_, ?_, ?_, ?_, ?_⟩ <;> first | (intro h; exfalso; omega) | exact fun _ => rfl | (intro _; omega) | (intro _ q; exact ⟨fun _ => by omega, fun _ => by omega⟩)))⟩)
    · refine r_sw (t := 120) rfl ⟨by omega, by omega⟩ (by rw [hd33]; rfl) ?_
      refine r_ld (pc' := 121) rfl rfl rfl rfl ?_
      refine r_gr (b := 39) (pc' := 124) rfl rfl sh_1 rfl pp_1_6 ?_
      have hb54 := rd_39_0 hz
      refine r_gi (pc' := 127) rfl rfl sh_39 rfl rfl ?_
      exact r_ri rfl (po_I hst ⟨by omega, by omega⟩ ⟨rfl, rfl, rfl, by omega, by omega, (by refine ⟨?_, ?_⟩; (first | exact ⟨hcv, fun q => q, rfl⟩ | exact ⟨CV_f ht hz hst (notS_n) (notS_n) (notS_n) (notS_n) (notS_n) (fun i => (notS_n)) (fun i => (notS_n)) (fun i => (notS_n)) (fun a h1 h2 i => (notS_n)) (notS_n) (notS_n) (notS_n) (fun a h1 h2 i => (notS_n)) (fun a h1 h2 i => (notS_n)) hcv, (fun hq => GA_f ht hz hst (notS_n) (notS_n) (fun i => (notS_n)) (fun a h1 h2 i => (notS_n)) hq), hst.2.2.1 _ _ (notS_n)⟩); (refine ⟨?_, ?_, ?_, ?_, ?_, ?_, ?_, ?_, ?_, ?_⟩ <;> first | (intro h; exfalso; omega) | exact fun _ => rfl | (intro _; omega) | (intro _ q; exact ⟨fun _ => by omega, fun _ => by omega⟩)))⟩)
    · refine r_sw (t := 128) rfl ⟨by omega, by omega⟩ (by rw [hd33]; rfl) ?_
      refine r_ld (pc' := 129) rfl rfl rfl rfl ?_
      refine r_gr (b := 39) (pc' := 132) rfl rfl sh_1 rfl pp_1_6 ?_
      have hb55 := rd_39_1 hz
      refine r_gi (pc' := 135) rfl rfl sh_39 rfl rfl ?_
      exact r_ri rfl (po_I hst ⟨by omega, by omega⟩ ⟨rfl, rfl, rfl, by omega, by omega, (by refine ⟨?_, ?_⟩; (first | exact ⟨hcv, fun q => q, rfl⟩ | exact ⟨CV_f ht hz hst (notS_n) (notS_n) (notS_n) (notS_n) (notS_n) (fun i => (notS_n)) (fun i => (notS_n)) (fun i => (notS_n)) (fun a h1 h2 i => (notS_n)) (notS_n) (notS_n) (notS_n) (fun a h1 h2 i => (notS_n)) (fun a h1 h2 i => (notS_n)) hcv, (fun hq => GA_f ht hz hst (notS_n) (notS_n) (fun i => (notS_n)) (fun a h1 h2 i => (notS_n)) hq), hst.2.2.1 _ _ (notS_n)⟩); (refine ⟨?_, ?_, ?_, ?_, ?_, ?_, ?_, ?_, ?_, ?_⟩ <;> first | (intro h; exfalso; omega) | exact fun _ => rfl | (intro _; omega) | (intro _ q; exact ⟨fun _ => by omega, fun _ => by omega⟩)))⟩)
    · refine r_sw (t := 136) rfl ⟨by omega, by omega⟩ (by rw [hd33]; rfl) ?_
      refine r_ld (pc' := 137) rfl rfl rfl rfl ?_
      have hb56 := rd_1_15 hz
      refine r_gi (pc' := 140) rfl rfl sh_1 rfl rfl ?_
      exact r_ri rfl (po_I hst ⟨by omega, by omega⟩ ⟨rfl, rfl, rfl, by omega, by omega, (by refine ⟨?_, ?_⟩; (first | exact ⟨hcv, fun q => q, rfl⟩ | exact ⟨CV_f ht hz hst (notS_n) (notS_n) (notS_n) (notS_n) (notS_n) (fun i => (notS_n)) (fun i => (notS_n)) (fun i => (notS_n)) (fun a h1 h2 i => (notS_n)) (notS_n) (notS_n) (notS_n) (fun a h1 h2 i => (notS_n)) (fun a h1 h2 i => (notS_n)) hcv, (fun hq => GA_f ht hz hst (notS_n) (notS_n) (fun i => (notS_n)) (fun a h1 h2 i => (notS_n)) hq), hst.2.2.1 _ _ (notS_n)⟩); (refine ⟨?_, ?_, ?_, ?_, ?_, ?_, ?_, ?_, ?_, ?_⟩ <;> first | (intro h; exfalso; omega) | exact fun _ => rfl | (intro _; omega) | (intro _ q; exact ⟨fun _ => by omega, fun _ => by omega⟩)))⟩)
end
section
/-! methods, printed by wip/tools/vcg.py -/
/-- LoopGroundModel about -/
abbrev S_257x  : mS := []
abbrev E_257x (a1 : Int) (z0 w0 : mZ) (x y tx it mt tt ct : Option Nat) : Int → mZ → mZ → mP → Prop := fun v z w p => p = (pq x y tx it mt tt ct) ∧ z0 = z ∧ w0 = w ∧ (-23) ≤ v ∧ v ≤ 1600 ∧ ((a1 = 0 → v = z0 225 26) ∧ (a1 = 1 → v = 3 * z0 225 26 / 2) ∧ (a1 = 2 → v = z0 225 32) ∧ (a1 = 3 → 0 ≤ z0 225 32 ∧ z0 225 32 ≤ 36 → (0 ≤ 2 - z0 225 32 + 3 * z0 225 26 / 2 - z0 225 26 → v = (2 - z0 225 32 + 3 * z0 225 26 / 2 - z0 225 26) / 2) ∧ (2 - z0 225 32 + 3 * z0 225 26 / 2 - z0 225 26 < 0 → v = -(-(2 - z0 225 32 + 3 * z0 225 26 / 2 - z0 225 26) / 2))) ∧ (a1 = 4 → v = z0 225 27) ∧ (a1 = 5 → v = z0 225 28) ∧ (a1 = 6 → v = z0 225 73) ∧ (a1 = 7 → v = z0 225 74) ∧ (a1 = 8 → v = z0 225 1) ∧ (a1 < 0 ∨ 8 < a1 → v = -1))
theorem m_257x {d : Nat} {z0 w0 : mZ} {x y tx it mt tt ct : Option Nat} (a1 : Int) (hz : rz z0) (hw : rw_ w0) (ha1 : (-2147483648) ≤ a1 ∧ a1 ≤ 2147483647) : wc (d + 2) 257 [.ref 225, .int (Int32.ofInt a1)] (mk z0 w0 (pq x y tx it mt tt ct)) (poI S_257x z0 w0 (E_257x a1 z0 w0 x y tx it mt tt ct)) := by
  have hst : st_ S_257x z0 w0 z0 w0 := st_rf hz hw
  have hz31 := rd_225_1 hz
  have hz32 := rd_225_26 hz
  have hz33 := rd_225_27 hz
  have hz34 := rd_225_28 hz
  have hz35 := rd_225_32 hz
  have hz36 := rd_225_73 hz
  have hz37 := rd_225_74 hz
  refine w_m rfl rfl ?_
  refine r_ld (pc' := 1) rfl rfl rfl rfl ?_
  by_cases hd38 : a1 < 0 ∨ 8 < a1
  · refine r_sw (t := 111) rfl ⟨by omega, by omega⟩ (by rw [if_pos hd38]; rfl) ?_
    refine r_c0 (pc' := 112) rfl rfl ?_
    exact r_ri rfl (po_I hst ⟨by decide, by decide⟩ ⟨rfl, rfl, rfl, by omega, by omega, (by refine ⟨?_, ?_, ?_, ?_, ?_, ?_, ?_, ?_, ?_, ?_⟩ <;> first | (intro h; exfalso; omega) | exact fun _ => rfl | (intro _; omega) | (intro _ q; exact ⟨fun _ => by omega, fun _ => by omega⟩))⟩)
  · rcases (show a1 = 0 ∨ a1 = 1 ∨ a1 = 2 ∨ a1 = 3 ∨ a1 = 4 ∨ a1 = 5 ∨ a1 = 6 ∨ a1 = 7 ∨ a1 = 8 by omega) with hd38 | hd38 | hd38 | hd38 | hd38 | hd38 | hd38 | hd38 | hd38
    · refine r_sw (t := 52) rfl ⟨by omega, by omega⟩ (by rw [hd38]; rfl) ?_
      refine r_ld (pc' := 53) rfl rfl rfl rfl ?_
      have hb39 := rd_225_26 hz
      refine r_gi (pc' := 56) rfl rfl sh_225 rfl rfl ?_
      exact r_ri rfl (po_I hst ⟨by omega, by omega⟩ ⟨rfl, rfl, rfl, by omega, by omega, (by refine ⟨?_, ?_, ?_, ?_, ?_, ?_, ?_, ?_, ?_, ?_⟩ <;> first | (intro h; exfalso; omega) | exact fun _ => rfl | (intro _; omega) | (intro _ q; exact ⟨fun _ => by omega, fun _ => by omega⟩))⟩)
    · refine r_sw (t := 57) rfl ⟨by omega, by omega⟩ (by rw [hd38]; rfl) ?_
      refine r_ld (pc' := 58) rfl rfl rfl rfl ?_
      have hb40 := rd_225_26 hz
      refine r_cVI (pc' := 61) rfl rfl rfl rfl rfl sh_225 (m_161 (d := d)  hst.1 hst.2.1 ) (fun v41 z42 w43 p44 h45 hs46 hE47 => ?_)
      obtain ⟨rfl, rfl, rfl, hE47⟩ := hE47
      exact r_ri rfl (po_I hst ⟨by omega, by omega⟩ ⟨rfl, rfl, rfl, by omega, by omega, (by refine ⟨?_, ?_, ?_, ?_, ?_, ?_, ?_, ?_, ?_, ?_⟩ <;> first | (intro h; exfalso; omega) | exact fun _ => rfl | (intro _; omega) | (intro _ q; exact ⟨fun _ => by omega, fun _ => by omega⟩))⟩)
    · refine r_sw (t := 62) rfl ⟨by omega, by omega⟩ (by rw [hd38]; rfl) ?_
      refine r_ld (pc' := 63) rfl rfl rfl rfl ?_
      have hb49 := rd_225_32 hz
      refine r_gi (pc' := 66) rfl rfl sh_225 rfl rfl ?_
      exact r_ri rfl (po_I hst ⟨by omega, by omega⟩ ⟨rfl, rfl, rfl, by omega, by omega, (by refine ⟨?_, ?_, ?_, ?_, ?_, ?_, ?_, ?_, ?_, ?_⟩ <;> first | (intro h; exfalso; omega) | exact fun _ => rfl | (intro _; omega) | (intro _ q; exact ⟨fun _ => by omega, fun _ => by omega⟩))⟩)
    · refine r_sw (t := 67) rfl ⟨by omega, by omega⟩ (by rw [hd38]; rfl) ?_
      refine r_c0 (pc' := 68) rfl rfl ?_
      refine r_ld (pc' := 69) rfl rfl rfl rfl ?_
      have hb50 := rd_225_32 hz
      refine r_gi (pc' := 72) rfl rfl sh_225 rfl rfl ?_
      refine r_sub (pc' := 73) rfl rfl ?_
      refine r_ld (pc' := 74) rfl rfl rfl rfl ?_
      have hb51 := rd_225_26 hz
      refine r_cVI (pc' := 77) rfl rfl rfl rfl rfl sh_225 (m_161 (d := d)  hst.1 hst.2.1 ) (fun v52 z53 w54 p55 h56 hs57 hE58 => ?_)
      obtain ⟨rfl, rfl, rfl, hE58⟩ := hE58
      refine r_add (pc' := 78) rfl rfl ?_
      refine r_ld (pc' := 79) rfl rfl rfl rfl ?_
      refine r_gi (pc' := 82) rfl rfl sh_225 rfl rfl ?_
      refine r_sub (pc' := 83) rfl rfl ?_
      refine r_c0 (pc' := 84) rfl rfl ?_
      refine r_dvg (pc' := 85) rfl rfl ⟨by omega, by omega⟩ ⟨by decide, by decide⟩ (by decide) (fun v60 h61 h62 => ?_)
      exact r_ri rfl (po_I hst ⟨by omega, by omega⟩ ⟨rfl, rfl, rfl, by omega, by omega, (by refine ⟨?_, ?_, ?_, ?_, ?_, ?_, ?_, ?_, ?_, ?_⟩ <;> first | (intro h; exfalso; omega) | exact fun _ => rfl | (intro _; omega) | (intro _ q; exact ⟨fun _ => by omega, fun _ => by omega⟩))⟩)
    · refine r_sw (t := 86) rfl ⟨by omega, by omega⟩ (by rw [hd38]; rfl) ?_
      refine r_ld (pc' := 87) rfl rfl rfl rfl ?_
      have hb63 := rd_225_27 hz
      refine r_gi (pc' := 90) rfl rfl sh_225 rfl rfl ?_
      exact r_ri rfl (po_I hst ⟨by omega, by omega⟩ ⟨rfl, rfl, rfl, by omega, by omega, (by refine ⟨?_, ?_, ?_, ?_, ?_, ?_, ?_, ?_, ?_, ?_⟩ <;> first | (intro h; exfalso; omega) | exact fun _ => rfl | (intro _; omega) | (intro _ q; exact ⟨fun _ => by omega, fun _ => by omega⟩))⟩)
    · refine r_sw (t := 91) rfl ⟨by omega, by omega⟩ (by rw [hd38]; rfl) ?_
      refine r_ld (pc' := 92) rfl rfl rfl rfl ?_
      have hb64 := rd_225_28 hz
      refine r_gi (pc' := 95) rfl rfl sh_225 rfl rfl ?_
      exact r_ri rfl (po_I hst ⟨by omega, by omega⟩ ⟨rfl, rfl, rfl, by omega, by omega, (by refine ⟨?_, ?_, ?_, ?_, ?_, ?_, ?_, ?_, ?_, ?_⟩ <;> first | (intro h; exfalso; omega) | exact fun _ => rfl | (intro _; omega) | (intro _ q; exact ⟨fun _ => by omega, fun _ => by omega⟩))⟩)
    · refine r_sw (t := 96) rfl ⟨by omega, by omega⟩ (by rw [hd38]; rfl) ?_
      refine r_ld (pc' := 97) rfl rfl rfl rfl ?_
      have hb65 := rd_225_73 hz
      refine r_gi (pc' := 100) rfl rfl sh_225 rfl rfl ?_
      exact r_ri rfl (po_I hst ⟨by omega, by omega⟩ ⟨rfl, rfl, rfl, by omega, by omega, (by refine ⟨?_, ?_, ?_, ?_, ?_, ?_, ?_, ?_, ?_, ?_⟩ <;> first | (intro h; exfalso; omega) | exact fun _ => rfl | (intro _; omega) | (intro _ q; exact ⟨fun _ => by omega, fun _ => by omega⟩))⟩)
    · refine r_sw (t := 101) rfl ⟨by omega, by omega⟩ (by rw [hd38]; rfl) ?_
      refine r_ld (pc' := 102) rfl rfl rfl rfl ?_
      have hb66 := rd_225_74 hz
      refine r_gi (pc' := 105) rfl rfl sh_225 rfl rfl ?_
      exact r_ri rfl (po_I hst ⟨by omega, by omega⟩ ⟨rfl, rfl, rfl, by omega, by omega, (by refine ⟨?_, ?_, ?_, ?_, ?_, ?_, ?_, ?_, ?_, ?_⟩ <;> first | (intro h; exfalso; omega) | exact fun _ => rfl | (intro _; omega) | (intro _ q; exact ⟨fun _ => by omega, fun _ => by omega⟩))⟩)
    · refine r_sw (t := 106) rfl ⟨by omega, by omega⟩ (by rw [hd38]; rfl) ?_
      refine r_ld (pc' := 107) rfl rfl rfl rfl ?_
      have hb67 := rd_225_1 hz
      refine r_gi (pc' := 110) rfl rfl sh_225 rfl rfl ?_
      exact r_ri rfl (po_I hst ⟨by omega, by omega⟩ ⟨rfl, rfl, rfl, by omega, by omega, (by refine ⟨?_, ?_, ?_, ?_, ?_, ?_, ?_, ?_, ?_, ?_⟩ <;> first | (intro h; exfalso; omega) | exact fun _ => rfl | (intro _; omega) | (intro _ q; exact ⟨fun _ => by omega, fun _ => by omega⟩))⟩)
end
section
/-! methods, printed by wip/tools/vcg.py -/
/-- LoopGroundModel sketch -/
abbrev S_253x  : mS := [(225, 225, 1, 1), (225, 225, 70, 70), (225, 225, 76, 76), (272, 272, 0, 1599), (225, 225, 77, 77), (269, 269, 0, 17), (244, 244, 0, 18), (243, 243, 0, 17), (225, 225, 36, 36), (225, 225, 37, 37), (245, 245, 0, 17999), (225, 225, 38, 38), (225, 225, 39, 39), (225, 225, 40, 40), (225, 225, 42, 42), (246, 246, 0, 17999), (273, 273, 0, 17), (270, 270, 0, 17), (268, 268, 0, 17)]
abbrev E_253x  (z0 w0 : mZ) (x y tx it mt tt ct : Option Nat) : Int → mZ → mZ → mP → Prop := fun v z w p => p = (pq x y tx it mt tt ct) ∧ (-2) ≤ v ∧ v ≤ 1600 ∧ ((z 225 1 = 0 ∧ RV z w) ∧ w 270 = w0 270)
theorem m_253x {d : Nat} {z0 w0 : mZ} {x y tx it mt tt ct : Option Nat}  (hz : rz z0) (hw : rw_ w0) (hrv : RV z0 w0) : wc (d + 8) 253 [.ref 225] (mk z0 w0 (pq x y tx it mt tt ct)) (poI S_253x z0 w0 (E_253x  z0 w0 x y tx it mt tt ct)) := by
  have hst : st_ S_253x z0 w0 z0 w0 := st_rf hz hw
  refine w_m rfl rfl ?_
  refine r_ld (pc' := 1) rfl rfl rfl rfl ?_
  have hb47 := rd_225_1 hz
  refine r_gi (pc' := 4) rfl rfl sh_225 rfl rfl ?_
  refine r_st (pc' := 5) (lv' := [(1, _), (0, _)]) rfl rfl rfl rfl ?_
  refine r_ld (pc' := 6) rfl rfl rfl rfl ?_
  refine r_c0 (pc' := 7) rfl rfl ?_
  refine r_pi (pc' := 10) rfl rfl sh_225 rfl rfl hst (inS_0 (by omega) (by omega) (by omega) (by omega)) (wr_225_1 ⟨by omega, by omega⟩) (fun z48 hq49 hs50 => ?_)
  refine r_ld (pc' := 11) rfl rfl rfl rfl ?_
  refine r_c0 (pc' := 12) rfl rfl ?_
  refine r_pi (pc' := 15) rfl rfl sh_225 rfl (fit_b (by omega)) hs50 (inS_s (inS_0 (by omega) (by omega) (by omega) (by omega))) (wr_225_70 ⟨by omega, by omega⟩) (fun z51 hq52 hs53 => ?_)
  refine r_ld (pc' := 16) rfl rfl rfl rfl ?_
  refine r_ld (pc' := 17) rfl rfl rfl rfl ?_
  refine r_cVI (pc' := 20) rfl rfl rfl rfl rfl sh_225 (m_249 (d := d + 5) (z0 225 1) hs53.1 hs53.2.1 ⟨by omega, by omega⟩) (fun v54 z55 w56 p57 h58 hs59 hE60 => ?_)
  have hs61 := st_tr hs53 hs59 (sub_B rfl)
  obtain ⟨rfl, hE60⟩ := hE60
  refine r_zne (pc' := 23) rfl rfl ⟨by omega, by omega⟩ (fun hc62 => ?_) (fun hc62 => ?_)
  · skip
    refine r_ld (pc' := 26) rfl rfl rfl rfl ?_
    refine r_cVV (pc' := 29) rfl rfl rfl rfl rfl sh_225 (m_250 (d := d + 6)  hs61.1 hs61.2.1 ) (fun z64 w65 p66 hs68 hE69 => ?_)
    have hs70 := st_tr hs61 hs68 (sub_B rfl)
    obtain ⟨rfl, hE69⟩ := hE69
    have hlo := hE69
    refine r_ld (pc' := 30) rfl rfl rfl rfl ?_
    have hw30 : w65 270 = w0 270 := funext fun i => ((hs68.2.2.2 _ _ (notS_c (by omega) (notS_c (by omega) (notS_c (by omega) notS_n)))).trans (hs59.2.2.2 _ _ (notS_c (by omega) (notS_c (by omega) notS_n))))
    have hb71 := rd_225_77 hs70.1
    have hb72 := rd_225_76 hs70.1
    refine r_cVI (pc' := 33) rfl rfl rfl rfl rfl sh_225 (m_252v (d := d)  hs70.1 hs70.2.1 (by exact RV_c hz (fun i h1 h2 => ((hs68.2.2.1 _ _ (notS_c (by omega) (notS_c (by omega) (notS_c (by omega) notS_n)))).trans ((hs59.2.2.1 _ _ (notS_c (by omega) (notS_c (by omega) notS_n))).trans (((congrFun (congrFun hq52 _) _).trans (mu_ne (by omega))).trans ((congrFun (congrFun hq49 _) _).trans (mu_ne (by omega))))))) (fun a h1 h2 h3 => funext fun i => ((hs68.2.2.1 _ _ (notS_c (by omega) (notS_c (by omega) (notS_c (by omega) notS_n)))).trans ((hs59.2.2.1 _ _ (notS_c (by omega) (notS_c (by omega) notS_n))).trans (((congrFun (congrFun hq52 _) _).trans (mu_ne (by omega))).trans ((congrFun (congrFun hq49 _) _).trans (mu_ne (by omega))))))) (fun a h1 h2 => funext fun i => ((hs68.2.2.1 _ _ (notS_c (by omega) (notS_c (by omega) (notS_c (by omega) notS_n)))).trans ((hs59.2.2.1 _ _ (notS_c (by omega) (notS_c (by omega) notS_n))).trans (((congrFun (congrFun hq52 _) _).trans (mu_ne (by omega))).trans ((congrFun (congrFun hq49 _) _).trans (mu_ne (by omega))))))) (((hs68.2.2.1 _ _ (notS_c (by omega) (notS_c (by omega) (notS_c (by omega) notS_n)))).trans ((hs59.2.2.1 _ _ (notS_c (by omega) (notS_c (by omega) notS_n))).trans (((congrFun (congrFun hq52 _) _).trans (mu_ne (by omega))).trans ((congrFun (congrFun hq49 _) _).trans (mu_ne (by omega))))))) (((hs68.2.2.1 _ _ (notS_c (by omega) (notS_c (by omega) (notS_c (by omega) notS_n)))).trans ((hs59.2.2.1 _ _ (notS_c (by omega) (notS_c (by omega) notS_n))).trans (((congrFun (congrFun hq52 _) _).trans (mu_ne (by omega))).trans ((congrFun (congrFun hq49 _) _).trans (mu_ne (by omega))))))) (funext fun i => ((hs68.2.2.1 _ _ (notS_c (by omega) (notS_c (by omega) (notS_c (by omega) notS_n)))).trans ((hs59.2.2.1 _ _ (notS_c (by omega) (notS_c (by omega) notS_n))).trans (((congrFun (congrFun hq52 _) _).trans (mu_ne (by omega))).trans ((congrFun (congrFun hq49 _) _).trans (mu_ne (by omega))))))) (fun a h => funext fun i => ((hs68.2.2.2 _ _ (notS_c (by omega) (notS_c (by omega) (notS_c (by omega) notS_n)))).trans (hs59.2.2.2 _ _ (notS_c (by omega) (notS_c (by omega) notS_n))))) hrv) (by first | omega | assumption)) (fun v73 z74 w75 p76 h77 hs78 hE79 => ?_)
    have hs80 := st_tr hs70 hs78 (sub_B rfl)
    obtain ⟨rfl, hE79⟩ := hE79
    have h27 : w75 270 = w0 270 := (hE79.2.2).trans hw30
    refine r_zne (pc' := 36) rfl rfl ⟨by omega, by omega⟩ (fun hc81 => ?_) (fun hc81 => ?_)
    · skip
      refine r_ld (pc' := 40) rfl rfl rfl rfl ?_
      refine r_cVV (pc' := 43) rfl rfl rfl rfl rfl sh_225 (m_236 (d := d + 6)  hs80.1 hs80.2.1 ) (fun z83 w84 p85 hs87 hE88 => ?_)
      have hs89 := st_tr hs80 hs87 (sub_B rfl)
      obtain rfl := hE88
      refine r_ld (pc' := 44) rfl rfl rfl rfl ?_
      refine r_gi (pc' := 47) rfl rfl sh_225 rfl ((hs87.2.2.1 _ _ (notS_c (by omega) (notS_c (by omega) notS_n))).trans (hs78.2.2.1 _ _ (notS_c (by omega) (notS_c (by omega) (notS_c (by omega) (notS_c (by omega) (notS_c (by omega) (notS_c (by omega) (notS_c (by omega) (notS_c (by omega) (notS_c (by omega) (notS_c (by omega) (notS_c (by omega) (notS_c (by omega) (notS_c (by omega) notS_n))))))))))))))) ?_
      have hf90 : z83 225 1 = 0 := ((hs87.2.2.1 _ _ (notS_c (by omega) (notS_c (by omega) notS_n))).trans ((hs78.2.2.1 _ _ (notS_c (by omega) (notS_c (by omega) (notS_c (by omega) (notS_c (by omega) (notS_c (by omega) (notS_c (by omega) (notS_c (by omega) (notS_c (by omega) (notS_c (by omega) (notS_c (by omega) (notS_c (by omega) (notS_c (by omega) (notS_c (by omega) notS_n)))))))))))))).trans ((hs68.2.2.1 _ _ (notS_c (by omega) (notS_c (by omega) (notS_c (by omega) notS_n)))).trans ((hs59.2.2.1 _ _ (notS_c (by omega) (notS_c (by omega) notS_n))).trans (((congrFun (congrFun hq52 _) _).trans (mu_ne (by omega))).trans ((congrFun (congrFun hq49 _) _).trans mu_eq))))))
      exact r_ri rfl (po_I hs89 ⟨by omega, by omega⟩ ⟨rfl, by omega, by omega, (by refine ⟨?_, (funext fun i => (hs87.2.2.2 _ _ (notS_c (by omega) (notS_c (by omega) notS_n)))).trans h27⟩; exact ⟨by omega, RV_c hz (fun i h1 h2 => hs89.2.2.1 _ _ (notS_c (by omega) (notS_c (by omega) (notS_c (by omega) (notS_c (by omega) (notS_c (by omega) (notS_c (by omega) (notS_c (by omega) (notS_c (by omega) (notS_c (by omega) (notS_c (by omega) (notS_c (by omega) (notS_c (by omega) (notS_c (by omega) (notS_c (by omega) (notS_c (by omega) (notS_c (by omega) (notS_c (by omega) (notS_c (by omega) (notS_c (by omega) (notS_n))))))))))))))))))))) (fun a h1 h2 h3 => funext fun i => hs89.2.2.1 _ _ (notS_c (by omega) (notS_c (by omega) (notS_c (by omega) (notS_c (by omega) (notS_c (by omega) (notS_c (by omega) (notS_c (by omega) (notS_c (by omega) (notS_c (by omega) (notS_c (by omega) (notS_c (by omega) (notS_c (by omega) (notS_c (by omega) (notS_c (by omega) (notS_c (by omega) (notS_c (by omega) (notS_c (by omega) (notS_c (by omega) (notS_c (by omega) (notS_n))))))))))))))))))))) (fun a h1 h2 => funext fun i => hs89.2.2.1 _ _ (notS_c (by omega) (notS_c (by omega) (notS_c (by omega) (notS_c (by omega) (notS_c (by omega) (notS_c (by omega) (notS_c (by omega) (notS_c (by omega) (notS_c (by omega) (notS_c (by omega) (notS_c (by omega) (notS_c (by omega) (notS_c (by omega) (notS_c (by omega) (notS_c (by omega) (notS_c (by omega) (notS_c (by omega) (notS_c (by omega) (notS_c (by omega) (notS_n))))))))))))))))))))) (hs89.2.2.1 _ _ (notS_c (by omega) (notS_c (by omega) (notS_c (by omega) (notS_c (by omega) (notS_c (by omega) (notS_c (by omega) (notS_c (by omega) (notS_c (by omega) (notS_c (by omega) (notS_c (by omega) (notS_c (by omega) (notS_c (by omega) (notS_c (by omega) (notS_c (by omega) (notS_c (by omega) (notS_c (by omega) (notS_c (by omega) (notS_c (by omega) (notS_c (by omega) (notS_n))))))))))))))))))))) (hs89.2.2.1 _ _ (notS_c (by omega) (notS_c (by omega) (notS_c (by omega) (notS_c (by omega) (notS_c (by omega) (notS_c (by omega) (notS_c (by omega) (notS_c (by omega) (notS_c (by omega) (notS_c (by omega) (notS_c (by omega) (notS_c (by omega) (notS_c (by omega) (notS_c (by omega) (notS_c (by omega) (notS_c (by omega) (notS_c (by omega) (notS_c (by omega) (notS_c (by omega) (notS_n))))))))))))))))))))) (funext fun i => hs89.2.2.1 _ _ (notS_c (by omega) (notS_c (by omega) (notS_c (by omega) (notS_c (by omega) (notS_c (by omega) (notS_c (by omega) (notS_c (by omega) (notS_c (by omega) (notS_c (by omega) (notS_c (by omega) (notS_c (by omega) (notS_c (by omega) (notS_c (by omega) (notS_c (by omega) (notS_c (by omega) (notS_c (by omega) (notS_c (by omega) (notS_c (by omega) (notS_c (by omega) (notS_n))))))))))))))))))))) (fun a h => by rcases h with rfl | rfl | rfl; exact (funext fun i => (hs87.2.2.2 _ _ (notS_c (by omega) (notS_c (by omega) notS_n)))).trans h27 ; exact (funext fun i => hs89.2.2.2 _ _ (notS_c (by omega) (notS_c (by omega) (notS_c (by omega) (notS_c (by omega) (notS_c (by omega) (notS_c (by omega) (notS_c (by omega) (notS_c (by omega) (notS_c (by omega) (notS_c (by omega) (notS_c (by omega) (notS_c (by omega) (notS_c (by omega) (notS_c (by omega) (notS_c (by omega) (notS_c (by omega) (notS_c (by omega) (notS_c (by omega) (notS_c (by omega) (notS_n))))))))))))))))))))); exact (funext fun i => hs89.2.2.2 _ _ (notS_c (by omega) (notS_c (by omega) (notS_c (by omega) (notS_c (by omega) (notS_c (by omega) (notS_c (by omega) (notS_c (by omega) (notS_c (by omega) (notS_c (by omega) (notS_c (by omega) (notS_c (by omega) (notS_c (by omega) (notS_c (by omega) (notS_c (by omega) (notS_c (by omega) (notS_c (by omega) (notS_c (by omega) (notS_c (by omega) (notS_c (by omega) (notS_n)))))))))))))))))))))) hrv⟩)⟩)
    · skip
      refine r_cb (pc' := 38) rfl (by decide) rfl ?_
      have hf91 : z74 225 1 = 0 := ((hs78.2.2.1 _ _ (notS_c (by omega) (notS_c (by omega) (notS_c (by omega) (notS_c (by omega) (notS_c (by omega) (notS_c (by omega) (notS_c (by omega) (notS_c (by omega) (notS_c (by omega) (notS_c (by omega) (notS_c (by omega) (notS_c (by omega) (notS_c (by omega) notS_n)))))))))))))).trans ((hs68.2.2.1 _ _ (notS_c (by omega) (notS_c (by omega) (notS_c (by omega) notS_n)))).trans ((hs59.2.2.1 _ _ (notS_c (by omega) (notS_c (by omega) notS_n))).trans (((congrFun (congrFun hq52 _) _).trans (mu_ne (by omega))).trans ((congrFun (congrFun hq49 _) _).trans mu_eq)))))
      exact r_ri rfl (po_I hs80 ⟨by decide, by decide⟩ ⟨rfl, by omega, by omega, (by refine ⟨?_, h27⟩; exact ⟨by omega, RV_c hz (fun i h1 h2 => hs80.2.2.1 _ _ (notS_c (by omega) (notS_c (by omega) (notS_c (by omega) (notS_c (by omega) (notS_c (by omega) (notS_c (by omega) (notS_c (by omega) (notS_c (by omega) (notS_c (by omega) (notS_c (by omega) (notS_c (by omega) (notS_c (by omega) (notS_c (by omega) (notS_c (by omega) (notS_c (by omega) (notS_c (by omega) (notS_c (by omega) (notS_c (by omega) (notS_c (by omega) (notS_n))))))))))))))))))))) (fun a h1 h2 h3 => funext fun i => hs80.2.2.1 _ _ (notS_c (by omega) (notS_c (by omega) (notS_c (by omega) (notS_c (by omega) (notS_c (by omega) (notS_c (by omega) (notS_c (by omega) (notS_c (by omega) (notS_c (by omega) (notS_c (by omega) (notS_c (by omega) (notS_c (by omega) (notS_c (by omega) (notS_c (by omega) (notS_c (by omega) (notS_c (by omega) (notS_c (by omega) (notS_c (by omega) (notS_c (by omega) (notS_n))))))))))))))))))))) (fun a h1 h2 => funext fun i => hs80.2.2.1 _ _ (notS_c (by omega) (notS_c (by omega) (notS_c (by omega) (notS_c (by omega) (notS_c (by omega) (notS_c (by omega) (notS_c (by omega) (notS_c (by omega) (notS_c (by omega) (notS_c (by omega) (notS_c (by omega) (notS_c (by omega) (notS_c (by omega) (notS_c (by omega) (notS_c (by omega) (notS_c (by omega) (notS_c (by omega) (notS_c (by omega) (notS_c (by omega) (notS_n))))))))))))))))))))) (hs80.2.2.1 _ _ (notS_c (by omega) (notS_c (by omega) (notS_c (by omega) (notS_c (by omega) (notS_c (by omega) (notS_c (by omega) (notS_c (by omega) (notS_c (by omega) (notS_c (by omega) (notS_c (by omega) (notS_c (by omega) (notS_c (by omega) (notS_c (by omega) (notS_c (by omega) (notS_c (by omega) (notS_c (by omega) (notS_c (by omega) (notS_c (by omega) (notS_c (by omega) (notS_n))))))))))))))))))))) (hs80.2.2.1 _ _ (notS_c (by omega) (notS_c (by omega) (notS_c (by omega) (notS_c (by omega) (notS_c (by omega) (notS_c (by omega) (notS_c (by omega) (notS_c (by omega) (notS_c (by omega) (notS_c (by omega) (notS_c (by omega) (notS_c (by omega) (notS_c (by omega) (notS_c (by omega) (notS_c (by omega) (notS_c (by omega) (notS_c (by omega) (notS_c (by omega) (notS_c (by omega) (notS_n))))))))))))))))))))) (funext fun i => hs80.2.2.1 _ _ (notS_c (by omega) (notS_c (by omega) (notS_c (by omega) (notS_c (by omega) (notS_c (by omega) (notS_c (by omega) (notS_c (by omega) (notS_c (by omega) (notS_c (by omega) (notS_c (by omega) (notS_c (by omega) (notS_c (by omega) (notS_c (by omega) (notS_c (by omega) (notS_c (by omega) (notS_c (by omega) (notS_c (by omega) (notS_c (by omega) (notS_c (by omega) (notS_n))))))))))))))))))))) (fun a h => by rcases h with rfl | rfl | rfl; exact h27 ; exact (funext fun i => hs80.2.2.2 _ _ (notS_c (by omega) (notS_c (by omega) (notS_c (by omega) (notS_c (by omega) (notS_c (by omega) (notS_c (by omega) (notS_c (by omega) (notS_c (by omega) (notS_c (by omega) (notS_c (by omega) (notS_c (by omega) (notS_c (by omega) (notS_c (by omega) (notS_c (by omega) (notS_c (by omega) (notS_c (by omega) (notS_c (by omega) (notS_c (by omega) (notS_c (by omega) (notS_n))))))))))))))))))))); exact (funext fun i => hs80.2.2.2 _ _ (notS_c (by omega) (notS_c (by omega) (notS_c (by omega) (notS_c (by omega) (notS_c (by omega) (notS_c (by omega) (notS_c (by omega) (notS_c (by omega) (notS_c (by omega) (notS_c (by omega) (notS_c (by omega) (notS_c (by omega) (notS_c (by omega) (notS_c (by omega) (notS_c (by omega) (notS_c (by omega) (notS_c (by omega) (notS_c (by omega) (notS_c (by omega) (notS_n)))))))))))))))))))))) hrv⟩)⟩)
  · skip
    refine r_c0 (pc' := 24) rfl rfl ?_
    have hf92 : z55 225 1 = 0 := ((hs59.2.2.1 _ _ (notS_c (by omega) (notS_c (by omega) notS_n))).trans (((congrFun (congrFun hq52 _) _).trans (mu_ne (by omega))).trans ((congrFun (congrFun hq49 _) _).trans mu_eq)))
    exact r_ri rfl (po_I hs61 ⟨by decide, by decide⟩ ⟨rfl, by omega, by omega, (by refine ⟨?_, funext fun i => (hs59.2.2.2 _ _ (notS_c (by omega) (notS_c (by omega) notS_n)))⟩; exact ⟨by omega, by exact RV_c hz (fun i h1 h2 => ((hs59.2.2.1 _ _ (notS_c (by omega) (notS_c (by omega) notS_n))).trans (((congrFun (congrFun hq52 _) _).trans (mu_ne (by omega))).trans ((congrFun (congrFun hq49 _) _).trans (mu_ne (by omega)))))) (fun a h1 h2 h3 => funext fun i => ((hs59.2.2.1 _ _ (notS_c (by omega) (notS_c (by omega) notS_n))).trans (((congrFun (congrFun hq52 _) _).trans (mu_ne (by omega))).trans ((congrFun (congrFun hq49 _) _).trans (mu_ne (by omega)))))) (fun a h1 h2 => funext fun i => ((hs59.2.2.1 _ _ (notS_c (by omega) (notS_c (by omega) notS_n))).trans (((congrFun (congrFun hq52 _) _).trans (mu_ne (by omega))).trans ((congrFun (congrFun hq49 _) _).trans (mu_ne (by omega)))))) (((hs59.2.2.1 _ _ (notS_c (by omega) (notS_c (by omega) notS_n))).trans (((congrFun (congrFun hq52 _) _).trans (mu_ne (by omega))).trans ((congrFun (congrFun hq49 _) _).trans (mu_ne (by omega)))))) (((hs59.2.2.1 _ _ (notS_c (by omega) (notS_c (by omega) notS_n))).trans (((congrFun (congrFun hq52 _) _).trans (mu_ne (by omega))).trans ((congrFun (congrFun hq49 _) _).trans (mu_ne (by omega)))))) (funext fun i => ((hs59.2.2.1 _ _ (notS_c (by omega) (notS_c (by omega) notS_n))).trans (((congrFun (congrFun hq52 _) _).trans (mu_ne (by omega))).trans ((congrFun (congrFun hq49 _) _).trans (mu_ne (by omega)))))) (fun a h => funext fun i => (hs59.2.2.2 _ _ (notS_c (by omega) (notS_c (by omega) notS_n)))) hrv⟩)⟩)
end
