/-! methods, printed by wip/tools/vcg.py -/
/-- LoopGround putBytes -/
abbrev S_103x  : mS := [(2, 2, 0, 1599), (1, 1, 15, 15)]
abbrev E_103x (a1 : Int) (z0 w0 : mZ) (x y tx it mt tt ct : Option Nat) : mZ → mZ → mP → Prop := fun z w p => p = (pq x y tx it mt tt ct) ∧ (z 1 15 = z0 1 15 + 4 ∧ (∀ i : Nat, i < 4 → z 2 ((z0 1 15).toNat + i) % 256 = fb a1 i) ∧ ∀ i : Nat, (i : Int) < z0 1 15 → z 2 i = z0 2 i)
theorem m_103x {d : Nat} {z0 w0 : mZ} {x y tx it mt tt ct : Option Nat} (a1 : Int) (hz : rz z0) (hw : rw_ w0) (ha1 : (-2147483648) ≤ a1 ∧ a1 ≤ 2147483647) (hq : z0 1 15 ≤ 1596) : wc (d + 1) 103 [.ref 1, .int (Int32.ofInt a1)] (mk z0 w0 (pq x y tx it mt tt ct)) (poV S_103x z0 w0 (E_103x a1 z0 w0 x y tx it mt tt ct)) := by
  have hst : st_ S_103x z0 w0 z0 w0 := st_rf hz hw
  have hz16 := rd_1_15 hz
  have key : ∀ N : Nat, (∀ (x2 : Int) (z w : mZ), (-8) ≤ x2 ∧ x2 ≤ 24 → st_ S_103x z0 w0 z w → (8 * z 1 15 + x2 = 8 * z0 1 15 + 24 ∧ x2 % 8 = 0) → (∀ i : Nat, (i : Int) < z 1 15 - z0 1 15 → z 2 ((z0 1 15).toNat + i) % 256 = fb a1 i) → (∀ i : Nat, (i : Int) < z0 1 15 → z 2 i = z0 2 i) → 31 * (x2 - (-8)) + 28 < (N : Int) → wp_ (d) 103 3 none (3, [(0, .ref 1), (1, .int (Int32.ofInt a1)), (2, .int (Int32.ofInt x2))], [], mk z w (pq x y tx it mt tt ct)) (poV S_103x z0 w0 (E_103x a1 z0 w0 x y tx it mt tt ct))) := by
    intro N
    induction N with
    | zero =>
      intro x2 z w
      intros; exfalso; omega
    | succ N ih =>
      have ih0 := ih; clear ih
      intro x2 z w  hx2 hst as1 as2 as3 hM
      refine r_ld (pc' := 4) rfl rfl rfl rfl ?_
      refine r_zlt (pc' := 7) rfl rfl ⟨by omega, by omega⟩ (fun hc17 => ?_) (fun hc17 => ?_)
      · skip
        have hb18 := rd_1_15 hst.1
        exact r_ret rfl (po_V hst ⟨rfl, (by exact ⟨by omega, fun i hi => as2 i (by omega), as3⟩)⟩)
      · skip
        refine r_ld (pc' := 8) rfl rfl rfl rfl ?_
        have hb19 := rd_1_15 hst.1
        refine r_gi (pc' := 11) rfl rfl sh_1 rfl rfl ?_
        refine r_zlt (pc' := 14) rfl rfl ⟨by omega, by omega⟩ (fun hc20 => ?_) (fun hc20 => ?_)
        · exfalso; omega
        · skip
          refine r_ld (pc' := 15) rfl rfl rfl rfl ?_
          refine r_gi (pc' := 18) rfl rfl sh_1 rfl rfl ?_
          refine r_ld (pc' := 19) rfl rfl rfl rfl ?_
          refine r_gr (b := 2) (pc' := 22) rfl rfl sh_1 rfl pp_1_0 ?_
          refine r_len (pc' := 23) rfl rfl sh_2 (by decide) ?_
          refine r_ige (pc' := 26) rfl rfl ⟨by omega, by omega⟩ ⟨by decide, by decide⟩ (fun hc21 => ?_) (fun hc21 => ?_)
          · skip
            refine r_inc (pc' := 52) (lv' := [(0, _), (1, _)]) rfl rfl rfl rfl rfl ?_
            refine r_go rfl ?_
            exact w_lv (sub_c rfl (sub_c rfl (sub_c rfl sub_n))) rfl (ih0 (x2 + ((-8))) z w ⟨by omega, by omega⟩ hst (by first | omega | assumption) (by first | (intro i hi; exfalso; omega) | (intro i hi; rw [show z 2 ((z0 1 15).toNat + i) = NOMARK 2 ((z0 1 15).toNat + i) from NOMARK, hqt]; by_cases c : (i : Int) = z 1 15 - z0 1 15; (rw [mu_eqi (by omega)]; unfold fb; rw [show 24 - 8 * i = x2.toNat by omega, hsv36]; exact hib37); (rw [mu_ne (by omega)]; exact as2 i (by omega)))) (by first | exact fun i _ => rfl | exact as3 | (intro i hi; rw [show z 2 i = NOMARK 2 i from NOMARK, hqt, mu_ne (by omega)]; exact as3 i hi)) (by omega))
          · skip
            refine r_ld (pc' := 27) rfl rfl rfl rfl ?_
            refine r_gr (b := 2) (pc' := 30) rfl rfl sh_1 rfl pp_1_0 ?_
            refine r_ld (pc' := 31) rfl rfl rfl rfl ?_
            refine r_gi (pc' := 34) rfl rfl sh_1 rfl rfl ?_
            refine r_ld (pc' := 35) rfl rfl rfl rfl ?_
            refine r_ld (pc' := 36) rfl rfl rfl rfl ?_
            refine r_shrv (pc' := 37) rfl rfl ⟨by omega, by omega⟩ (by omega) (by omega) (fun v22 hsv36 h23 => ?_)
            unfold inI at h23
            refine r_i2b (pc' := 38) rfl rfl ⟨by omega, by omega⟩ (fun v24 h25 hib37 => ?_)
            refine r_bsx (pc' := 39) rfl rfl sh_2 rfl (by omega) (by omega) ⟨by omega, by omega⟩ hst (inS_0 (by omega) (by omega) (by omega) (by omega)) (wr_2 ⟨by omega, by omega⟩) (fun z26 hq27 hs28 => ?_)
            have hqt := hq27
            refine r_ld (pc' := 40) rfl rfl rfl rfl ?_
            refine r_al (pc' := 41) rfl rfl rfl rfl ?_
            refine r_gi (pc' := 44) rfl rfl sh_1 rfl ((congrFun (congrFun hq27 _) _).trans (mu_ne (by omega))) ?_
            refine r_c0 (pc' := 45) rfl rfl ?_
            refine r_add (pc' := 46) rfl rfl ?_
            refine r_pi (pc' := 49) rfl rfl sh_1 rfl rfl hs28 (inS_s (inS_0 (by omega) (by omega) (by omega) (by omega))) (wr_1_15 ⟨by omega, by omega⟩) (fun z29 hq30 hs31 => ?_)
            refine r_inc (pc' := 52) (lv' := [(0, _), (1, _)]) rfl rfl rfl rfl rfl ?_
            refine r_go rfl ?_
            have hf32 : z29 1 15 = (z 1 15) + 1 := ((congrFun (congrFun hq30 _) _).trans mu_eq)
            exact w_lv (sub_c rfl (sub_c rfl (sub_c rfl sub_n))) rfl (ih0 (x2 + ((-8))) z29 w ⟨by omega, by omega⟩ hs31 (by first | omega | assumption | (simp only [hf32]; assumption)) (by first | (intro i hi; exfalso; omega) | (intro i hi; rw [show z29 2 ((z0 1 15).toNat + i) = z26 2 ((z0 1 15).toNat + i) from ((congrFun (congrFun hq30 _) _).trans (mu_ne (by omega))), hqt]; by_cases c : (i : Int) = z 1 15 - z0 1 15; (rw [mu_eqi (by omega)]; unfold fb; rw [show 24 - 8 * i = x2.toNat by omega, hsv36]; exact hib37); (rw [mu_ne (by omega)]; exact as2 i (by omega)))) (by first | exact fun i _ => rfl | exact as3 | (intro i hi; rw [show z29 2 i = z26 2 i from ((congrFun (congrFun hq30 _) _).trans (mu_ne (by omega))), hqt, mu_ne (by omega)]; exact as3 i hi)) (by omega))
  refine w_m rfl rfl ?_
  refine r_cb (pc' := 2) rfl (by decide) rfl ?_
  refine r_st (pc' := 3) (lv' := [(2, _), (0, _), (1, _)]) rfl rfl rfl rfl ?_
  have hb33 := rd_1_15 hz
  exact w_lv (sub_c rfl (sub_c rfl (sub_c rfl sub_n))) rfl ((key ((31 * (24 - (-8)) + 28 : Int).toNat + 1)) 24 z0 w0 ⟨by omega, by omega⟩ hst (by first | omega | assumption) (by first | (intro i hi; exfalso; omega) | (intro i hi; rw [show z0 2 ((z0 1 15).toNat + i) = NOMARK 2 ((z0 1 15).toNat + i) from NOMARK, hqt]; by_cases c : (i : Int) = z 1 15 - z0 1 15; (rw [mu_eqi (by omega)]; unfold fb; rw [show 24 - 8 * i = x2.toNat by omega, hsv36]; exact hib37); (rw [mu_ne (by omega)]; exact as2 i (by omega)))) (by first | exact fun i _ => rfl | exact as3 | (intro i hi; rw [show z0 2 i = NOMARK 2 i from NOMARK, hqt, mu_ne (by omega)]; exact as3 i hi)) (by omega))
/-- LoopGroundModel four -/
abbrev S_147x  : mS := [(226, 226, 0, 1599), (225, 225, 1, 1)]
abbrev E_147x (a1 : Int) (z0 w0 : mZ) (x y tx it mt tt ct : Option Nat) : mZ → mZ → mP → Prop := fun z w p => p = (pq x y tx it mt tt ct) ∧ (z 225 1 = z0 225 1 + 4 ∧ (∀ i : Nat, i < 4 → z 226 ((z0 225 1).toNat + i) = fb a1 i) ∧ ∀ i : Nat, (i : Int) < z0 225 1 → z 226 i = z0 226 i)
theorem m_147x {d : Nat} {z0 w0 : mZ} {x y tx it mt tt ct : Option Nat} (a1 : Int) (hz : rz z0) (hw : rw_ w0) (ha1 : (-2147483648) ≤ a1 ∧ a1 ≤ 2147483647) (hq : z0 225 1 ≤ 1596) : wc (d + 1) 147 [.ref 225, .int (Int32.ofInt a1)] (mk z0 w0 (pq x y tx it mt tt ct)) (poV S_147x z0 w0 (E_147x a1 z0 w0 x y tx it mt tt ct)) := by
  have hst : st_ S_147x z0 w0 z0 w0 := st_rf hz hw
  have hz12 := rd_225_1 hz
  have key : ∀ N : Nat, (∀ (x2 : Int) (z w : mZ), (-8) ≤ x2 ∧ x2 ≤ 24 → st_ S_147x z0 w0 z w → (8 * z 225 1 + x2 = 8 * z0 225 1 + 24 ∧ x2 % 8 = 0) → (∀ i : Nat, (i : Int) < z 225 1 - z0 225 1 → z 226 ((z0 225 1).toNat + i) = fb a1 i) → (∀ i : Nat, (i : Int) < z0 225 1 → z 226 i = z0 226 i) → 23 * (x2 - (-8)) + 20 < (N : Int) → wp_ (d) 147 3 none (3, [(0, .ref 225), (1, .int (Int32.ofInt a1)), (2, .int (Int32.ofInt x2))], [], mk z w (pq x y tx it mt tt ct)) (poV S_147x z0 w0 (E_147x a1 z0 w0 x y tx it mt tt ct))) := by
    intro N
    induction N with
    | zero =>
      intro x2 z w
      intros; exfalso; omega
    | succ N ih =>
      have ih0 := ih; clear ih
      intro x2 z w  hx2 hst as1 as2 as3 hM
      refine r_ld (pc' := 4) rfl rfl rfl rfl ?_
      refine r_zlt (pc' := 7) rfl rfl ⟨by omega, by omega⟩ (fun hc13 => ?_) (fun hc13 => ?_)
      · skip
        have hb14 := rd_225_1 hst.1
        exact r_ret rfl (po_V hst ⟨rfl, (by exact ⟨by omega, fun i hi => as2 i (by omega), as3⟩)⟩)
      · skip
        refine r_ld (pc' := 8) rfl rfl rfl rfl ?_
        refine r_gr (b := 226) (pc' := 11) rfl rfl sh_225 rfl pp_225_0 ?_
        refine r_ld (pc' := 12) rfl rfl rfl rfl ?_
        have hb15 := rd_225_1 hst.1
        refine r_gi (pc' := 15) rfl rfl sh_225 rfl rfl ?_
        refine r_ld (pc' := 16) rfl rfl rfl rfl ?_
        refine r_ld (pc' := 17) rfl rfl rfl rfl ?_
        refine r_shrv (pc' := 18) rfl rfl ⟨by omega, by omega⟩ (by omega) (by omega) (fun v16 hsv17 h17 => ?_)
        unfold inI at h17
        refine r_cs (pc' := 21) rfl (by decide) rfl ?_
        refine r_msk (m := 255) (n := 8) (pc' := 22) rfl rfl ⟨by omega, by omega⟩ (by decide) (by decide) ?_
        refine r_is (pc' := 23) rfl rfl sh_226 rfl (by omega) (by omega) hst (inS_0 (by omega) (by omega) (by omega) (by omega)) (wr_226 ⟨by omega, by omega⟩) (fun z18 hq19 hs20 => ?_)
        have hqt := hq19
        refine r_ld (pc' := 24) rfl rfl rfl rfl ?_
        refine r_al (pc' := 25) rfl rfl rfl rfl ?_
        refine r_gi (pc' := 28) rfl rfl sh_225 rfl ((congrFun (congrFun hq19 _) _).trans (mu_ne (by omega))) ?_
        refine r_c0 (pc' := 29) rfl rfl ?_
        refine r_add (pc' := 30) rfl rfl ?_
        refine r_pi (pc' := 33) rfl rfl sh_225 rfl rfl hs20 (inS_s (inS_0 (by omega) (by omega) (by omega) (by omega))) (wr_225_1 ⟨by omega, by omega⟩) (fun z21 hq22 hs23 => ?_)
        refine r_inc (pc' := 36) (lv' := [(0, _), (1, _)]) rfl rfl rfl rfl rfl ?_
        refine r_go rfl ?_
        have hf24 : z21 225 1 = (z 225 1) + 1 := ((congrFun (congrFun hq22 _) _).trans mu_eq)
        exact w_lv (sub_c rfl (sub_c rfl (sub_c rfl sub_n))) rfl (ih0 (x2 + ((-8))) z21 w ⟨by omega, by omega⟩ hs23 (by first | omega | assumption | (simp only [hf24]; assumption)) (by first | (intro i hi; exfalso; omega) | (intro i hi; rw [show z21 226 ((z0 225 1).toNat + i) = z18 226 ((z0 225 1).toNat + i) from ((congrFun (congrFun hq22 _) _).trans (mu_ne (by omega))), hqt]; by_cases c : (i : Int) = z 225 1 - z0 225 1; (rw [mu_eqi (by omega)]; unfold fb; rw [show 24 - 8 * i = x2.toNat by omega, hsv17]; rw [show (256 : Int) = 2 ^ 8 by decide]); (rw [mu_ne (by omega)]; exact as2 i (by omega)))) (by first | exact fun i _ => rfl | exact as3 | (intro i hi; rw [show z21 226 i = z18 226 i from ((congrFun (congrFun hq22 _) _).trans (mu_ne (by omega))), hqt, mu_ne (by omega)]; exact as3 i hi)) (by omega))
  refine w_m rfl rfl ?_
  refine r_cb (pc' := 2) rfl (by decide) rfl ?_
  refine r_st (pc' := 3) (lv' := [(2, _), (0, _), (1, _)]) rfl rfl rfl rfl ?_
  have hb25 := rd_225_1 hz
  exact w_lv (sub_c rfl (sub_c rfl (sub_c rfl sub_n))) rfl ((key ((23 * (24 - (-8)) + 20 : Int).toNat + 1)) 24 z0 w0 ⟨by omega, by omega⟩ hst (by first | omega | assumption) (by first | (intro i hi; exfalso; omega) | (intro i hi; rw [show z0 226 ((z0 225 1).toNat + i) = NOMARK 226 ((z0 225 1).toNat + i) from NOMARK, hqt]; by_cases c : (i : Int) = z 225 1 - z0 225 1; (rw [mu_eqi (by omega)]; unfold fb; rw [show 24 - 8 * i = x2.toNat by omega, hsv17]; rw [show (256 : Int) = 2 ^ 8 by decide]); (rw [mu_ne (by omega)]; exact as2 i (by omega)))) (by first | exact fun i _ => rfl | exact as3 | (intro i hi; rw [show z0 226 i = NOMARK 226 i from NOMARK, hqt, mu_ne (by omega)]; exact as3 i hi)) (by omega))
/-- LoopGroundModel feed -/
abbrev S_146x  : mS := [(226, 226, 0, 1599), (225, 225, 1, 1)]
abbrev E_146x (a1 : Int) (a2 : Int) (a3 : Int) (a4 : Int) (a5 : Int) (z0 w0 : mZ) (x y tx it mt tt ct : Option Nat) : Int → mZ → mZ → mP → Prop := fun v z w p => p = (pq x y tx it mt tt ct) ∧ (-1) ≤ v ∧ v ≤ 1600 ∧ ((1600 < z0 225 1 + 20 ∧ v = -1 ∧ z 225 1 = z0 225 1 ∧ (∀ i : Nat, (i : Int) < z0 225 1 → z 226 i = z0 226 i)) ∨ (z0 225 1 + 20 ≤ 1600 ∧ v = z0 225 1 + 20 ∧ z 225 1 = v ∧ (∀ j : Nat, j < 20 → z 226 ((z0 225 1).toNat + j) = fbs a1 a2 a3 a4 a5 j) ∧ (∀ i : Nat, (i : Int) < z0 225 1 → z 226 i = z0 226 i)))
theorem m_146x {d : Nat} {z0 w0 : mZ} {x y tx it mt tt ct : Option Nat} (a1 : Int) (a2 : Int) (a3 : Int) (a4 : Int) (a5 : Int) (hz : rz z0) (hw : rw_ w0) (ha1 : (-2147483648) ≤ a1 ∧ a1 ≤ 2147483647) (ha2 : (-2147483648) ≤ a2 ∧ a2 ≤ 2147483647) (ha3 : (-2147483648) ≤ a3 ∧ a3 ≤ 2147483647) (ha4 : (-2147483648) ≤ a4 ∧ a4 ≤ 2147483647) (ha5 : (-2147483648) ≤ a5 ∧ a5 ≤ 2147483647) : wc (d + 2) 146 [.ref 225, .int (Int32.ofInt a1), .int (Int32.ofInt a2), .int (Int32.ofInt a3), .int (Int32.ofInt a4), .int (Int32.ofInt a5)] (mk z0 w0 (pq x y tx it mt tt ct)) (poI S_146x z0 w0 (E_146x a1 a2 a3 a4 a5 z0 w0 x y tx it mt tt ct)) := by
  have hst : st_ S_146x z0 w0 z0 w0 := st_rf hz hw
  have hz48 := rd_225_1 hz
  refine w_m rfl rfl ?_
  refine r_ld (pc' := 1) rfl rfl rfl rfl ?_
  have hb49 := rd_225_1 hz
  refine r_gi (pc' := 4) rfl rfl sh_225 rfl rfl ?_
  refine r_cb (pc' := 6) rfl (by decide) rfl ?_
  refine r_add (pc' := 7) rfl rfl ?_
  refine r_cs (pc' := 10) rfl (by decide) rfl ?_
  refine r_ile (pc' := 13) rfl rfl ⟨by omega, by omega⟩ ⟨by decide, by decide⟩ (fun hc50 => ?_) (fun hc50 => ?_)
  · skip
    refine r_ld (pc' := 16) rfl rfl rfl rfl ?_
    refine r_ld (pc' := 17) rfl rfl rfl rfl ?_
    refine r_cVV (pc' := 20) rfl rfl rfl rfl rfl sh_225 (m_147x (d := d) a1 hst.1 hst.2.1 ⟨by omega, by omega⟩ (by first | omega | assumption)) (fun z52 w53 p54 hs56 hE57 => ?_)
    have hs58 := st_tr hst hs56 (sub_B rfl)
    obtain ⟨rfl, hE57⟩ := hE57
    have hf1 := hE57
    refine r_ld (pc' := 21) rfl rfl rfl rfl ?_
    refine r_ld (pc' := 22) rfl rfl rfl rfl ?_
    have hb59 := rd_225_1 hs58.1
    refine r_cVV (pc' := 25) rfl rfl rfl rfl rfl sh_225 (m_147x (d := d) a2 hs58.1 hs58.2.1 ⟨by omega, by omega⟩ (by first | omega | assumption)) (fun z61 w62 p63 hs65 hE66 => ?_)
    have hs67 := st_tr hs58 hs65 (sub_B rfl)
    obtain ⟨rfl, hE66⟩ := hE66
    have hf2 := hE66
    refine r_ld (pc' := 26) rfl rfl rfl rfl ?_
    refine r_ld (pc' := 27) rfl rfl rfl rfl ?_
    have hb68 := rd_225_1 hs67.1
    refine r_cVV (pc' := 30) rfl rfl rfl rfl rfl sh_225 (m_147x (d := d) a3 hs67.1 hs67.2.1 ⟨by omega, by omega⟩ (by first | omega | assumption)) (fun z70 w71 p72 hs74 hE75 => ?_)
    have hs76 := st_tr hs67 hs74 (sub_B rfl)
    obtain ⟨rfl, hE75⟩ := hE75
    have hf3 := hE75
    refine r_ld (pc' := 31) rfl rfl rfl rfl ?_
    refine r_ld (pc' := 33) rfl rfl rfl rfl ?_
    have hb77 := rd_225_1 hs76.1
    refine r_cVV (pc' := 36) rfl rfl rfl rfl rfl sh_225 (m_147x (d := d) a4 hs76.1 hs76.2.1 ⟨by omega, by omega⟩ (by first | omega | assumption)) (fun z79 w80 p81 hs83 hE84 => ?_)
    have hs85 := st_tr hs76 hs83 (sub_B rfl)
    obtain ⟨rfl, hE84⟩ := hE84
    have hf4 := hE84
    refine r_ld (pc' := 37) rfl rfl rfl rfl ?_
    refine r_ld (pc' := 39) rfl rfl rfl rfl ?_
    have hb86 := rd_225_1 hs85.1
    refine r_cVV (pc' := 42) rfl rfl rfl rfl rfl sh_225 (m_147x (d := d) a5 hs85.1 hs85.2.1 ⟨by omega, by omega⟩ (by first | omega | assumption)) (fun z88 w89 p90 hs92 hE93 => ?_)
    have hs94 := st_tr hs85 hs92 (sub_B rfl)
    obtain ⟨rfl, hE93⟩ := hE93
    have hf5 := hE93
    refine r_ld (pc' := 43) rfl rfl rfl rfl ?_
    have hb95 := rd_225_1 hs94.1
    refine r_gi (pc' := 46) rfl rfl sh_225 rfl rfl ?_
    exact r_ri rfl (po_I hs94 ⟨by omega, by omega⟩ ⟨rfl, by omega, by omega, (by exact Or.inr ⟨by omega, by omega, by omega, fbs_5 (T1 := fun i => z52 226 i) (T2 := fun i => z61 226 i) (T3 := fun i => z70 226 i) (T4 := fun i => z79 226 i) (T5 := fun i => z88 226 i) (fun i hi => hf1.2.1 i hi) (fun i hi => by have q := hf2.2.1 i hi; rw [show (z52 225 1).toNat = (z0 225 1).toNat + 4 by omega] at q; exact q) (fun i hi => by have q := hf3.2.1 i hi; rw [show (z61 225 1).toNat = (z0 225 1).toNat + 8 by omega] at q; exact q) (fun i hi => by have q := hf4.2.1 i hi; rw [show (z70 225 1).toNat = (z0 225 1).toNat + 12 by omega] at q; exact q) (fun i hi => by have q := hf5.2.1 i hi; rw [show (z79 225 1).toNat = (z0 225 1).toNat + 16 by omega] at q; exact q) (fun i hi => hf2.2.2 i (by omega)) (fun i hi => hf3.2.2 i (by omega)) (fun i hi => hf4.2.2 i (by omega)) (fun i hi => hf5.2.2 i (by omega)), (fun i hi => by rw [hf5.2.2 i (by omega), hf4.2.2 i (by omega), hf3.2.2 i (by omega), hf2.2.2 i (by omega), hf1.2.2 i (by omega)])⟩)⟩)
  · skip
    refine r_c0 (pc' := 14) rfl rfl ?_
    exact r_ri rfl (po_I hst ⟨by decide, by decide⟩ ⟨rfl, by omega, by omega, (by exact Or.inl ⟨by omega, by omega, by omega, fun i _ => rfl⟩)⟩)
