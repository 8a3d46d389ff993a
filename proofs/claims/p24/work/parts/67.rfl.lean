/-! methods, printed by wip/tools/vcg.py -/
/-- LoopGroundModel findSides -/
abbrev S_195v  : mS := [(225, 225, 53, 53), (225, 225, 54, 54)]
abbrev E_195v (a1 : Int) (z0 w0 : mZ) (x y tx it mt tt ct : Option Nat) : Int → mZ → mZ → mP → Prop := fun v z w p => p = (pq x y tx it mt tt ct) ∧ 0 ≤ v ∧ v ≤ 1 ∧ (SQ (z0 225 26) (z0 255) a1 (z 225 53) (z 225 54) ∧ (v = 1 → z 225 53 / 3 ≠ z 225 54 / 3))
theorem m_195v {d : Nat} {z0 w0 : mZ} {x y tx it mt tt ct : Option Nat} (a1 : Int) (hz : rz z0) (hw : rw_ w0) (ha1 : 0 ≤ a1 ∧ a1 ≤ 17) (hly : LY (z0 225 26) (rE z0) (z0 255)) (he : a1 < rE z0) : wc (d + 1) 195 [.ref 225, .int (Int32.ofInt a1)] (mk z0 w0 (pq x y tx it mt tt ct)) (poI S_195v z0 w0 (E_195v a1 z0 w0 x y tx it mt tt ct)) := by
  have hst : st_ S_195v z0 w0 z0 w0 := st_rf hz hw
  have hz28 := rd_225_26 hz
  have hm26 := rd_225_26 hz
  have hrE : rE z0 = 3 * z0 225 26 / 2 := rfl
  have key : ∀ N : Nat, (∀ (x2 : Int) (z w : mZ), 0 ≤ x2 ∧ x2 ≤ 36 → st_ S_195v z0 w0 z w → (F1 (z0 255) a1 x2 (z 225 53) (z 225 54)) → (x2 ≤ 3 * z0 225 26) → 46 * (36 - x2) + 37 < (N : Int) → wp_ (d) 195 3 (some .boolean) (12, [(0, .ref 225), (1, .int (Int32.ofInt a1)), (2, .int (Int32.ofInt x2))], [], mk z w (pq x y tx it mt tt ct)) (poI S_195v z0 w0 (E_195v a1 z0 w0 x y tx it mt tt ct))) := by
    intro N
    induction N with
    | zero =>
      intro x2 z w
      intros; exfalso; omega
    | succ N ih =>
      have ih0 := ih; clear ih
      intro x2 z w  hx2 hst as1 as2 hM
      refine r_ld (pc' := 13) rfl rfl rfl rfl ?_
      refine r_c0 (pc' := 14) rfl rfl ?_
      refine r_ld (pc' := 15) rfl rfl rfl rfl ?_
      have hb29 := rd_225_26 hz
      refine r_gi (pc' := 18) rfl rfl sh_225 rfl (hst.2.2.1 _ _ (notS_c (by omega) (notS_c (by omega) notS_n))) ?_
      refine r_mul (pc' := 19) rfl rfl ?_
      refine r_ige (pc' := 22) rfl rfl ⟨by omega, by omega⟩ ⟨by omega, by omega⟩ (fun hc30 => ?_) (fun hc30 => ?_)
      · skip
        refine r_ld (pc' := 62) rfl rfl rfl rfl ?_
        have hb31 := rd_225_53 hst.1
        refine r_gi (pc' := 65) rfl rfl sh_225 rfl rfl ?_
        refine r_c0 (pc' := 66) rfl rfl ?_
        refine r_dvg (pc' := 67) rfl rfl ⟨by omega, by omega⟩ ⟨by decide, by decide⟩ (by decide) (fun v32 h33 h34 => ?_)
        refine r_ld (pc' := 68) rfl rfl rfl rfl ?_
        have hb35 := rd_225_54 hst.1
        refine r_gi (pc' := 71) rfl rfl sh_225 rfl rfl ?_
        refine r_c0 (pc' := 72) rfl rfl ?_
        refine r_dvg (pc' := 73) rfl rfl ⟨by omega, by omega⟩ ⟨by decide, by decide⟩ (by decide) (fun v36 h37 h38 => ?_)
        refine r_ieq (pc' := 76) rfl rfl ⟨by omega, by omega⟩ ⟨by omega, by omega⟩ (fun hc39 => ?_) (fun hc39 => ?_)
        · skip
          refine r_c0 (pc' := 81) rfl rfl ?_
          exact r_rz rfl (by omega) (po_I hst ⟨by decide, by decide⟩ ⟨rfl, by omega, by omega, (by have hsq := F1_e hly as1 (by omega) (by omega) (by omega); have g1 := hsq.1; have g2 := hsq.2.1; exact ⟨hsq, fun h => by omega⟩)⟩)
        · skip
          refine r_c0 (pc' := 77) rfl rfl ?_
          refine r_go rfl ?_
          exact r_rz rfl (by omega) (po_I hst ⟨by decide, by decide⟩ ⟨rfl, by omega, by omega, (by have hsq := F1_e hly as1 (by omega) (by omega) (by omega); have g1 := hsq.1; have g2 := hsq.2.1; exact ⟨hsq, fun h => by omega⟩)⟩)
      · skip
        refine r_ld (pc' := 23) rfl rfl rfl rfl ?_
        refine r_gr (b := 255) (pc' := 26) rfl rfl sh_225 rfl pp_225_51 ?_
        refine r_ld (pc' := 27) rfl rfl rfl rfl ?_
        have hb40 := rd_255 hz (i := x2.toNat) (by omega)
        refine r_ia (pc' := 28) rfl rfl sh_255 rfl (by omega) (by omega) (hst.2.2.1 _ _ (notS_c (by omega) (notS_c (by omega) notS_n))) ?_
        refine r_ld (pc' := 29) rfl rfl rfl rfl ?_
        refine r_ieq (pc' := 32) rfl rfl ⟨by omega, by omega⟩ ⟨by omega, by omega⟩ (fun hc41 => ?_) (fun hc41 => ?_)
        · skip
          refine r_ld (pc' := 36) rfl rfl rfl rfl ?_
          have hb42 := rd_225_53 hst.1
          refine r_gi (pc' := 39) rfl rfl sh_225 rfl rfl ?_
          refine r_zge (pc' := 42) rfl rfl ⟨by omega, by omega⟩ (fun hc43 => ?_) (fun hc43 => ?_)
          · skip
            refine r_ld (pc' := 51) rfl rfl rfl rfl ?_
            refine r_ld (pc' := 52) rfl rfl rfl rfl ?_
            refine r_pi (pc' := 55) rfl rfl sh_225 rfl rfl hst (inS_s (inS_0 (by omega) (by omega) (by omega) (by omega))) (wr_225_54 ⟨by omega, by omega⟩) (fun z44 hq45 hs46 => ?_)
            refine r_inc (pc' := 58) (lv' := [(0, _), (1, _)]) rfl rfl rfl rfl rfl ?_
            refine r_go rfl ?_
            have hf47 : z44 225 53 = z 225 53 := ((congrFun (congrFun hq45 _) _).trans (mu_ne (by omega)))
            have hf48 : z44 225 54 = x2 := ((congrFun (congrFun hq45 _) _).trans mu_eq)
            exact w_lv (sub_c rfl (sub_c rfl (sub_c rfl sub_n))) rfl (ih0 (x2 + 1) z44 w ⟨by omega, by omega⟩ hs46 (by first | exact F1_n as1 (by omega) (by omega) | (simp only [hf47, hf48]; first | exact F1_0 | exact F1_a as1 (by omega) (by omega) (by omega) | exact F1_b hly as1 (by omega) (by omega) (by omega) (by omega))) (by first | omega | assumption | (simp only [hf47, hf48]; assumption)) (by omega))
          · skip
            refine r_ld (pc' := 43) rfl rfl rfl rfl ?_
            refine r_ld (pc' := 44) rfl rfl rfl rfl ?_
            refine r_pi (pc' := 47) rfl rfl sh_225 rfl rfl hst (inS_0 (by omega) (by omega) (by omega) (by omega)) (wr_225_53 ⟨by omega, by omega⟩) (fun z49 hq50 hs51 => ?_)
            refine r_go rfl ?_
            refine r_inc (pc' := 58) (lv' := [(0, _), (1, _)]) rfl rfl rfl rfl rfl ?_
            refine r_go rfl ?_
            have hf52 : z49 225 53 = x2 := ((congrFun (congrFun hq50 _) _).trans mu_eq)
            have hb53 := rd_225_54 hst.1
            have hf54 : z49 225 54 = z 225 54 := ((congrFun (congrFun hq50 _) _).trans (mu_ne (by omega)))
            exact w_lv (sub_c rfl (sub_c rfl (sub_c rfl sub_n))) rfl (ih0 (x2 + 1) z49 w ⟨by omega, by omega⟩ hs51 (by first | exact F1_n as1 (by omega) (by omega) | (simp only [hf52, hf54]; first | exact F1_0 | exact F1_a as1 (by omega) (by omega) (by omega) | exact F1_b hly as1 (by omega) (by omega) (by omega) (by omega))) (by first | omega | assumption | (simp only [hf52, hf54]; assumption)) (by omega))
        · skip
          refine r_go rfl ?_
          refine r_inc (pc' := 58) (lv' := [(0, _), (1, _)]) rfl rfl rfl rfl rfl ?_
          refine r_go rfl ?_
          have hb55 := rd_225_53 hst.1
          have hb56 := rd_225_54 hst.1
          exact w_lv (sub_c rfl (sub_c rfl (sub_c rfl sub_n))) rfl (ih0 (x2 + 1) z w ⟨by omega, by omega⟩ hst (by first | exact F1_n as1 (by omega) (by omega) | (simp only []; first | exact F1_0 | exact F1_a as1 (by omega) (by omega) (by omega) | exact F1_b hly as1 (by omega) (by omega) (by omega) (by omega))) (by first | omega | assumption) (by omega))
  refine w_m rfl rfl ?_
  refine r_ld (pc' := 1) rfl rfl rfl rfl ?_
  refine r_c0 (pc' := 2) rfl rfl ?_
  refine r_pi (pc' := 5) rfl rfl sh_225 rfl rfl hst (inS_0 (by omega) (by omega) (by omega) (by omega)) (wr_225_53 ⟨by omega, by omega⟩) (fun z57 hq58 hs59 => ?_)
  refine r_ld (pc' := 6) rfl rfl rfl rfl ?_
  refine r_c0 (pc' := 7) rfl rfl ?_
  refine r_pi (pc' := 10) rfl rfl sh_225 rfl rfl hs59 (inS_s (inS_0 (by omega) (by omega) (by omega) (by omega))) (wr_225_54 ⟨by omega, by omega⟩) (fun z60 hq61 hs62 => ?_)
  refine r_c0 (pc' := 11) rfl rfl ?_
  refine r_st (pc' := 12) (lv' := [(2, _), (0, _), (1, _)]) rfl rfl rfl rfl ?_
  have hf63 : z60 225 53 = (-1) := (((congrFun (congrFun hq61 _) _).trans (mu_ne (by omega))).trans ((congrFun (congrFun hq58 _) _).trans mu_eq))
  have hf64 : z60 225 54 = (-1) := ((congrFun (congrFun hq61 _) _).trans mu_eq)
  exact w_lv (sub_c rfl (sub_c rfl (sub_c rfl sub_n))) rfl ((key ((46 * (36 - 0) + 37 : Int).toNat + 1)) 0 z60 w0 ⟨by omega, by omega⟩ hs62 (by first | exact F1_n as1 (by omega) (by omega) | (simp only [hf63, hf64]; first | exact F1_0 | exact F1_a as1 (by omega) (by omega) (by omega) | exact F1_b hly as1 (by omega) (by omega) (by omega) (by omega))) (by first | omega | assumption | (simp only [hf63, hf64]; assumption)) (by omega))
/-- LoopGroundModel flipped -/
abbrev S_196v  : mS := []
abbrev E_196v (a1 : Int) (z0 w0 : mZ) (x y tx it mt tt ct : Option Nat) : Int → mZ → mZ → mP → Prop := fun v z w p => p = (pq x y tx it mt tt ct) ∧ z0 = z ∧ w0 = w ∧ (-9999) ≤ v ∧ v ≤ 19998 ∧ (v = FQ z0 (z0 225 53) (z0 225 54) a1)
theorem m_196v {d : Nat} {z0 w0 : mZ} {x y tx it mt tt ct : Option Nat} (a1 : Int) (hz : rz z0) (hw : rw_ w0) (ha1 : 0 ≤ a1 ∧ a1 ≤ 17) (hsq : SQ (z0 225 26) (z0 255) a1 (z0 225 53) (z0 225 54)) : wc (d + 2) 196 [.ref 225, .int (Int32.ofInt a1)] (mk z0 w0 (pq x y tx it mt tt ct)) (poI S_196v z0 w0 (E_196v a1 z0 w0 x y tx it mt tt ct)) := by
  have hst : st_ S_196v z0 w0 z0 w0 := st_rf hz hw
  have hz46 := rd_225_26 hz
  have hz47 := rd_225_53 hz
  have hz48 := rd_225_54 hz
  have hm26 := rd_225_26 hz
  have hrE : rE z0 = 3 * z0 225 26 / 2 := rfl
  have g1 := hsq.1
  have g2 := hsq.2.1
  have g3 := hsq.2.2.1
  refine w_m rfl rfl ?_
  refine r_ld (pc' := 1) rfl rfl rfl rfl ?_
  refine r_gr (b := 256) (pc' := 4) rfl rfl sh_225 rfl pp_225_52 ?_
  refine r_ld (pc' := 5) rfl rfl rfl rfl ?_
  refine r_gr (b := 255) (pc' := 8) rfl rfl sh_225 rfl pp_225_51 ?_
  refine r_ld (pc' := 9) rfl rfl rfl rfl ?_
  have hb49 := rd_225_53 hz
  refine r_gi (pc' := 12) rfl rfl sh_225 rfl rfl ?_
  refine r_c0 (pc' := 13) rfl rfl ?_
  refine r_cSI (pc' := 16) rfl rfl rfl rfl rfl (m_177v (d := d) (z0 225 53) 1 hst.1 hst.2.1 ⟨by omega, by omega⟩ ⟨by omega, by omega⟩) (fun v50 z51 w52 p53 h54 hs55 hE56 => ?_)
  obtain ⟨rfl, rfl, rfl, hE56⟩ := hE56
  have h13 := (hE56.2.2).1 rfl
  have hb58 := rd_255 hz (i := v50.toNat) (by omega)
  refine r_ia (pc' := 17) rfl rfl sh_255 rfl (by omega) (by omega) rfl ?_
  have hb59 := rd_256 hz (i := (z0 255 v50.toNat).toNat) (by omega)
  refine r_ia (pc' := 18) rfl rfl sh_256 rfl (by omega) (by omega) rfl ?_
  refine r_ld (pc' := 19) rfl rfl rfl rfl ?_
  refine r_gr (b := 256) (pc' := 22) rfl rfl sh_225 rfl pp_225_52 ?_
  refine r_ld (pc' := 23) rfl rfl rfl rfl ?_
  refine r_gr (b := 255) (pc' := 26) rfl rfl sh_225 rfl pp_225_51 ?_
  refine r_ld (pc' := 27) rfl rfl rfl rfl ?_
  have hb60 := rd_225_54 hz
  refine r_gi (pc' := 30) rfl rfl sh_225 rfl rfl ?_
  refine r_c0 (pc' := 31) rfl rfl ?_
  refine r_cSI (pc' := 34) rfl rfl rfl rfl rfl (m_177v (d := d) (z0 225 54) 1 hst.1 hst.2.1 ⟨by omega, by omega⟩ ⟨by omega, by omega⟩) (fun v61 z62 w63 p64 h65 hs66 hE67 => ?_)
  obtain ⟨rfl, rfl, rfl, hE67⟩ := hE67
  have h31 := (hE67.2.2).1 rfl
  have hb69 := rd_255 hz (i := v61.toNat) (by omega)
  refine r_ia (pc' := 35) rfl rfl sh_255 rfl (by omega) (by omega) rfl ?_
  have hb70 := rd_256 hz (i := (z0 255 v61.toNat).toNat) (by omega)
  refine r_ia (pc' := 36) rfl rfl sh_256 rfl (by omega) (by omega) rfl ?_
  refine r_add (pc' := 37) rfl rfl ?_
  refine r_st (pc' := 38) (lv' := [(2, _), (0, _), (1, _)]) rfl rfl rfl rfl ?_
  refine r_ld (pc' := 39) rfl rfl rfl rfl ?_
  refine r_gr (b := 256) (pc' := 42) rfl rfl sh_225 rfl pp_225_52 ?_
  refine r_ld (pc' := 43) rfl rfl rfl rfl ?_
  refine r_gr (b := 255) (pc' := 46) rfl rfl sh_225 rfl pp_225_51 ?_
  refine r_ld (pc' := 47) rfl rfl rfl rfl ?_
  refine r_gi (pc' := 50) rfl rfl sh_225 rfl rfl ?_
  refine r_c0 (pc' := 51) rfl rfl ?_
  refine r_cSI (pc' := 54) rfl rfl rfl rfl rfl (m_177v (d := d) (z0 225 53) 2 hst.1 hst.2.1 ⟨by omega, by omega⟩ ⟨by omega, by omega⟩) (fun v71 z72 w73 p74 h75 hs76 hE77 => ?_)
  obtain ⟨rfl, rfl, rfl, hE77⟩ := hE77
  have h51 := (hE77.2.2).2 rfl
  have hb79 := rd_255 hz (i := v71.toNat) (by omega)
  refine r_ia (pc' := 55) rfl rfl sh_255 rfl (by omega) (by omega) rfl ?_
  have hb80 := rd_256 hz (i := (z0 255 v71.toNat).toNat) (by omega)
  refine r_ia (pc' := 56) rfl rfl sh_256 rfl (by omega) (by omega) rfl ?_
  refine r_ld (pc' := 57) rfl rfl rfl rfl ?_
  refine r_gr (b := 256) (pc' := 60) rfl rfl sh_225 rfl pp_225_52 ?_
  refine r_ld (pc' := 61) rfl rfl rfl rfl ?_
  refine r_gr (b := 255) (pc' := 64) rfl rfl sh_225 rfl pp_225_51 ?_
  refine r_ld (pc' := 65) rfl rfl rfl rfl ?_
  refine r_gi (pc' := 68) rfl rfl sh_225 rfl rfl ?_
  refine r_c0 (pc' := 69) rfl rfl ?_
  refine r_cSI (pc' := 72) rfl rfl rfl rfl rfl (m_177v (d := d) (z0 225 54) 2 hst.1 hst.2.1 ⟨by omega, by omega⟩ ⟨by omega, by omega⟩) (fun v81 z82 w83 p84 h85 hs86 hE87 => ?_)
  obtain ⟨rfl, rfl, rfl, hE87⟩ := hE87
  have h69 := (hE87.2.2).2 rfl
  have hb89 := rd_255 hz (i := v81.toNat) (by omega)
  refine r_ia (pc' := 73) rfl rfl sh_255 rfl (by omega) (by omega) rfl ?_
  have hb90 := rd_256 hz (i := (z0 255 v81.toNat).toNat) (by omega)
  refine r_ia (pc' := 74) rfl rfl sh_256 rfl (by omega) (by omega) rfl ?_
  refine r_add (pc' := 75) rfl rfl ?_
  refine r_st (pc' := 76) (lv' := [(3, _), (2, _), (0, _), (1, _)]) rfl rfl rfl rfl ?_
  refine r_ld (pc' := 77) rfl rfl rfl rfl ?_
  refine r_ld (pc' := 78) rfl rfl rfl rfl ?_
  refine r_ile (pc' := 81) rfl rfl ⟨by omega, by omega⟩ ⟨by omega, by omega⟩ (fun hc91 => ?_) (fun hc91 => ?_)
  · skip
    refine r_ld (pc' := 86) rfl rfl rfl rfl ?_
    refine r_ld (pc' := 87) rfl rfl rfl rfl ?_
    refine r_gr (b := 256) (pc' := 90) rfl rfl sh_225 rfl pp_225_52 ?_
    refine r_ld (pc' := 91) rfl rfl rfl rfl ?_
    have hb92 := rd_256 hz (i := a1.toNat) (by omega)
    refine r_ia (pc' := 92) rfl rfl sh_256 rfl (by omega) (by omega) rfl ?_
    refine r_sub (pc' := 93) rfl rfl ?_
    exact r_ri rfl (po_I hst ⟨by omega, by omega⟩ ⟨rfl, rfl, rfl, by omega, by omega, (by unfold FQ; rw [← h13, ← h31, ← h51, ← h69]; omega)⟩)
  · skip
    refine r_ld (pc' := 82) rfl rfl rfl rfl ?_
    refine r_go rfl ?_
    refine r_ld (pc' := 87) rfl rfl rfl rfl ?_
    refine r_gr (b := 256) (pc' := 90) rfl rfl sh_225 rfl pp_225_52 ?_
    refine r_ld (pc' := 91) rfl rfl rfl rfl ?_
    have hb93 := rd_256 hz (i := a1.toNat) (by omega)
    refine r_ia (pc' := 92) rfl rfl sh_256 rfl (by omega) (by omega) rfl ?_
    refine r_sub (pc' := 93) rfl rfl ?_
    exact r_ri rfl (po_I hst ⟨by omega, by omega⟩ ⟨rfl, rfl, rfl, by omega, by omega, (by unfold FQ; rw [← h13, ← h31, ← h51, ← h69]; omega)⟩)
