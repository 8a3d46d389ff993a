/-! methods, printed by wip/tools/vcg.py -/
/-- LoopGroundModel triedFits -/
abbrev S_231v  : mS := []
abbrev E_231v  (z0 w0 : mZ) (x y tx it mt tt ct : Option Nat) : Int → mZ → mZ → mP → Prop := fun v z w p => p = (pq x y tx it mt tt ct) ∧ z0 = z ∧ w0 = w ∧ 0 ≤ v ∧ v ≤ 1 ∧ (v = 1 → FTw z0 (z0 269))
theorem m_231v {d : Nat} {z0 w0 : mZ} {x y tx it mt tt ct : Option Nat}  (hz : rz z0) (hw : rw_ w0) (hrw : RW z0) : wc (d + 1) 231 [.ref 225] (mk z0 w0 (pq x y tx it mt tt ct)) (poI S_231v z0 w0 (E_231v  z0 w0 x y tx it mt tt ct)) := by
  have hst : st_ S_231v z0 w0 z0 w0 := st_rf hz hw
  have hz14 := rd_225_26 hz
  have hm26 := rd_225_26 hz
  have hrE : rE z0 = 3 * z0 225 26 / 2 := rfl
  have key : ∀ N : Nat, (∀ (x1 x2 : Int) , 0 ≤ x1 ∧ x1 ≤ 1 → 0 ≤ x2 ∧ x2 ≤ 12 → (x1 = 1 → ∀ q : Nat, (q : Int) < x2 → tri (z0 269 (z0 235 (3 * q)).toNat) (z0 269 (z0 235 (3 * q + 1)).toNat) (z0 269 (z0 235 (3 * q + 2)).toNat)) → (x2 ≤ z0 225 26) → 75 * (12 - x2) + 70 < (N : Int) → wp_ (d) 231 6 (some .boolean) (4, [(0, .ref 225), (1, .int (Int32.ofInt x1)), (2, .int (Int32.ofInt x2))], [], mk z0 w0 (pq x y tx it mt tt ct)) (poI S_231v z0 w0 (E_231v  z0 w0 x y tx it mt tt ct))) ∧ (∀ (x2 : Int) , 0 ≤ x2 ∧ x2 ≤ 11 → 1 ≤ z0 225 26 ∧ z0 225 26 ≤ 12 → (x2 < z0 225 26) → 75 * (12 - x2) + 5 < (N : Int) → wp_ (d) 231 6 (some .boolean) (107, [(0, .ref 225), (2, .int (Int32.ofInt x2))], [], mk z0 w0 (pq x y tx it mt tt ct)) (poI S_231v z0 w0 (E_231v  z0 w0 x y tx it mt tt ct))) := by
    intro N
    induction N with
    | zero =>
      refine ⟨?_, ?_⟩
      · intro x1 x2 
        intros; exfalso; omega
      · intro x2 
        intros; exfalso; omega
    | succ N ih =>
      obtain ⟨ih0, ih1⟩ := ih
      refine ⟨?_, ?_⟩
      · intro x1 x2  hx1 hx2 as1 as2 hM
        refine r_ld (pc' := 5) rfl rfl rfl rfl ?_
        refine r_ld (pc' := 6) rfl rfl rfl rfl ?_
        have hb15 := rd_225_26 hz
        refine r_gi (pc' := 9) rfl rfl sh_225 rfl rfl ?_
        refine r_ige (pc' := 12) rfl rfl ⟨by omega, by omega⟩ ⟨by omega, by omega⟩ (fun hc16 => ?_) (fun hc16 => ?_)
        · skip
          refine r_ld (pc' := 116) rfl rfl rfl rfl ?_
          exact r_rz rfl (by omega) (po_I hst ⟨by omega, by omega⟩ ⟨rfl, rfl, rfl, by omega, by omega, (by intro h; exact tri_of hz hrw (fun q hq => as1 (by omega) q (by omega)))⟩)
        · skip
          refine r_ld (pc' := 13) rfl rfl rfl rfl ?_
          refine r_gr (b := 269) (pc' := 16) rfl rfl sh_225 rfl pp_225_69 ?_
          refine r_ld (pc' := 17) rfl rfl rfl rfl ?_
          refine r_gr (b := 235) (pc' := 20) rfl rfl sh_225 rfl pp_225_18 ?_
          refine r_c0 (pc' := 21) rfl rfl ?_
          refine r_ld (pc' := 22) rfl rfl rfl rfl ?_
          refine r_mul (pc' := 23) rfl rfl ?_
          have hb17 := rd_235 hz (i := (3 * x2).toNat) (by omega)
          refine r_ia (pc' := 24) rfl rfl sh_235 rfl (by omega) (by omega) rfl ?_
          have hb18 := rd_269 hz (i := (z0 235 (3 * x2).toNat).toNat) (by omega)
          refine r_ia (pc' := 25) rfl rfl sh_269 rfl (by omega) (by omega) rfl ?_
          refine r_st (pc' := 26) (lv' := [(3, _), (0, _), (1, _), (2, _)]) rfl rfl rfl rfl ?_
          refine r_ld (pc' := 27) rfl rfl rfl rfl ?_
          refine r_gr (b := 269) (pc' := 30) rfl rfl sh_225 rfl pp_225_69 ?_
          refine r_ld (pc' := 31) rfl rfl rfl rfl ?_
          refine r_gr (b := 235) (pc' := 34) rfl rfl sh_225 rfl pp_225_18 ?_
          refine r_c0 (pc' := 35) rfl rfl ?_
          refine r_ld (pc' := 36) rfl rfl rfl rfl ?_
          refine r_mul (pc' := 37) rfl rfl ?_
          refine r_c0 (pc' := 38) rfl rfl ?_
          refine r_add (pc' := 39) rfl rfl ?_
          have hb19 := rd_235 hz (i := ((3 * x2) + 1).toNat) (by omega)
          refine r_ia (pc' := 40) rfl rfl sh_235 rfl (by omega) (by omega) rfl ?_
          have hb20 := rd_269 hz (i := (z0 235 ((3 * x2) + 1).toNat).toNat) (by omega)
          refine r_ia (pc' := 41) rfl rfl sh_269 rfl (by omega) (by omega) rfl ?_
          refine r_st (pc' := 43) (lv' := [(4, _), (3, _), (0, _), (1, _), (2, _)]) rfl rfl rfl rfl ?_
          refine r_ld (pc' := 44) rfl rfl rfl rfl ?_
          refine r_gr (b := 269) (pc' := 47) rfl rfl sh_225 rfl pp_225_69 ?_
          refine r_ld (pc' := 48) rfl rfl rfl rfl ?_
          refine r_gr (b := 235) (pc' := 51) rfl rfl sh_225 rfl pp_225_18 ?_
          refine r_c0 (pc' := 52) rfl rfl ?_
          refine r_ld (pc' := 53) rfl rfl rfl rfl ?_
          refine r_mul (pc' := 54) rfl rfl ?_
          refine r_c0 (pc' := 55) rfl rfl ?_
          refine r_add (pc' := 56) rfl rfl ?_
          have hb21 := rd_235 hz (i := ((3 * x2) + 2).toNat) (by omega)
          refine r_ia (pc' := 57) rfl rfl sh_235 rfl (by omega) (by omega) rfl ?_
          have hb22 := rd_269 hz (i := (z0 235 ((3 * x2) + 2).toNat).toNat) (by omega)
          refine r_ia (pc' := 58) rfl rfl sh_269 rfl (by omega) (by omega) rfl ?_
          refine r_st (pc' := 60) (lv' := [(5, _), (4, _), (3, _), (0, _), (1, _), (2, _)]) rfl rfl rfl rfl ?_
          refine r_ld (pc' := 61) rfl rfl rfl rfl ?_
          refine r_zeq (pc' := 64) rfl rfl ⟨by omega, by omega⟩ (fun hc23 => ?_) (fun hc23 => ?_)
          · skip
            exact w_lv (sub_c rfl (sub_c rfl sub_n)) rfl (ih1 x2 ⟨by omega, by omega⟩ ⟨by omega, by omega⟩ (by first | omega | assumption) (by omega))
          · skip
            refine r_ld (pc' := 65) rfl rfl rfl rfl ?_
            refine r_ld (pc' := 67) rfl rfl rfl rfl ?_
            refine r_add (pc' := 68) rfl rfl ?_
            refine r_ld (pc' := 70) rfl rfl rfl rfl ?_
            refine r_add (pc' := 71) rfl rfl ?_
            refine r_c0 (pc' := 72) rfl rfl ?_
            refine r_rm (pc' := 73) (v := (((z0 269 (z0 235 (3 * x2).toNat).toNat) + (z0 269 (z0 235 ((3 * x2) + 1).toNat).toNat)) + (z0 269 (z0 235 ((3 * x2) + 2).toNat).toNat)) % 2) rfl rfl ⟨by omega, by omega⟩ ⟨by decide, by decide⟩ (by decide) (tmod_n (by omega)) ?_
            refine r_zne (pc' := 76) rfl rfl ⟨by omega, by omega⟩ (fun hc24 => ?_) (fun hc24 => ?_)
            · skip
              exact w_lv (sub_c rfl (sub_c rfl sub_n)) rfl (ih1 x2 ⟨by omega, by omega⟩ ⟨by omega, by omega⟩ (by first | omega | assumption) (by omega))
            · skip
              refine r_ld (pc' := 77) rfl rfl rfl rfl ?_
              refine r_ld (pc' := 79) rfl rfl rfl rfl ?_
              refine r_ld (pc' := 81) rfl rfl rfl rfl ?_
              refine r_add (pc' := 82) rfl rfl ?_
              refine r_igt (pc' := 85) rfl rfl ⟨by omega, by omega⟩ ⟨by omega, by omega⟩ (fun hc25 => ?_) (fun hc25 => ?_)
              · skip
                exact w_lv (sub_c rfl (sub_c rfl sub_n)) rfl (ih1 x2 ⟨by omega, by omega⟩ ⟨by omega, by omega⟩ (by first | omega | assumption) (by omega))
              · skip
                refine r_ld (pc' := 87) rfl rfl rfl rfl ?_
                refine r_ld (pc' := 88) rfl rfl rfl rfl ?_
                refine r_ld (pc' := 90) rfl rfl rfl rfl ?_
                refine r_add (pc' := 91) rfl rfl ?_
                refine r_igt (pc' := 94) rfl rfl ⟨by omega, by omega⟩ ⟨by omega, by omega⟩ (fun hc26 => ?_) (fun hc26 => ?_)
                · skip
                  exact w_lv (sub_c rfl (sub_c rfl sub_n)) rfl (ih1 x2 ⟨by omega, by omega⟩ ⟨by omega, by omega⟩ (by first | omega | assumption) (by omega))
                · skip
                  refine r_ld (pc' := 96) rfl rfl rfl rfl ?_
                  refine r_ld (pc' := 97) rfl rfl rfl rfl ?_
                  refine r_ld (pc' := 99) rfl rfl rfl rfl ?_
                  refine r_add (pc' := 100) rfl rfl ?_
                  refine r_igt (pc' := 103) rfl rfl ⟨by omega, by omega⟩ ⟨by omega, by omega⟩ (fun hc27 => ?_) (fun hc27 => ?_)
                  · skip
                    exact w_lv (sub_c rfl (sub_c rfl sub_n)) rfl (ih1 x2 ⟨by omega, by omega⟩ ⟨by omega, by omega⟩ (by first | omega | assumption) (by omega))
                  · skip
                    refine r_c0 (pc' := 104) rfl rfl ?_
                    refine r_go rfl ?_
                    refine r_st (pc' := 109) (lv' := [(1, _), (5, _), (4, _), (3, _), (0, _), (2, _)]) rfl rfl rfl rfl ?_
                    refine r_inc (pc' := 112) (lv' := [(1, _), (5, _), (4, _), (3, _), (0, _)]) rfl rfl rfl rfl rfl ?_
                    refine r_go rfl ?_
                    exact w_lv (sub_c rfl (sub_c rfl (sub_c rfl sub_n))) rfl (ih0 1 (x2 + 1) ⟨by omega, by omega⟩ ⟨by omega, by omega⟩ (by first | (intro h q hq; exfalso; omega) | (intro _ q hq; by_cases c : (q : Int) = x2; (have e0 : (3 * x2).toNat = 3 * q := (by omega); have e1 : (3 * x2 + 1).toNat = 3 * q + 1 := (by omega); have e2 : (3 * x2 + 2).toNat = 3 * q + 2 := (by omega); rw [← e1, ← e2, ← e0]; exact ⟨by omega, by omega, by omega, by omega⟩); exact as1 (by omega) q (by omega))) (by first | omega | assumption) (by omega))
      · intro x2  hx2 hz0_0 as2 hM
        refine r_c0 (pc' := 108) rfl rfl ?_
        refine r_st (pc' := 109) (lv' := [(1, _), (0, _), (2, _)]) rfl rfl rfl rfl ?_
        refine r_inc (pc' := 112) (lv' := [(1, _), (0, _)]) rfl rfl rfl rfl rfl ?_
        refine r_go rfl ?_
        exact w_lv (sub_c rfl (sub_c rfl (sub_c rfl sub_n))) rfl (ih0 0 (x2 + 1) ⟨by omega, by omega⟩ ⟨by omega, by omega⟩ (by first | (intro h q hq; exfalso; omega) | (intro _ q hq; by_cases c : (q : Int) = x2; (have e0 : (3 * x2).toNat = 3 * q := (by omega); have e1 : (3 * x2 + 1).toNat = 3 * q + 1 := (by omega); have e2 : (3 * x2 + 2).toNat = 3 * q + 2 := (by omega); rw [← e1, ← e2, ← e0]; exact ⟨by omega, by omega, by omega, by omega⟩); exact as1 (by omega) q (by omega))) (by first | omega | assumption) (by omega))
  refine w_m rfl rfl ?_
  refine r_c0 (pc' := 1) rfl rfl ?_
  refine r_st (pc' := 2) (lv' := [(1, _), (0, _)]) rfl rfl rfl rfl ?_
  refine r_c0 (pc' := 3) rfl rfl ?_
  refine r_st (pc' := 4) (lv' := [(2, _), (1, _), (0, _)]) rfl rfl rfl rfl ?_
  exact w_lv (sub_c rfl (sub_c rfl (sub_c rfl sub_n))) rfl ((key ((75 * (12 - 0) + 70 : Int).toNat + 1)).1 1 0 ⟨by omega, by omega⟩ ⟨by omega, by omega⟩ (by first | (intro h q hq; exfalso; omega) | (intro _ q hq; by_cases c : (q : Int) = x2; (have e0 : (3 * x2).toNat = 3 * q := (by omega); have e1 : (3 * x2 + 1).toNat = 3 * q + 1 := (by omega); have e2 : (3 * x2 + 2).toNat = 3 * q + 2 := (by omega); rw [← e1, ← e2, ← e0]; exact ⟨by omega, by omega, by omega, by omega⟩); exact as1 (by omega) q (by omega))) (by first | omega | assumption) (by omega))
/-- LoopGroundModel nextTried -/
abbrev S_234v  : mS := [(269, 269, 0, 17)]
abbrev E_234v (a1 : Int) (z0 w0 : mZ) (x y tx it mt tt ct : Option Nat) : Int → mZ → mZ → mP → Prop := fun v z w p => p = (pq x y tx it mt tt ct) ∧ 0 ≤ v ∧ v ≤ 1 ∧ ((∀ j : Nat, j < 18 → z 269 j ≤ 3) ∧ (v = 1 → tv (z0 269) 18 < tv (z 269) 18))
theorem m_234v {d : Nat} {z0 w0 : mZ} {x y tx it mt tt ct : Option Nat} (a1 : Int) (hz : rz z0) (hw : rw_ w0) (ha1 : 1 ≤ a1 ∧ a1 ≤ 3) (hd3 : ∀ j : Nat, j < 18 → z0 269 j ≤ 3) : wc (d + 2) 234 [.ref 225, .int (Int32.ofInt a1)] (mk z0 w0 (pq x y tx it mt tt ct)) (poI S_234v z0 w0 (E_234v a1 z0 w0 x y tx it mt tt ct)) := by
  have hst : st_ S_234v z0 w0 z0 w0 := st_rf hz hw
  have hm26 := rd_225_26 hz
  have hrE : rE z0 = 3 * z0 225 26 / 2 := rfl
  have key : ∀ N : Nat, (∀ (x2 : Int) (z w : mZ), (-1) ≤ x2 ∧ x2 ≤ 17 → st_ S_234v z0 w0 z w → (∀ j : Nat, j < 18 → z 269 j ≤ 3) → (∀ j : Nat, (j : Int) ≤ x2 → z 269 j = z0 269 j) → 32 * (x2 - (-1)) + 26 < (N : Int) → wp_ (d + 1) 234 3 (some .boolean) (7, [(0, .ref 225), (1, .int (Int32.ofInt a1)), (2, .int (Int32.ofInt x2))], [], mk z w (pq x y tx it mt tt ct)) (poI S_234v z0 w0 (E_234v a1 z0 w0 x y tx it mt tt ct))) := by
    intro N
    induction N with
    | zero =>
      intro x2 z w
      intros; exfalso; omega
    | succ N ih =>
      have ih0 := ih; clear ih
      intro x2 z w  hx2 hst as1 as2 hM
      refine r_ld (pc' := 8) rfl rfl rfl rfl ?_
      refine r_zlt (pc' := 11) rfl rfl ⟨by omega, by omega⟩ (fun hc19 => ?_) (fun hc19 => ?_)
      · skip
        refine r_c0 (pc' := 47) rfl rfl ?_
        exact r_rz rfl (by omega) (po_I hst ⟨by decide, by decide⟩ ⟨rfl, by omega, by omega, (by exact ⟨as1, fun q => absurd q (by omega)⟩)⟩)
      · skip
        have he := as2 x2.toNat (by omega)
        refine r_ld (pc' := 12) rfl rfl rfl rfl ?_
        refine r_gr (b := 269) (pc' := 15) rfl rfl sh_225 rfl pp_225_69 ?_
        refine r_ld (pc' := 16) rfl rfl rfl rfl ?_
        have hb20 := rd_269 hst.1 (i := x2.toNat) (by omega)
        refine r_ia (pc' := 17) rfl rfl sh_269 rfl (by omega) (by omega) rfl ?_
        refine r_ld (pc' := 18) rfl rfl rfl rfl ?_
        refine r_ige (pc' := 21) rfl rfl ⟨by omega, by omega⟩ ⟨by omega, by omega⟩ (fun hc21 => ?_) (fun hc21 => ?_)
        · skip
          refine r_ld (pc' := 34) rfl rfl rfl rfl ?_
          refine r_gr (b := 269) (pc' := 37) rfl rfl sh_225 rfl pp_225_69 ?_
          refine r_ld (pc' := 38) rfl rfl rfl rfl ?_
          refine r_c0 (pc' := 39) rfl rfl ?_
          refine r_is (pc' := 40) rfl rfl sh_269 rfl (by omega) (by omega) hst (inS_0 (by omega) (by omega) (by omega) (by omega)) (wr_269 ⟨by omega, by omega⟩) (fun z22 hq23 hs24 => ?_)
          have hqz := hq23
          refine r_inc (pc' := 43) (lv' := [(0, _), (1, _)]) rfl rfl rfl rfl rfl ?_
          refine r_go rfl ?_
          exact w_lv (sub_c rfl (sub_c rfl (sub_c rfl sub_n))) rfl (ih0 (x2 + ((-1))) z22 w ⟨by omega, by omega⟩ hs24 (by first | exact hd3 | (intro j hj; rw [hqz]; by_cases c : j = x2.toNat; (subst c; rw [mu_eq]; omega); (rw [mu_ne (by omega)]; exact as1 j hj))) (by first | exact fun j _ => rfl | (intro j hj; rw [hqz, mu_ne (by omega)]; exact as2 j (by omega))) (by omega))
        · skip
          refine r_ld (pc' := 22) rfl rfl rfl rfl ?_
          refine r_gr (b := 269) (pc' := 25) rfl rfl sh_225 rfl pp_225_69 ?_
          refine r_ld (pc' := 26) rfl rfl rfl rfl ?_
          refine r_al (pc' := 27) rfl rfl rfl rfl ?_
          refine r_ia (pc' := 28) rfl rfl sh_269 rfl (by omega) (by omega) rfl ?_
          refine r_c0 (pc' := 29) rfl rfl ?_
          refine r_add (pc' := 30) rfl rfl ?_
          refine r_is (pc' := 31) rfl rfl sh_269 rfl (by omega) (by omega) hst (inS_0 (by omega) (by omega) (by omega) (by omega)) (wr_269 ⟨by omega, by omega⟩) (fun z25 hq26 hs27 => ?_)
          have hqi := hq26
          refine r_c0 (pc' := 32) rfl rfl ?_
          exact r_rz rfl (by omega) (po_I hs27 ⟨by decide, by decide⟩ ⟨rfl, by omega, by omega, (by refine ⟨fun j hj => ?_, fun _ => tv_lt (e := x2.toNat) (fun j hj => ?_) ?_ 18 (by omega) (fun j hj => (rd_269 hs27.1 (i := j) hj).1) hd3⟩; (rw [hqi]; by_cases c : j = x2.toNat; (subst c; rw [mu_eq]; omega); (rw [mu_ne (by omega)]; exact as1 j hj)); (rw [hqi, mu_ne (by omega)]; exact as2 j (by omega)); (rw [hqi, mu_eq]; omega))⟩)
  refine w_m rfl rfl ?_
  refine r_ld (pc' := 1) rfl rfl rfl rfl ?_
  have hb28 := rd_225_26 hz
  refine r_cVI (pc' := 4) rfl rfl rfl rfl rfl sh_225 (m_161 (d := d)  hst.1 hst.2.1 ) (fun v29 z30 w31 p32 h33 hs34 hE35 => ?_)
  obtain ⟨rfl, rfl, rfl, hE35⟩ := hE35
  refine r_c0 (pc' := 5) rfl rfl ?_
  refine r_sub (pc' := 6) rfl rfl ?_
  refine r_st (pc' := 7) (lv' := [(2, _), (0, _), (1, _)]) rfl rfl rfl rfl ?_
  exact w_lv (sub_c rfl (sub_c rfl (sub_c rfl sub_n))) rfl ((key ((32 * ((v29 - 1) - (-1)) + 26 : Int).toNat + 1)) (v29 - 1) z0 w0 ⟨by omega, by omega⟩ hst (by first | exact hd3 | (intro j hj; rw [hqz]; by_cases c : j = x2.toNat; (subst c; rw [mu_eq]; omega); (rw [mu_ne (by omega)]; exact as1 j hj))) (by first | exact fun j _ => rfl | (intro j hj; rw [hqz, mu_ne (by omega)]; exact as2 j (by omega))) (by omega))
/-- LoopGroundModel hasLoop -/
abbrev S_232  : mS := [(244, 244, 0, 18), (243, 243, 0, 17), (245, 245, 0, 17999), (225, 225, 38, 38), (225, 225, 39, 39), (225, 225, 40, 40)]
abbrev E_232  (z0 w0 : mZ) (x y tx it mt tt ct : Option Nat) : Int → mZ → mZ → mP → Prop := fun v z w p => p = (pq x y tx it mt tt ct) ∧ 0 ≤ v ∧ v ≤ 1
theorem m_232 {d : Nat} {z0 w0 : mZ} {x y tx it mt tt ct : Option Nat}  (hz : rz z0) (hw : rw_ w0) (hrw : RW z0) (hft : FT (z0 225 26).toNat (vT (z0 235)) (tr (rE z0) (z0 269))) (hsm : sm (tr (rE z0) (z0 269)) 18 ≤ 18000) : wc (d + 5) 232 [.ref 225] (mk z0 w0 (pq x y tx it mt tt ct)) (poI S_232 z0 w0 (E_232  z0 w0 x y tx it mt tt ct)) := by
  have hst : st_ S_232 z0 w0 z0 w0 := st_rf hz hw
  have hz67 := rd_225_26 hz
  have hm26 := rd_225_26 hz
  have hrE : rE z0 = 3 * z0 225 26 / 2 := rfl
  have hnn : ∀ j : Nat, j < 18 → 0 ≤ (tr (rE z0) (z0 269)) j := fun j hj => by by_cases c : (j : Int) < rE z0; (rw [tr_l c]; exact (rd_269 hz (i := j) hj).1); (rw [tr_g (by omega)]; omega)
  have key : ∀ N : Nat, (∀ (x1 : Int) (z w : mZ), 0 ≤ x1 ∧ x1 ≤ 18 → st_ S_232 z0 w0 z w → z 225 38 = z0 225 38 → z 225 39 = z0 225 39 → z 225 40 = z0 225 40 → (∀ j : Nat, (j : Int) < x1 → z 243 j = z0 269 j) → (∀ j : Nat, (j : Int) ≤ x1 → z 244 j = sm (tr (rE z0) (z0 269)) j) → (x1 ≤ rE z0) → 89 * (18 - x1) + 33647599 < (N : Int) → wp_ (d + 4) 232 3 (some .boolean) (9, [(0, .ref 225), (1, .int (Int32.ofInt x1))], [], mk z w (pq x y tx it mt tt ct)) (poI S_232 z0 w0 (E_232  z0 w0 x y tx it mt tt ct))) ∧ (∀ (x1 : Int) (z w : mZ), 0 ≤ x1 ∧ x1 ≤ 18000 → st_ S_232 z0 w0 z w → z 225 38 = z0 225 38 → z 225 39 = z0 225 39 → z 225 40 = z0 225 40 → ((∀ e : Nat, (e : Int) < rE z0 → z 243 e = (z0 269) e) ∧ ∀ e : Nat, (e : Int) ≤ rE z0 → z 244 e = sm (tr (rE z0) (z0 269)) e) → 89 * (18000 - x1) + 32045390 < (N : Int) → wp_ (d + 4) 232 3 (some .boolean) (58, [(0, .ref 225), (1, .int (Int32.ofInt x1))], [], mk z w (pq x y tx it mt tt ct)) (poI S_232 z0 w0 (E_232  z0 w0 x y tx it mt tt ct))) ∧ (∀ (x1 : Int) (z w : mZ), 0 ≤ x1 ∧ x1 ≤ 18 → st_ S_232 z0 w0 z w → ((∀ e : Nat, (e : Int) < rE z0 → z 243 e = (z0 269) e) ∧ ∀ e : Nat, (e : Int) ≤ rE z0 → z 244 e = sm (tr (rE z0) (z0 269)) e) → 1602267 * (18 - x1) + 1602212 < (N : Int) → wp_ (d + 4) 232 3 (some .boolean) (86, [(0, .ref 225), (1, .int (Int32.ofInt x1))], [], mk z w (pq x y tx it mt tt ct)) (poI S_232 z0 w0 (E_232  z0 w0 x y tx it mt tt ct))) ∧ (∀ (x1 x2 : Int) (z w : mZ), 0 ≤ x1 ∧ x1 ≤ 17 → 0 ≤ x2 ∧ x2 ≤ 18000 → st_ S_232 z0 w0 z w → ((∀ e : Nat, (e : Int) < rE z0 → z 243 e = (z0 269) e) ∧ ∀ e : Nat, (e : Int) ≤ rE z0 → z 244 e = sm (tr (rE z0) (z0 269)) e) → (x1 < rE z0) → 1602267 * (18 - x1) + 89 * (18000 - x2) + 28 < (N : Int) → wp_ (d + 4) 232 3 (some .boolean) (96, [(0, .ref 225), (1, .int (Int32.ofInt x1)), (2, .int (Int32.ofInt x2))], [], mk z w (pq x y tx it mt tt ct)) (poI S_232 z0 w0 (E_232  z0 w0 x y tx it mt tt ct))) := by
    intro N
    induction N with
    | zero =>
      refine ⟨?_, ?_, ?_, ?_⟩
      · intro x1 z w
        intros; exfalso; omega
      · intro x1 z w
        intros; exfalso; omega
      · intro x1 z w
        intros; exfalso; omega
      · intro x1 x2 z w
        intros; exfalso; omega
    | succ N ih =>
      obtain ⟨ih0, ih1, ih2, ih3⟩ := ih
      refine ⟨?_, ?_, ?_, ?_⟩
      · intro x1 z w  hx1 hst un_z_225_38 un_z_225_39 un_z_225_40 as1 as2 as3 hM
        refine r_ld (pc' := 10) rfl rfl rfl rfl ?_
        refine r_ld (pc' := 11) rfl rfl rfl rfl ?_
        have hb68 := rd_225_26 hz
        have hf69 : z 225 26 = z0 225 26 := (hst.2.2.1 _ _ (notS_c (by omega) (notS_c (by omega) (notS_c (by omega) (notS_c (by omega) (notS_c (by omega) (notS_c (by omega) notS_n)))))))
        refine r_cVI (pc' := 14) rfl rfl rfl rfl rfl sh_225 (m_161 (d := d + 3)  hst.1 hst.2.1 ) (fun v70 z71 w72 p73 h74 hs75 hE76 => ?_)
        obtain ⟨rfl, rfl, rfl, hE76⟩ := hE76
        refine r_ige (pc' := 17) rfl rfl ⟨by omega, by omega⟩ ⟨by omega, by omega⟩ (fun hc78 => ?_) (fun hc78 => ?_)
        · skip
          refine r_c0 (pc' := 57) rfl rfl ?_
          refine r_st (pc' := 58) (lv' := [(1, _), (0, _)]) rfl rfl rfl rfl ?_
          have hb79 := rd_225_38 hz
          have hb80 := rd_225_39 hz
          have hb81 := rd_225_40 hz
          exact w_lv (sub_c rfl (sub_c rfl sub_n)) rfl (ih1 0 z w ⟨by omega, by omega⟩ hst (un_z_225_38) (un_z_225_39) (un_z_225_40) (by first | exact as0 | exact ⟨fun e he => as1 e (by omega), fun e he => as2 e (by omega)⟩ | (simp only []; exact as0)) (by omega))
        · skip
          have hgt := tr_l (E := rE z0) (f := z0 269) (e := x1.toNat) (by omega)
          have hle := sm_le (f := (tr (rE z0) (z0 269))) (k := x1.toNat + 1) 18 (by omega) hnn
          rw [sm_s] at hle
          have hn2 := sm_nn (f := (tr (rE z0) (z0 269))) x1.toNat (fun j hj => hnn j (by omega))
          have hn3 := hnn x1.toNat (by omega)
          have hb2 := as2 x1.toNat (by omega)
          refine r_ld (pc' := 18) rfl rfl rfl rfl ?_
          refine r_gr (b := 243) (pc' := 21) rfl rfl sh_225 rfl pp_225_33 ?_
          refine r_ld (pc' := 22) rfl rfl rfl rfl ?_
          refine r_ld (pc' := 23) rfl rfl rfl rfl ?_
          refine r_gr (b := 269) (pc' := 26) rfl rfl sh_225 rfl pp_225_69 ?_
          refine r_ld (pc' := 27) rfl rfl rfl rfl ?_
          have hb82 := rd_269 hz (i := x1.toNat) (by omega)
          refine r_ia (pc' := 28) rfl rfl sh_269 rfl (by omega) (by omega) (hst.2.2.1 _ _ (notS_c (by omega) (notS_c (by omega) (notS_c (by omega) (notS_c (by omega) (notS_c (by omega) (notS_c (by omega) notS_n))))))) ?_
          refine r_is (pc' := 29) rfl rfl sh_243 rfl (by omega) (by omega) hst (inS_s (inS_0 (by omega) (by omega) (by omega) (by omega))) (wr_243 ⟨by omega, by omega⟩) (fun z83 hq84 hs85 => ?_)
          have hq47 := hq84
          refine r_ld (pc' := 30) rfl rfl rfl rfl ?_
          refine r_gr (b := 244) (pc' := 33) rfl rfl sh_225 rfl pp_225_34 ?_
          refine r_ld (pc' := 34) rfl rfl rfl rfl ?_
          refine r_c0 (pc' := 35) rfl rfl ?_
          refine r_add (pc' := 36) rfl rfl ?_
          refine r_ld (pc' := 37) rfl rfl rfl rfl ?_
          refine r_gr (b := 244) (pc' := 40) rfl rfl sh_225 rfl pp_225_34 ?_
          refine r_ld (pc' := 41) rfl rfl rfl rfl ?_
          have hb86 := rd_244 hst.1 (i := x1.toNat) (by omega)
          refine r_ia (pc' := 42) rfl rfl sh_244 rfl (by omega) (by omega) ((congrFun (congrFun hq84 _) _).trans (mu_ne (by omega))) ?_
          refine r_ld (pc' := 43) rfl rfl rfl rfl ?_
          refine r_gr (b := 243) (pc' := 46) rfl rfl sh_225 rfl pp_225_33 ?_
          refine r_ld (pc' := 47) rfl rfl rfl rfl ?_
          refine r_ia (pc' := 48) rfl rfl sh_243 rfl (by omega) (by omega) ((congrFun (congrFun hq84 _) _).trans mu_eq) ?_
          refine r_add (pc' := 49) rfl rfl ?_
          refine r_is (pc' := 50) rfl rfl sh_244 rfl (by omega) (by omega) hs85 (inS_0 (by omega) (by omega) (by omega) (by omega)) (wr_244 ⟨by omega, by omega⟩) (fun z87 hq88 hs89 => ?_)
          have hq68 := hq88
          refine r_inc (pc' := 53) (lv' := [(0, _)]) rfl rfl rfl rfl rfl ?_
          refine r_go rfl ?_
          have hb90 := rd_225_38 hz
          have hb91 := rd_225_39 hz
          have hb92 := rd_225_40 hz
          exact w_lv (sub_c rfl (sub_c rfl sub_n)) rfl (ih0 (x1 + 1) z87 w ⟨by omega, by omega⟩ hs89 ((((congrFun (congrFun hq88 _) _).trans (mu_ne (by omega))).trans (((congrFun (congrFun hq84 _) _).trans (mu_ne (by omega))).trans un_z_225_38))) ((((congrFun (congrFun hq88 _) _).trans (mu_ne (by omega))).trans (((congrFun (congrFun hq84 _) _).trans (mu_ne (by omega))).trans un_z_225_39))) ((((congrFun (congrFun hq88 _) _).trans (mu_ne (by omega))).trans (((congrFun (congrFun hq84 _) _).trans (mu_ne (by omega))).trans un_z_225_40))) (by first | (intro j hj; exfalso; omega) | (intro j hj; rw [hq68, mu_ne (by omega), hq47]; by_cases c : j = x1.toNat; (subst c; rw [mu_eq]); (rw [mu_ne (by omega)]; exact as1 j (by omega)))) (by first | (intro j hj; rw [show j = 0 by omega, hq6]; exact mu_eq) | (intro j hj; rw [hq68]; by_cases c : j = (x1 + 1).toNat; (subst c; rw [mu_eq, show (x1 + 1).toNat = x1.toNat + 1 by omega, sm_s]; omega); (rw [mu_ne (by omega), hq47, mu_ne (by omega)]; exact as2 j (by omega)))) (by first | omega | assumption) (by omega))
      · intro x1 z w  hx1 hst un_z_225_38 un_z_225_39 un_z_225_40 as0 hM
        refine r_ld (pc' := 59) rfl rfl rfl rfl ?_
        refine r_ld (pc' := 60) rfl rfl rfl rfl ?_
        refine r_gr (b := 244) (pc' := 63) rfl rfl sh_225 rfl pp_225_34 ?_
        refine r_ld (pc' := 64) rfl rfl rfl rfl ?_
        have hb93 := rd_225_26 hz
        have hf94 : z 225 26 = z0 225 26 := (hst.2.2.1 _ _ (notS_c (by omega) (notS_c (by omega) (notS_c (by omega) (notS_c (by omega) (notS_c (by omega) (notS_c (by omega) notS_n)))))))
        refine r_cVI (pc' := 67) rfl rfl rfl rfl rfl sh_225 (m_161 (d := d + 3)  hst.1 hst.2.1 ) (fun v95 z96 w97 p98 h99 hs100 hE101 => ?_)
        obtain ⟨rfl, rfl, rfl, hE101⟩ := hE101
        have hb103 := rd_244 hst.1 (i := v95.toNat) (by omega)
        refine r_ia (pc' := 68) rfl rfl sh_244 rfl (by omega) (by omega) rfl ?_
        refine r_ige (pc' := 71) rfl rfl ⟨by omega, by omega⟩ ⟨by omega, by omega⟩ (fun hc104 => ?_) (fun hc104 => ?_)
        · skip
          refine r_c0 (pc' := 85) rfl rfl ?_
          refine r_st (pc' := 86) (lv' := [(1, _), (0, _)]) rfl rfl rfl rfl ?_
          exact w_lv (sub_c rfl (sub_c rfl sub_n)) rfl (ih2 0 z w ⟨by omega, by omega⟩ hst (by first | exact as0 | (simp only []; exact as0)) (by omega))
        · skip
          refine r_ld (pc' := 72) rfl rfl rfl rfl ?_
          refine r_gr (b := 245) (pc' := 75) rfl rfl sh_225 rfl pp_225_35 ?_
          refine r_ld (pc' := 76) rfl rfl rfl rfl ?_
          refine r_c0 (pc' := 77) rfl rfl ?_
          refine r_zs (pc' := 78) rfl rfl sh_245 rfl (by omega) (by omega) (by omega) hst (inS_s (inS_s (inS_0 (by omega) (by omega) (by omega) (by omega)))) (wr_245 ⟨by omega, by omega⟩) (fun z105 hq106 hs107 => ?_)
          refine r_inc (pc' := 81) (lv' := [(0, _)]) rfl rfl rfl rfl rfl ?_
          refine r_go rfl ?_
          have hF108 : z105 243 = z 243 := ((congrFun hq106 _).trans (mu_fn (by omega)))
          have hF109 : z105 244 = z 244 := ((congrFun hq106 _).trans (mu_fn (by omega)))
          have hb110 := rd_225_38 hz
          have hb111 := rd_225_39 hz
          have hb112 := rd_225_40 hz
          exact w_lv (sub_c rfl (sub_c rfl sub_n)) rfl (ih1 (x1 + 1) z105 w ⟨by omega, by omega⟩ hs107 ((((congrFun (congrFun hq106 _) _).trans (mu_ne (by omega))).trans un_z_225_38)) ((((congrFun (congrFun hq106 _) _).trans (mu_ne (by omega))).trans un_z_225_39)) ((((congrFun (congrFun hq106 _) _).trans (mu_ne (by omega))).trans un_z_225_40)) (by first | exact as0 | exact ⟨fun e he => as1 e (by omega), fun e he => as2 e (by omega)⟩ | (simp only [hF108, hF109]; exact as0)) (by omega))
      · intro x1 z w  hx1 hst as0 hM
        refine r_ld (pc' := 87) rfl rfl rfl rfl ?_
        refine r_ld (pc' := 88) rfl rfl rfl rfl ?_
        have hb113 := rd_225_26 hz
        have hf114 : z 225 26 = z0 225 26 := (hst.2.2.1 _ _ (notS_c (by omega) (notS_c (by omega) (notS_c (by omega) (notS_c (by omega) (notS_c (by omega) (notS_c (by omega) notS_n)))))))
        refine r_cVI (pc' := 91) rfl rfl rfl rfl rfl sh_225 (m_161 (d := d + 3)  hst.1 hst.2.1 ) (fun v115 z116 w117 p118 h119 hs120 hE121 => ?_)
        obtain ⟨rfl, rfl, rfl, hE121⟩ := hE121
        refine r_ige (pc' := 94) rfl rfl ⟨by omega, by omega⟩ ⟨by omega, by omega⟩ (fun hc123 => ?_) (fun hc123 => ?_)
        · skip
          refine r_c0 (pc' := 146) rfl rfl ?_
          exact r_rz rfl (by omega) (po_I hst ⟨by decide, by decide⟩ ⟨rfl, by omega, by omega⟩)
        · skip
          refine r_c0 (pc' := 95) rfl rfl ?_
          refine r_st (pc' := 96) (lv' := [(2, _), (0, _), (1, _)]) rfl rfl rfl rfl ?_
          exact w_lv (sub_c rfl (sub_c rfl (sub_c rfl sub_n))) rfl (ih3 x1 0 z w ⟨by omega, by omega⟩ ⟨by omega, by omega⟩ hst (by first | exact as0 | (simp only []; exact as0)) (by first | omega | assumption) (by omega))
      · intro x1 x2 z w  hx1 hx2 hst as0 as3 hM
        refine r_ld (pc' := 97) rfl rfl rfl rfl ?_
        refine r_ld (pc' := 98) rfl rfl rfl rfl ?_
        refine r_gr (b := 243) (pc' := 101) rfl rfl sh_225 rfl pp_225_33 ?_
        refine r_ld (pc' := 102) rfl rfl rfl rfl ?_
        have hb124 := rd_243 hst.1 (i := x1.toNat) (by omega)
        refine r_ia (pc' := 103) rfl rfl sh_243 rfl (by omega) (by omega) rfl ?_
        refine r_ige (pc' := 106) rfl rfl ⟨by omega, by omega⟩ ⟨by omega, by omega⟩ (fun hc125 => ?_) (fun hc125 => ?_)
        · skip
          refine r_inc (pc' := 142) (lv' := [(0, _), (2, _)]) rfl rfl rfl rfl rfl ?_
          refine r_go rfl ?_
          exact w_lv (sub_c rfl (sub_c rfl sub_n)) rfl (ih2 (x1 + 1) z w ⟨by omega, by omega⟩ hst (by first | exact as0 | (simp only []; exact as0)) (by omega))
        · skip
          have hx : (tr (rE z0) (z0 269)) x1.toNat = z 243 x1.toNat := by rw [tr_l (by omega), as0.1 x1.toNat (by omega)]
          have hx4 : z 244 x1.toNat = sm (tr (rE z0) (z0 269)) x1.toNat := as0.2 x1.toNat (by omega)
          have hsb := sm_b hft.1 (e := x1.toNat) (i := x2) (by omega) (by omega) (by rw [hx]; omega)
          refine r_ld (pc' := 107) rfl rfl rfl rfl ?_
          refine r_gr (b := 245) (pc' := 110) rfl rfl sh_225 rfl pp_225_35 ?_
          refine r_ld (pc' := 111) rfl rfl rfl rfl ?_
          refine r_gr (b := 244) (pc' := 114) rfl rfl sh_225 rfl pp_225_34 ?_
          refine r_ld (pc' := 115) rfl rfl rfl rfl ?_
          have hb126 := rd_244 hst.1 (i := x1.toNat) (by omega)
          refine r_ia (pc' := 116) rfl rfl sh_244 rfl (by omega) (by omega) rfl ?_
          refine r_ld (pc' := 117) rfl rfl rfl rfl ?_
          refine r_add (pc' := 118) rfl rfl ?_
          have hb127 := rd_245 hst.1 (i := ((z 244 x1.toNat) + x2).toNat) (by omega)
          refine r_ba (pc' := 119) rfl rfl sh_245 (Or.inr rfl) rfl (by omega) (by omega) rfl ?_
          refine r_zne (pc' := 122) rfl rfl ⟨by omega, by omega⟩ (fun hc128 => ?_) (fun hc128 => ?_)
          · skip
            refine r_inc (pc' := 136) (lv' := [(0, _), (1, _)]) rfl rfl rfl rfl rfl ?_
            refine r_go rfl ?_
            exact w_lv (sub_c rfl (sub_c rfl (sub_c rfl sub_n))) rfl (ih3 x1 (x2 + 1) z w ⟨by omega, by omega⟩ ⟨by omega, by omega⟩ hst (by first | exact as0 | (simp only []; exact as0)) (by first | omega | assumption) (by omega))
          · skip
            refine r_ld (pc' := 123) rfl rfl rfl rfl ?_
            refine r_ld (pc' := 124) rfl rfl rfl rfl ?_
            refine r_ld (pc' := 125) rfl rfl rfl rfl ?_
            have q235 : z 235 = z0 235 := funext fun i => hst.2.2.1 _ _ (notS_c (by omega) (notS_c (by omega) (notS_c (by omega) (notS_c (by omega) (notS_c (by omega) (notS_c (by omega) (notS_n)))))))
            have q240 : z 240 = z0 240 := funext fun i => hst.2.2.1 _ _ (notS_c (by omega) (notS_c (by omega) (notS_c (by omega) (notS_c (by omega) (notS_c (by omega) (notS_c (by omega) (notS_n)))))))
            have q241 : z 241 = z0 241 := funext fun i => hst.2.2.1 _ _ (notS_c (by omega) (notS_c (by omega) (notS_c (by omega) (notS_c (by omega) (notS_c (by omega) (notS_c (by omega) (notS_n)))))))
            have q26 : z 225 26 = z0 225 26 := hst.2.2.1 _ _ (notS_c (by omega) (notS_c (by omega) (notS_c (by omega) (notS_c (by omega) (notS_c (by omega) (notS_c (by omega) (notS_n)))))))
            have c243 : z 243 = z 243 := funext fun i => rfl
            have c244 : z 244 = z 244 := funext fun i => rfl
            have hr := RL_of q26 q235 hft hsm (fun e he => by rw [c243]; exact as0.1 e he) (fun e he => by rw [c244]; exact as0.2 e he)
            have hb129 := rd_225_26 hz
            have hf130 : z 225 26 = z0 225 26 := (hst.2.2.1 _ _ (notS_c (by omega) (notS_c (by omega) (notS_c (by omega) (notS_c (by omega) (notS_c (by omega) (notS_c (by omega) notS_n)))))))
            have hF131 : z 235 = z0 235 := (funext fun _ => hst.2.2.1 _ _ (notS_c (by omega) (notS_c (by omega) (notS_c (by omega) (notS_c (by omega) (notS_c (by omega) (notS_c (by omega) notS_n)))))))
            have hF132 : z 241 = z0 241 := (funext fun _ => hst.2.2.1 _ _ (notS_c (by omega) (notS_c (by omega) (notS_c (by omega) (notS_c (by omega) (notS_c (by omega) (notS_c (by omega) notS_n)))))))
            refine r_cVI (pc' := 128) rfl rfl rfl rfl rfl sh_225 (m_188 (d := d) x1 x2 hst.1 hst.2.1 ⟨by omega, by omega⟩ ⟨by omega, by omega⟩ (by exact RW_f hst (notS_c (by omega) (notS_c (by omega) (notS_c (by omega) (notS_c (by omega) (notS_c (by omega) (notS_c (by omega) (notS_n))))))) (fun i => (notS_c (by omega) (notS_c (by omega) (notS_c (by omega) (notS_c (by omega) (notS_c (by omega) (notS_c (by omega) (notS_n)))))))) (fun i => (notS_c (by omega) (notS_c (by omega) (notS_c (by omega) (notS_c (by omega) (notS_c (by omega) (notS_c (by omega) (notS_n)))))))) (fun i => (notS_c (by omega) (notS_c (by omega) (notS_c (by omega) (notS_c (by omega) (notS_c (by omega) (notS_c (by omega) (notS_n)))))))) hrw) (by exact hr.1) (by show x1 < 3 * z 225 26 / 2; rw [q26]; exact as3) (by rw [c243]; omega)) (fun v133 z134 w135 p136 h137 hs138 hE139 => ?_)
            have hs140 := st_tr hst hs138 (sub_B rfl)
            obtain ⟨rfl, hE139⟩ := hE139
            refine r_zne (pc' := 131) rfl rfl ⟨by omega, by omega⟩ (fun hc141 => ?_) (fun hc141 => ?_)
            · skip
              refine r_inc (pc' := 136) (lv' := [(0, _), (1, _)]) rfl rfl rfl rfl rfl ?_
              refine r_go rfl ?_
              have hF142 : z134 243 = z 243 := (funext fun _ => hs138.2.2.1 _ _ (notS_c (by omega) (notS_c (by omega) (notS_c (by omega) (notS_c (by omega) notS_n)))))
              have hF143 : z134 244 = z 244 := (funext fun _ => hs138.2.2.1 _ _ (notS_c (by omega) (notS_c (by omega) (notS_c (by omega) (notS_c (by omega) notS_n)))))
              exact w_lv (sub_c rfl (sub_c rfl (sub_c rfl sub_n))) rfl (ih3 x1 (x2 + 1) z134 w135 ⟨by omega, by omega⟩ ⟨by omega, by omega⟩ hs140 (by first | exact as0 | (simp only [hF142, hF143]; exact as0)) (by first | omega | assumption | (simp only [hF142, hF143]; assumption)) (by omega))
            · skip
              refine r_c0 (pc' := 132) rfl rfl ?_
              exact r_rz rfl (by omega) (po_I hs140 ⟨by decide, by decide⟩ ⟨rfl, by omega, by omega⟩)
  refine w_m rfl rfl ?_
  refine r_ld (pc' := 1) rfl rfl rfl rfl ?_
  refine r_gr (b := 244) (pc' := 4) rfl rfl sh_225 rfl pp_225_34 ?_
  refine r_c0 (pc' := 5) rfl rfl ?_
  refine r_c0 (pc' := 6) rfl rfl ?_
  refine r_is (pc' := 7) rfl rfl sh_244 rfl (by omega) (by omega) hst (inS_0 (by omega) (by omega) (by omega) (by omega)) (wr_244 ⟨by omega, by omega⟩) (fun z144 hq145 hs146 => ?_)
  have hq6 := hq145
  refine r_c0 (pc' := 8) rfl rfl ?_
  refine r_st (pc' := 9) (lv' := [(1, _), (0, _)]) rfl rfl rfl rfl ?_
  have hb147 := rd_225_38 hz
  have hb148 := rd_225_39 hz
  have hb149 := rd_225_40 hz
  exact w_lv (sub_c rfl (sub_c rfl sub_n)) rfl ((key ((89 * (18 - 0) + 33647599 : Int).toNat + 1)).1 0 z144 w0 ⟨by omega, by omega⟩ hs146 (((congrFun (congrFun hq145 _) _).trans (mu_ne (by omega)))) (((congrFun (congrFun hq145 _) _).trans (mu_ne (by omega)))) (((congrFun (congrFun hq145 _) _).trans (mu_ne (by omega)))) (by first | (intro j hj; exfalso; omega) | (intro j hj; rw [hq68, mu_ne (by omega), hq47]; by_cases c : j = x1.toNat; (subst c; rw [mu_eq]); (rw [mu_ne (by omega)]; exact as1 j (by omega)))) (by first | (intro j hj; rw [show j = 0 by omega, hq6]; exact mu_eq) | (intro j hj; rw [hq68]; by_cases c : j = (x1 + 1).toNat; (subst c; rw [mu_eq, show (x1 + 1).toNat = x1.toNat + 1 by omega, sm_s]; omega); (rw [mu_ne (by omega), hq47, mu_ne (by omega)]; exact as2 j (by omega)))) (by first | omega | assumption) (by omega))
/-- LoopGroundModel least -/
abbrev S_235v  : mS := [(225, 225, 70, 70), (269, 269, 0, 17), (244, 244, 0, 18), (243, 243, 0, 17), (245, 245, 0, 17999), (225, 225, 38, 38), (225, 225, 39, 39), (225, 225, 40, 40), (257, 257, 0, 17), (225, 225, 58, 58), (225, 225, 59, 59), (259, 259, 0, 17), (258, 258, 0, 323), (260, 260, 0, 17), (268, 268, 0, 17)]
abbrev E_235v (a1 : Int) (a2 : Int) (z0 w0 : mZ) (x y tx it mt tt ct : Option Nat) : Int → mZ → mZ → mP → Prop := fun v z w p => p = (pq x y tx it mt tt ct) ∧ (-2147483648) ≤ v ∧ v ≤ 2147483647 ∧ (RV z w)
theorem m_235v {d : Nat} {z0 w0 : mZ} {x y tx it mt tt ct : Option Nat} (a1 : Int) (a2 : Int) (hz : rz z0) (hw : rw_ w0) (ha1 : (-2147483648) ≤ a1 ∧ a1 ≤ 2147483647) (ha2 : (-2147483648) ≤ a2 ∧ a2 ≤ 2147483647) (hrv : RV z0 w0) : wc (d + 8) 235 [.ref 225, .int (Int32.ofInt a1), .int (Int32.ofInt a2)] (mk z0 w0 (pq x y tx it mt tt ct)) (poI S_235v z0 w0 (E_235v a1 a2 z0 w0 x y tx it mt tt ct)) := by
  have hst : st_ S_235v z0 w0 z0 w0 := st_rf hz hw
  have h28 := rd_225_28 hz
  have h18 := rE18 hz
  have key : ∀ N : Nat, (∀ (x3 x5 : Int) (z w : mZ), (-9223372036854775808) ≤ x3 ∧ x3 ≤ 9223372036854775807 → 0 ≤ x5 ∧ x5 ≤ 18 → 0 ≤ a1 ∧ a1 ≤ 5 → 1 ≤ a2 ∧ a2 ≤ 3 → 1 ≤ z0 225 28 ∧ z0 225 28 ≤ 6 → st_ S_235v z0 w0 z w → z 225 38 = z0 225 38 → z 225 39 = z0 225 39 → z 225 40 = z0 225 40 → z 225 58 = z0 225 58 → z 225 59 = z0 225 59 → 76 * (18 - x5) + 200000001578 < (N : Int) → wp_ (d + 7) 235 6 (some .int) (30, [(0, .ref 225), (1, .int (Int32.ofInt a1)), (2, .int (Int32.ofInt a2)), (3, .long (Int64.ofInt x3)), (5, .int (Int32.ofInt x5))], [], mk z w (pq x y tx it mt tt ct)) (poI S_235v z0 w0 (E_235v a1 a2 z0 w0 x y tx it mt tt ct))) ∧ (∀ (x5 : Int) (z w : mZ), 0 ≤ x5 ∧ x5 ≤ 18 → 0 ≤ a1 ∧ a1 ≤ 5 → 1 ≤ a2 ∧ a2 ≤ 3 → 1 ≤ z0 225 28 ∧ z0 225 28 ≤ 6 → st_ S_235v z0 w0 z w → z 225 38 = z0 225 38 → z 225 39 = z0 225 39 → z 225 40 = z0 225 40 → z 225 58 = z0 225 58 → z 225 59 = z0 225 59 → (∀ j : Nat, (j : Int) < x5 → z 269 j = 0) → 76 * (18 - x5) + 200000000037 < (N : Int) → wp_ (d + 7) 235 6 (some .int) (66, [(0, .ref 225), (1, .int (Int32.ofInt a1)), (2, .int (Int32.ofInt a2)), (5, .int (Int32.ofInt x5))], [], mk z w (pq x y tx it mt tt ct)) (poI S_235v z0 w0 (E_235v a1 a2 z0 w0 x y tx it mt tt ct))) ∧ (∀ (x5 : Int) (z w : mZ), 0 ≤ x5 ∧ x5 ≤ 1 → 0 ≤ a1 ∧ a1 ≤ 5 → 1 ≤ a2 ∧ a2 ≤ 3 → 1 ≤ z0 225 28 ∧ z0 225 28 ≤ 6 → st_ S_235v z0 w0 z w → (∀ j : Nat, j < 18 → z 269 j ≤ 3) → lm x5 (z 269) < (N : Int) → wp_ (d + 7) 235 6 (some .int) (90, [(0, .ref 225), (1, .int (Int32.ofInt a1)), (2, .int (Int32.ofInt a2)), (5, .int (Int32.ofInt x5))], [], mk z w (pq x y tx it mt tt ct)) (poI S_235v z0 w0 (E_235v a1 a2 z0 w0 x y tx it mt tt ct))) ∧ (∀ (z w : mZ), 0 ≤ a1 ∧ a1 ≤ 5 → 1 ≤ a2 ∧ a2 ≤ 3 → 1 ≤ z0 225 28 ∧ z0 225 28 ≤ 6 → st_ S_235v z0 w0 z w → (∀ j : Nat, j < 18 → z 269 j ≤ 3) → 2 * lb (z 269) < (N : Int) → wp_ (d + 7) 235 6 (some .int) (126, [(0, .ref 225), (1, .int (Int32.ofInt a1)), (2, .int (Int32.ofInt a2))], [], mk z w (pq x y tx it mt tt ct)) (poI S_235v z0 w0 (E_235v a1 a2 z0 w0 x y tx it mt tt ct))) := by
    intro N
    induction N with
    | zero =>
      refine ⟨?_, ?_, ?_, ?_⟩
      · intro x3 x5 z w
        intros; exfalso; omega
      · intro x5 z w
        intros; exfalso; omega
      · intro x5 z w
        have hzb := lm_n x5 (z 269)
        intros; exfalso; omega
      · intro  z w
        have hzb := lb_n (z 269)
        intros; exfalso; omega
    | succ N ih =>
      obtain ⟨ih0, ih1, ih2, ih3⟩ := ih
      refine ⟨?_, ?_, ?_, ?_⟩
      · intro x3 x5 z w  hx3 hx5 hpa1 hpa2 hz0_0 hst un_z_225_38 un_z_225_39 un_z_225_40 un_z_225_58 un_z_225_59 hM
        refine r_ld (pc' := 32) rfl rfl rfl rfl ?_
        refine r_ld (pc' := 33) rfl rfl rfl rfl ?_
        have hb90 := rd_225_26 hz
        have hf91 : z 225 26 = z0 225 26 := (hst.2.2.1 _ _ (notS_c (by omega) (notS_c (by omega) (notS_c (by omega) (notS_c (by omega) (notS_c (by omega) (notS_c (by omega) (notS_c (by omega) (notS_c (by omega) (notS_c (by omega) (notS_c (by omega) (notS_c (by omega) (notS_c (by omega) (notS_c (by omega) (notS_c (by omega) (notS_c (by omega) notS_n))))))))))))))))
        refine r_cVI (pc' := 36) rfl rfl rfl rfl rfl sh_225 (m_161 (d := d + 6)  hst.1 hst.2.1 ) (fun v92 z93 w94 p95 h96 hs97 hE98 => ?_)
        obtain ⟨rfl, rfl, rfl, hE98⟩ := hE98
        refine r_ige (pc' := 39) rfl rfl ⟨by omega, by omega⟩ ⟨by omega, by omega⟩ (fun hc100 => ?_) (fun hc100 => ?_)
        · skip
          refine r_ld (pc' := 53) rfl rfl rfl rfl ?_
          refine r_al (pc' := 56) rfl rfl rfl rfl ?_
          refine r_lle (pc' := 60) rfl rfl rfl ⟨by omega, by omega⟩ ⟨by decide, by decide⟩ (fun hc101 => ?_) (fun hc101 => ?_)
          · skip
            refine r_c0 (pc' := 64) rfl rfl ?_
            refine r_st (pc' := 66) (lv' := [(5, _), (0, _), (1, _), (2, _), (3, _)]) rfl rfl rfl rfl ?_
            have hb102 := rd_225_38 hz
            have hb103 := rd_225_39 hz
            have hb104 := rd_225_40 hz
            have hb105 := rd_225_58 hz
            have hb106 := rd_225_59 hz
            exact w_lv (sub_c rfl (sub_c rfl (sub_c rfl (sub_c rfl sub_n)))) rfl (ih1 0 z w ⟨by omega, by omega⟩ ⟨by omega, by omega⟩ ⟨by omega, by omega⟩ ⟨by omega, by omega⟩ hst (un_z_225_38) (un_z_225_39) (un_z_225_40) (un_z_225_58) (un_z_225_59) (by first | (intro j hj; exfalso; omega) | (intro j hj; rw [hqt]; by_cases c : j = x5.toNat; (subst c; exact mu_eq); (rw [mu_ne (by omega)]; exact as1 j (by omega)))) (by omega))
          · skip
            refine r_cb (pc' := 62) rfl (by decide) rfl ?_
            exact r_ri rfl (po_I hst ⟨by decide, by decide⟩ ⟨rfl, by omega, by omega, (by exact RV_c hz (fun i h1 h2 => hst.2.2.1 _ _ (notS_c (by omega) (notS_c (by omega) (notS_c (by omega) (notS_c (by omega) (notS_c (by omega) (notS_c (by omega) (notS_c (by omega) (notS_c (by omega) (notS_c (by omega) (notS_c (by omega) (notS_c (by omega) (notS_c (by omega) (notS_c (by omega) (notS_c (by omega) (notS_c (by omega) (notS_n))))))))))))))))) (fun a h1 h2 h3 => funext fun i => hst.2.2.1 _ _ (notS_c (by omega) (notS_c (by omega) (notS_c (by omega) (notS_c (by omega) (notS_c (by omega) (notS_c (by omega) (notS_c (by omega) (notS_c (by omega) (notS_c (by omega) (notS_c (by omega) (notS_c (by omega) (notS_c (by omega) (notS_c (by omega) (notS_c (by omega) (notS_c (by omega) (notS_n))))))))))))))))) (fun a h1 h2 => funext fun i => hst.2.2.1 _ _ (notS_c (by omega) (notS_c (by omega) (notS_c (by omega) (notS_c (by omega) (notS_c (by omega) (notS_c (by omega) (notS_c (by omega) (notS_c (by omega) (notS_c (by omega) (notS_c (by omega) (notS_c (by omega) (notS_c (by omega) (notS_c (by omega) (notS_c (by omega) (notS_c (by omega) (notS_n))))))))))))))))) (hst.2.2.1 _ _ (notS_c (by omega) (notS_c (by omega) (notS_c (by omega) (notS_c (by omega) (notS_c (by omega) (notS_c (by omega) (notS_c (by omega) (notS_c (by omega) (notS_c (by omega) (notS_c (by omega) (notS_c (by omega) (notS_c (by omega) (notS_c (by omega) (notS_c (by omega) (notS_c (by omega) (notS_n))))))))))))))))) (hst.2.2.1 _ _ (notS_c (by omega) (notS_c (by omega) (notS_c (by omega) (notS_c (by omega) (notS_c (by omega) (notS_c (by omega) (notS_c (by omega) (notS_c (by omega) (notS_c (by omega) (notS_c (by omega) (notS_c (by omega) (notS_c (by omega) (notS_c (by omega) (notS_c (by omega) (notS_c (by omega) (notS_n))))))))))))))))) (funext fun i => hst.2.2.1 _ _ (notS_c (by omega) (notS_c (by omega) (notS_c (by omega) (notS_c (by omega) (notS_c (by omega) (notS_c (by omega) (notS_c (by omega) (notS_c (by omega) (notS_c (by omega) (notS_c (by omega) (notS_c (by omega) (notS_c (by omega) (notS_c (by omega) (notS_c (by omega) (notS_c (by omega) (notS_n))))))))))))))))) (fun a h => funext fun i => hst.2.2.2 _ _ (notS_c (by omega) (notS_c (by omega) (notS_c (by omega) (notS_c (by omega) (notS_c (by omega) (notS_c (by omega) (notS_c (by omega) (notS_c (by omega) (notS_c (by omega) (notS_c (by omega) (notS_c (by omega) (notS_c (by omega) (notS_c (by omega) (notS_c (by omega) (notS_c (by omega) (notS_n))))))))))))))))) hrv)⟩)
        · skip
          refine r_ld (pc' := 40) rfl rfl rfl rfl ?_
          refine r_ld (pc' := 41) rfl rfl rfl rfl ?_
          refine r_c0 (pc' := 42) rfl rfl ?_
          refine r_add (pc' := 43) rfl rfl ?_
          refine r_i2l (pc' := 44) rfl rfl ⟨by omega, by omega⟩ ?_
          refine r_lmul (pc' := 45) rfl rfl ?_
          refine w_hl (fun v107 h108 => ?_)
          unfold inL at h108
          refine r_st (pc' := 46) (lv' := [(3, _), (0, _), (1, _), (2, _), (5, _)]) rfl rfl rfl rfl ?_
          refine r_inc (pc' := 49) (lv' := [(3, _), (0, _), (1, _), (2, _)]) rfl rfl rfl rfl rfl ?_
          refine r_go rfl ?_
          have hb109 := rd_225_38 hz
          have hb110 := rd_225_39 hz
          have hb111 := rd_225_40 hz
          have hb112 := rd_225_58 hz
          have hb113 := rd_225_59 hz
          exact w_lv (sub_c rfl (sub_c rfl (sub_c rfl (sub_c rfl (sub_c rfl sub_n))))) rfl (ih0 v107 (x5 + 1) z w ⟨by omega, by omega⟩ ⟨by omega, by omega⟩ ⟨by omega, by omega⟩ ⟨by omega, by omega⟩ ⟨by omega, by omega⟩ hst (un_z_225_38) (un_z_225_39) (un_z_225_40) (un_z_225_58) (un_z_225_59) (by omega))
      · intro x5 z w  hx5 hpa1 hpa2 hz0_0 hst un_z_225_38 un_z_225_39 un_z_225_40 un_z_225_58 un_z_225_59 as1 hM
        refine r_ld (pc' := 68) rfl rfl rfl rfl ?_
        refine r_cb (pc' := 70) rfl (by decide) rfl ?_
        refine r_ige (pc' := 73) rfl rfl ⟨by omega, by omega⟩ ⟨by decide, by decide⟩ (fun hc114 => ?_) (fun hc114 => ?_)
        · skip
          have hle := lm_le (x := 1) (f := z 269) (fun j hj => (rd_269 hst.1 (i := j) hj).1)
          refine r_c0 (pc' := 88) rfl rfl ?_
          refine r_st (pc' := 90) (lv' := [(5, _), (0, _), (1, _), (2, _)]) rfl rfl rfl rfl ?_
          exact w_lv (sub_c rfl (sub_c rfl (sub_c rfl (sub_c rfl sub_n)))) rfl (ih2 1 z w ⟨by omega, by omega⟩ ⟨by omega, by omega⟩ ⟨by omega, by omega⟩ ⟨by omega, by omega⟩ hst (by first | exact hnx.1 | (intro j hj; rw [as1 j (by omega)]; omega)) (by omega))
        · skip
          refine r_ld (pc' := 74) rfl rfl rfl rfl ?_
          refine r_gr (b := 269) (pc' := 77) rfl rfl sh_225 rfl pp_225_69 ?_
          refine r_ld (pc' := 79) rfl rfl rfl rfl ?_
          refine r_c0 (pc' := 80) rfl rfl ?_
          refine r_is (pc' := 81) rfl rfl sh_269 rfl (by omega) (by omega) hst (inS_s (inS_0 (by omega) (by omega) (by omega) (by omega))) (wr_269 ⟨by omega, by omega⟩) (fun z115 hq116 hs117 => ?_)
          have hqt := hq116
          refine r_inc (pc' := 84) (lv' := [(0, _), (1, _), (2, _)]) rfl rfl rfl rfl rfl ?_
          refine r_go rfl ?_
          have hb118 := rd_225_38 hz
          have hb119 := rd_225_39 hz
          have hb120 := rd_225_40 hz
          have hb121 := rd_225_58 hz
          have hb122 := rd_225_59 hz
          exact w_lv (sub_c rfl (sub_c rfl (sub_c rfl (sub_c rfl sub_n)))) rfl (ih1 (x5 + 1) z115 w ⟨by omega, by omega⟩ ⟨by omega, by omega⟩ ⟨by omega, by omega⟩ ⟨by omega, by omega⟩ hs117 ((((congrFun (congrFun hq116 _) _).trans (mu_ne (by omega))).trans un_z_225_38)) ((((congrFun (congrFun hq116 _) _).trans (mu_ne (by omega))).trans un_z_225_39)) ((((congrFun (congrFun hq116 _) _).trans (mu_ne (by omega))).trans un_z_225_40)) ((((congrFun (congrFun hq116 _) _).trans (mu_ne (by omega))).trans un_z_225_58)) ((((congrFun (congrFun hq116 _) _).trans (mu_ne (by omega))).trans un_z_225_59)) (by first | (intro j hj; exfalso; omega) | (intro j hj; rw [hqt]; by_cases c : j = x5.toNat; (subst c; exact mu_eq); (rw [mu_ne (by omega)]; exact as1 j (by omega)))) (by omega))
      · intro x5 z w  hx5 hpa1 hpa2 hz0_0 hst as1 hM
        refine r_ld (pc' := 92) rfl rfl rfl rfl ?_
        refine r_zeq (pc' := 95) rfl rfl ⟨by omega, by omega⟩ (fun hc123 => ?_) (fun hc123 => ?_)
        · skip
          refine r_c0 (pc' := 137) rfl rfl ?_
          exact r_ri rfl (po_I hst ⟨by decide, by decide⟩ ⟨rfl, by omega, by omega, (by exact RV_c hz (fun i h1 h2 => hst.2.2.1 _ _ (notS_c (by omega) (notS_c (by omega) (notS_c (by omega) (notS_c (by omega) (notS_c (by omega) (notS_c (by omega) (notS_c (by omega) (notS_c (by omega) (notS_c (by omega) (notS_c (by omega) (notS_c (by omega) (notS_c (by omega) (notS_c (by omega) (notS_c (by omega) (notS_c (by omega) (notS_n))))))))))))))))) (fun a h1 h2 h3 => funext fun i => hst.2.2.1 _ _ (notS_c (by omega) (notS_c (by omega) (notS_c (by omega) (notS_c (by omega) (notS_c (by omega) (notS_c (by omega) (notS_c (by omega) (notS_c (by omega) (notS_c (by omega) (notS_c (by omega) (notS_c (by omega) (notS_c (by omega) (notS_c (by omega) (notS_c (by omega) (notS_c (by omega) (notS_n))))))))))))))))) (fun a h1 h2 => funext fun i => hst.2.2.1 _ _ (notS_c (by omega) (notS_c (by omega) (notS_c (by omega) (notS_c (by omega) (notS_c (by omega) (notS_c (by omega) (notS_c (by omega) (notS_c (by omega) (notS_c (by omega) (notS_c (by omega) (notS_c (by omega) (notS_c (by omega) (notS_c (by omega) (notS_c (by omega) (notS_c (by omega) (notS_n))))))))))))))))) (hst.2.2.1 _ _ (notS_c (by omega) (notS_c (by omega) (notS_c (by omega) (notS_c (by omega) (notS_c (by omega) (notS_c (by omega) (notS_c (by omega) (notS_c (by omega) (notS_c (by omega) (notS_c (by omega) (notS_c (by omega) (notS_c (by omega) (notS_c (by omega) (notS_c (by omega) (notS_c (by omega) (notS_n))))))))))))))))) (hst.2.2.1 _ _ (notS_c (by omega) (notS_c (by omega) (notS_c (by omega) (notS_c (by omega) (notS_c (by omega) (notS_c (by omega) (notS_c (by omega) (notS_c (by omega) (notS_c (by omega) (notS_c (by omega) (notS_c (by omega) (notS_c (by omega) (notS_c (by omega) (notS_c (by omega) (notS_c (by omega) (notS_n))))))))))))))))) (funext fun i => hst.2.2.1 _ _ (notS_c (by omega) (notS_c (by omega) (notS_c (by omega) (notS_c (by omega) (notS_c (by omega) (notS_c (by omega) (notS_c (by omega) (notS_c (by omega) (notS_c (by omega) (notS_c (by omega) (notS_c (by omega) (notS_c (by omega) (notS_c (by omega) (notS_c (by omega) (notS_c (by omega) (notS_n))))))))))))))))) (fun a h => funext fun i => hst.2.2.2 _ _ (notS_c (by omega) (notS_c (by omega) (notS_c (by omega) (notS_c (by omega) (notS_c (by omega) (notS_c (by omega) (notS_c (by omega) (notS_c (by omega) (notS_c (by omega) (notS_c (by omega) (notS_c (by omega) (notS_c (by omega) (notS_c (by omega) (notS_c (by omega) (notS_c (by omega) (notS_n))))))))))))))))) hrv)⟩)
        · skip
          have hl1 := lm_1 (x := x5) (f := z 269) (by omega)
          have hRW : RW z := RW_c (hst.2.2.1 _ _ (notS_c (by omega) (notS_c (by omega) (notS_c (by omega) (notS_c (by omega) (notS_c (by omega) (notS_c (by omega) (notS_c (by omega) (notS_c (by omega) (notS_c (by omega) (notS_c (by omega) (notS_c (by omega) (notS_c (by omega) (notS_c (by omega) (notS_c (by omega) (notS_c (by omega) (notS_n))))))))))))))))) (funext fun i => hst.2.2.1 _ _ (notS_c (by omega) (notS_c (by omega) (notS_c (by omega) (notS_c (by omega) (notS_c (by omega) (notS_c (by omega) (notS_c (by omega) (notS_c (by omega) (notS_c (by omega) (notS_c (by omega) (notS_c (by omega) (notS_c (by omega) (notS_c (by omega) (notS_c (by omega) (notS_c (by omega) (notS_n))))))))))))))))) (funext fun i => hst.2.2.1 _ _ (notS_c (by omega) (notS_c (by omega) (notS_c (by omega) (notS_c (by omega) (notS_c (by omega) (notS_c (by omega) (notS_c (by omega) (notS_c (by omega) (notS_c (by omega) (notS_c (by omega) (notS_c (by omega) (notS_c (by omega) (notS_c (by omega) (notS_c (by omega) (notS_c (by omega) (notS_n))))))))))))))))) (funext fun i => hst.2.2.1 _ _ (notS_c (by omega) (notS_c (by omega) (notS_c (by omega) (notS_c (by omega) (notS_c (by omega) (notS_c (by omega) (notS_c (by omega) (notS_c (by omega) (notS_c (by omega) (notS_c (by omega) (notS_c (by omega) (notS_c (by omega) (notS_c (by omega) (notS_c (by omega) (notS_c (by omega) (notS_n))))))))))))))))) hrv.1.1
          refine r_ld (pc' := 96) rfl rfl rfl rfl ?_
          refine r_cVI (pc' := 99) rfl rfl rfl rfl rfl sh_225 (m_231v (d := d + 6)  hst.1 hst.2.1 (by exact hRW)) (fun v124 z125 w126 p127 h128 hs129 hE130 => ?_)
          obtain ⟨rfl, rfl, rfl, hE130⟩ := hE130
          have htf := hE130.2.2
          refine r_zeq (pc' := 102) rfl rfl ⟨by omega, by omega⟩ (fun hc132 => ?_) (fun hc132 => ?_)
          · skip
            have hlz : lb (z 269) = lb (z 269) := congrArg lb (funext fun i => rfl)
            exact w_lv (sub_c rfl (sub_c rfl (sub_c rfl sub_n))) rfl (ih3 z w ⟨by omega, by omega⟩ ⟨by omega, by omega⟩ ⟨by omega, by omega⟩ hst (by first | exact as1 | (intro j hj; rw [show z 269 j = z 269 j from rfl]; exact as1 j hj)) (by omega))
          · skip
            refine r_ld (pc' := 103) rfl rfl rfl rfl ?_
            have hb133 := rd_225_26 hz
            have hf134 : z 225 26 = z0 225 26 := (hst.2.2.1 _ _ (notS_c (by omega) (notS_c (by omega) (notS_c (by omega) (notS_c (by omega) (notS_c (by omega) (notS_c (by omega) (notS_c (by omega) (notS_c (by omega) (notS_c (by omega) (notS_c (by omega) (notS_c (by omega) (notS_c (by omega) (notS_c (by omega) (notS_c (by omega) (notS_c (by omega) notS_n))))))))))))))))
            have hF135 : z 235 = z0 235 := (funext fun _ => hst.2.2.1 _ _ (notS_c (by omega) (notS_c (by omega) (notS_c (by omega) (notS_c (by omega) (notS_c (by omega) (notS_c (by omega) (notS_c (by omega) (notS_c (by omega) (notS_c (by omega) (notS_c (by omega) (notS_c (by omega) (notS_c (by omega) (notS_c (by omega) (notS_c (by omega) (notS_c (by omega) notS_n))))))))))))))))
            refine r_cVI (pc' := 106) rfl rfl rfl rfl rfl sh_225 (m_232 (d := d + 2)  hst.1 hst.2.1 (by exact hRW) (by exact htf (by omega)) (by exact Int.le_trans (sm_trle 18 (fun j hj => (rd_269 hst.1 (i := j) hj).1)) (Int.le_trans (sm_le3 18 as1) (by omega)))) (fun v136 z137 w138 p139 h140 hs141 hE142 => ?_)
            have hs143 := st_tr hst hs141 (sub_B rfl)
            obtain ⟨rfl, hE142⟩ := hE142
            refine r_zeq (pc' := 109) rfl rfl ⟨by omega, by omega⟩ (fun hc144 => ?_) (fun hc144 => ?_)
            · skip
              have hF145 : z137 269 = z 269 := (funext fun _ => hs141.2.2.1 _ _ (notS_c (by omega) (notS_c (by omega) (notS_c (by omega) (notS_c (by omega) (notS_c (by omega) (notS_c (by omega) notS_n)))))))
              have hlz : lb (z137 269) = lb (z 269) := congrArg lb (funext fun i => (hs141.2.2.1 _ _ (notS_c (by omega) (notS_c (by omega) (notS_c (by omega) (notS_c (by omega) (notS_c (by omega) (notS_c (by omega) notS_n))))))))
              exact w_lv (sub_c rfl (sub_c rfl (sub_c rfl sub_n))) rfl (ih3 z137 w138 ⟨by omega, by omega⟩ ⟨by omega, by omega⟩ ⟨by omega, by omega⟩ hs143 (by first | exact as1 | (intro j hj; rw [show z137 269 j = z 269 j from (hs141.2.2.1 _ _ (notS_c (by omega) (notS_c (by omega) (notS_c (by omega) (notS_c (by omega) (notS_c (by omega) (notS_c (by omega) notS_n)))))))]; exact as1 j hj)) (by omega))
            · skip
              refine r_ld (pc' := 110) rfl rfl rfl rfl ?_
              refine r_ld (pc' := 111) rfl rfl rfl rfl ?_
              refine r_cVI (pc' := 114) rfl rfl rfl rfl rfl sh_225 (m_233 (d := d) a1 hs143.1 hs143.2.1 ⟨by omega, by omega⟩) (fun v146 z147 w148 p149 h150 hs151 hE152 => ?_)
              have hs153 := st_tr hs143 hs151 (sub_B rfl)
              obtain ⟨rfl, hE152⟩ := hE152
              refine r_zeq (pc' := 117) rfl rfl ⟨by omega, by omega⟩ (fun hc154 => ?_) (fun hc154 => ?_)
              · skip
                have hF155 : z147 269 = z 269 := ((funext fun _ => hs151.2.2.1 _ _ (notS_c (by omega) (notS_c (by omega) (notS_c (by omega) (notS_c (by omega) (notS_c (by omega) (notS_c (by omega) notS_n))))))).trans (funext fun _ => hs141.2.2.1 _ _ (notS_c (by omega) (notS_c (by omega) (notS_c (by omega) (notS_c (by omega) (notS_c (by omega) (notS_c (by omega) notS_n))))))))
                have hlz : lb (z147 269) = lb (z 269) := congrArg lb (funext fun i => ((hs151.2.2.1 _ _ (notS_c (by omega) (notS_c (by omega) (notS_c (by omega) (notS_c (by omega) (notS_c (by omega) (notS_c (by omega) notS_n))))))).trans (hs141.2.2.1 _ _ (notS_c (by omega) (notS_c (by omega) (notS_c (by omega) (notS_c (by omega) (notS_c (by omega) (notS_c (by omega) notS_n)))))))))
                exact w_lv (sub_c rfl (sub_c rfl (sub_c rfl sub_n))) rfl (ih3 z147 w148 ⟨by omega, by omega⟩ ⟨by omega, by omega⟩ ⟨by omega, by omega⟩ hs153 (by first | exact as1 | (intro j hj; rw [show z147 269 j = z 269 j from ((hs151.2.2.1 _ _ (notS_c (by omega) (notS_c (by omega) (notS_c (by omega) (notS_c (by omega) (notS_c (by omega) (notS_c (by omega) notS_n))))))).trans (hs141.2.2.1 _ _ (notS_c (by omega) (notS_c (by omega) (notS_c (by omega) (notS_c (by omega) (notS_c (by omega) (notS_c (by omega) notS_n))))))))]; exact as1 j hj)) (by omega))
              · skip
                refine r_ld (pc' := 118) rfl rfl rfl rfl ?_
                refine r_cVV (pc' := 121) rfl rfl rfl rfl rfl sh_225 (m_236 (d := d + 6)  hs153.1 hs153.2.1 ) (fun z157 w158 p159 hs161 hE162 => ?_)
                have hs163 := st_tr hs153 hs161 (sub_B rfl)
                obtain rfl := hE162
                refine r_ld (pc' := 122) rfl rfl rfl rfl ?_
                refine r_cVI (pc' := 125) rfl rfl rfl rfl rfl sh_225 (m_237 (d := d + 5)  hs163.1 hs163.2.1 ) (fun v164 z165 w166 p167 h168 hs169 hE170 => ?_)
                obtain ⟨rfl, rfl, rfl, hE170⟩ := hE170
                exact r_ri rfl (po_I hs163 ⟨by omega, by omega⟩ ⟨rfl, by omega, by omega, (by exact RV_c hz (fun i h1 h2 => hs163.2.2.1 _ _ (notS_c (by omega) (notS_c (by omega) (notS_c (by omega) (notS_c (by omega) (notS_c (by omega) (notS_c (by omega) (notS_c (by omega) (notS_c (by omega) (notS_c (by omega) (notS_c (by omega) (notS_c (by omega) (notS_c (by omega) (notS_c (by omega) (notS_c (by omega) (notS_c (by omega) (notS_n))))))))))))))))) (fun a h1 h2 h3 => funext fun i => hs163.2.2.1 _ _ (notS_c (by omega) (notS_c (by omega) (notS_c (by omega) (notS_c (by omega) (notS_c (by omega) (notS_c (by omega) (notS_c (by omega) (notS_c (by omega) (notS_c (by omega) (notS_c (by omega) (notS_c (by omega) (notS_c (by omega) (notS_c (by omega) (notS_c (by omega) (notS_c (by omega) (notS_n))))))))))))))))) (fun a h1 h2 => funext fun i => hs163.2.2.1 _ _ (notS_c (by omega) (notS_c (by omega) (notS_c (by omega) (notS_c (by omega) (notS_c (by omega) (notS_c (by omega) (notS_c (by omega) (notS_c (by omega) (notS_c (by omega) (notS_c (by omega) (notS_c (by omega) (notS_c (by omega) (notS_c (by omega) (notS_c (by omega) (notS_c (by omega) (notS_n))))))))))))))))) (hs163.2.2.1 _ _ (notS_c (by omega) (notS_c (by omega) (notS_c (by omega) (notS_c (by omega) (notS_c (by omega) (notS_c (by omega) (notS_c (by omega) (notS_c (by omega) (notS_c (by omega) (notS_c (by omega) (notS_c (by omega) (notS_c (by omega) (notS_c (by omega) (notS_c (by omega) (notS_c (by omega) (notS_n))))))))))))))))) (hs163.2.2.1 _ _ (notS_c (by omega) (notS_c (by omega) (notS_c (by omega) (notS_c (by omega) (notS_c (by omega) (notS_c (by omega) (notS_c (by omega) (notS_c (by omega) (notS_c (by omega) (notS_c (by omega) (notS_c (by omega) (notS_c (by omega) (notS_c (by omega) (notS_c (by omega) (notS_c (by omega) (notS_n))))))))))))))))) (funext fun i => hs163.2.2.1 _ _ (notS_c (by omega) (notS_c (by omega) (notS_c (by omega) (notS_c (by omega) (notS_c (by omega) (notS_c (by omega) (notS_c (by omega) (notS_c (by omega) (notS_c (by omega) (notS_c (by omega) (notS_c (by omega) (notS_c (by omega) (notS_c (by omega) (notS_c (by omega) (notS_c (by omega) (notS_n))))))))))))))))) (fun a h => funext fun i => hs163.2.2.2 _ _ (notS_c (by omega) (notS_c (by omega) (notS_c (by omega) (notS_c (by omega) (notS_c (by omega) (notS_c (by omega) (notS_c (by omega) (notS_c (by omega) (notS_c (by omega) (notS_c (by omega) (notS_c (by omega) (notS_c (by omega) (notS_c (by omega) (notS_c (by omega) (notS_c (by omega) (notS_n))))))))))))))))) hrv)⟩)
      · intro  z w  hpa1 hpa2 hz0_0 hst as1 hM
        refine r_ld (pc' := 127) rfl rfl rfl rfl ?_
        refine r_ld (pc' := 128) rfl rfl rfl rfl ?_
        refine r_cVI (pc' := 131) rfl rfl rfl rfl rfl sh_225 (m_234v (d := d + 5) a2 hst.1 hst.2.1 ⟨by omega, by omega⟩ (by exact as1)) (fun v172 z173 w174 p175 h176 hs177 hE178 => ?_)
        have hs179 := st_tr hst hs177 (sub_B rfl)
        obtain ⟨rfl, hE178⟩ := hE178
        have hnx := hE178.2.2
        have hlm : lm v172 (z173 269) < 2 * lb (z 269) := lm_lt hnx.1 (by omega) (by omega) hnx.2 (lb_p as1)
        refine r_st (pc' := 133) (lv' := [(5, _), (0, _), (1, _), (2, _)]) rfl rfl rfl rfl ?_
        refine r_go rfl ?_
        exact w_lv (sub_c rfl (sub_c rfl (sub_c rfl (sub_c rfl sub_n)))) rfl (ih2 v172 z173 w174 ⟨by omega, by omega⟩ ⟨by omega, by omega⟩ ⟨by omega, by omega⟩ ⟨by omega, by omega⟩ hs179 (by first | exact hnx.1 | (intro j hj; rw [as1 j (by omega)]; omega)) (by omega))
  refine w_m rfl rfl ?_
  refine r_ld (pc' := 1) rfl rfl rfl rfl ?_
  refine r_c0 (pc' := 2) rfl rfl ?_
  refine r_pi (pc' := 5) rfl rfl sh_225 rfl (fit_b (by omega)) hst (inS_0 (by omega) (by omega) (by omega) (by omega)) (wr_225_70 ⟨by omega, by omega⟩) (fun z180 hq181 hs182 => ?_)
  refine r_ld (pc' := 6) rfl rfl rfl rfl ?_
  refine r_ld (pc' := 7) rfl rfl rfl rfl ?_
  have hb183 := rd_225_28 hz
  have hf184 : z180 225 28 = z0 225 28 := ((congrFun (congrFun hq181 _) _).trans (mu_ne (by omega)))
  refine r_cVI (pc' := 10) rfl rfl rfl rfl rfl sh_225 (m_218 (d := d + 5) a1 hs182.1 hs182.2.1 ⟨by omega, by omega⟩) (fun v185 z186 w187 p188 h189 hs190 hE191 => ?_)
  obtain ⟨rfl, rfl, rfl, hE191⟩ := hE191
  refine r_zeq (pc' := 13) rfl rfl ⟨by omega, by omega⟩ (fun hc193 => ?_) (fun hc193 => ?_)
  · skip
    refine r_c0 (pc' := 24) rfl rfl ?_
    exact r_ri rfl (po_I hs182 ⟨by decide, by decide⟩ ⟨rfl, by omega, by omega, (by exact RV_c hz (fun i h1 h2 => hs182.2.2.1 _ _ (notS_c (by omega) (notS_c (by omega) (notS_c (by omega) (notS_c (by omega) (notS_c (by omega) (notS_c (by omega) (notS_c (by omega) (notS_c (by omega) (notS_c (by omega) (notS_c (by omega) (notS_c (by omega) (notS_c (by omega) (notS_c (by omega) (notS_c (by omega) (notS_c (by omega) (notS_n))))))))))))))))) (fun a h1 h2 h3 => funext fun i => hs182.2.2.1 _ _ (notS_c (by omega) (notS_c (by omega) (notS_c (by omega) (notS_c (by omega) (notS_c (by omega) (notS_c (by omega) (notS_c (by omega) (notS_c (by omega) (notS_c (by omega) (notS_c (by omega) (notS_c (by omega) (notS_c (by omega) (notS_c (by omega) (notS_c (by omega) (notS_c (by omega) (notS_n))))))))))))))))) (fun a h1 h2 => funext fun i => hs182.2.2.1 _ _ (notS_c (by omega) (notS_c (by omega) (notS_c (by omega) (notS_c (by omega) (notS_c (by omega) (notS_c (by omega) (notS_c (by omega) (notS_c (by omega) (notS_c (by omega) (notS_c (by omega) (notS_c (by omega) (notS_c (by omega) (notS_c (by omega) (notS_c (by omega) (notS_c (by omega) (notS_n))))))))))))))))) (hs182.2.2.1 _ _ (notS_c (by omega) (notS_c (by omega) (notS_c (by omega) (notS_c (by omega) (notS_c (by omega) (notS_c (by omega) (notS_c (by omega) (notS_c (by omega) (notS_c (by omega) (notS_c (by omega) (notS_c (by omega) (notS_c (by omega) (notS_c (by omega) (notS_c (by omega) (notS_c (by omega) (notS_n))))))))))))))))) (hs182.2.2.1 _ _ (notS_c (by omega) (notS_c (by omega) (notS_c (by omega) (notS_c (by omega) (notS_c (by omega) (notS_c (by omega) (notS_c (by omega) (notS_c (by omega) (notS_c (by omega) (notS_c (by omega) (notS_c (by omega) (notS_c (by omega) (notS_c (by omega) (notS_c (by omega) (notS_c (by omega) (notS_n))))))))))))))))) (funext fun i => hs182.2.2.1 _ _ (notS_c (by omega) (notS_c (by omega) (notS_c (by omega) (notS_c (by omega) (notS_c (by omega) (notS_c (by omega) (notS_c (by omega) (notS_c (by omega) (notS_c (by omega) (notS_c (by omega) (notS_c (by omega) (notS_c (by omega) (notS_c (by omega) (notS_c (by omega) (notS_c (by omega) (notS_n))))))))))))))))) (fun a h => funext fun i => hs182.2.2.2 _ _ (notS_c (by omega) (notS_c (by omega) (notS_c (by omega) (notS_c (by omega) (notS_c (by omega) (notS_c (by omega) (notS_c (by omega) (notS_c (by omega) (notS_c (by omega) (notS_c (by omega) (notS_c (by omega) (notS_c (by omega) (notS_c (by omega) (notS_c (by omega) (notS_c (by omega) (notS_n))))))))))))))))) hrv)⟩)
  · skip
    refine r_ld (pc' := 14) rfl rfl rfl rfl ?_
    refine r_c0 (pc' := 15) rfl rfl ?_
    refine r_ilt (pc' := 18) rfl rfl ⟨by omega, by omega⟩ ⟨by decide, by decide⟩ (fun hc194 => ?_) (fun hc194 => ?_)
    · skip
      refine r_c0 (pc' := 24) rfl rfl ?_
      exact r_ri rfl (po_I hs182 ⟨by decide, by decide⟩ ⟨rfl, by omega, by omega, (by exact RV_c hz (fun i h1 h2 => hs182.2.2.1 _ _ (notS_c (by omega) (notS_c (by omega) (notS_c (by omega) (notS_c (by omega) (notS_c (by omega) (notS_c (by omega) (notS_c (by omega) (notS_c (by omega) (notS_c (by omega) (notS_c (by omega) (notS_c (by omega) (notS_c (by omega) (notS_c (by omega) (notS_c (by omega) (notS_c (by omega) (notS_n))))))))))))))))) (fun a h1 h2 h3 => funext fun i => hs182.2.2.1 _ _ (notS_c (by omega) (notS_c (by omega) (notS_c (by omega) (notS_c (by omega) (notS_c (by omega) (notS_c (by omega) (notS_c (by omega) (notS_c (by omega) (notS_c (by omega) (notS_c (by omega) (notS_c (by omega) (notS_c (by omega) (notS_c (by omega) (notS_c (by omega) (notS_c (by omega) (notS_n))))))))))))))))) (fun a h1 h2 => funext fun i => hs182.2.2.1 _ _ (notS_c (by omega) (notS_c (by omega) (notS_c (by omega) (notS_c (by omega) (notS_c (by omega) (notS_c (by omega) (notS_c (by omega) (notS_c (by omega) (notS_c (by omega) (notS_c (by omega) (notS_c (by omega) (notS_c (by omega) (notS_c (by omega) (notS_c (by omega) (notS_c (by omega) (notS_n))))))))))))))))) (hs182.2.2.1 _ _ (notS_c (by omega) (notS_c (by omega) (notS_c (by omega) (notS_c (by omega) (notS_c (by omega) (notS_c (by omega) (notS_c (by omega) (notS_c (by omega) (notS_c (by omega) (notS_c (by omega) (notS_c (by omega) (notS_c (by omega) (notS_c (by omega) (notS_c (by omega) (notS_c (by omega) (notS_n))))))))))))))))) (hs182.2.2.1 _ _ (notS_c (by omega) (notS_c (by omega) (notS_c (by omega) (notS_c (by omega) (notS_c (by omega) (notS_c (by omega) (notS_c (by omega) (notS_c (by omega) (notS_c (by omega) (notS_c (by omega) (notS_c (by omega) (notS_c (by omega) (notS_c (by omega) (notS_c (by omega) (notS_c (by omega) (notS_n))))))))))))))))) (funext fun i => hs182.2.2.1 _ _ (notS_c (by omega) (notS_c (by omega) (notS_c (by omega) (notS_c (by omega) (notS_c (by omega) (notS_c (by omega) (notS_c (by omega) (notS_c (by omega) (notS_c (by omega) (notS_c (by omega) (notS_c (by omega) (notS_c (by omega) (notS_c (by omega) (notS_c (by omega) (notS_c (by omega) (notS_n))))))))))))))))) (fun a h => funext fun i => hs182.2.2.2 _ _ (notS_c (by omega) (notS_c (by omega) (notS_c (by omega) (notS_c (by omega) (notS_c (by omega) (notS_c (by omega) (notS_c (by omega) (notS_c (by omega) (notS_c (by omega) (notS_c (by omega) (notS_c (by omega) (notS_c (by omega) (notS_c (by omega) (notS_c (by omega) (notS_c (by omega) (notS_n))))))))))))))))) hrv)⟩)
    · skip
      refine r_ld (pc' := 19) rfl rfl rfl rfl ?_
      refine r_c0 (pc' := 20) rfl rfl ?_
      refine r_ile (pc' := 23) rfl rfl ⟨by omega, by omega⟩ ⟨by decide, by decide⟩ (fun hc195 => ?_) (fun hc195 => ?_)
      · skip
        refine r_lc1 (pc' := 26) rfl rfl ?_
        refine r_st (pc' := 27) (lv' := [(3, _), (0, _), (1, _), (2, _)]) rfl rfl rfl rfl ?_
        refine r_c0 (pc' := 28) rfl rfl ?_
        refine r_st (pc' := 30) (lv' := [(5, _), (3, _), (0, _), (1, _), (2, _)]) rfl rfl rfl rfl ?_
        have hb196 := rd_225_38 hz
        have hb197 := rd_225_39 hz
        have hb198 := rd_225_40 hz
        have hb199 := rd_225_58 hz
        have hb200 := rd_225_59 hz
        exact w_lv (sub_c rfl (sub_c rfl (sub_c rfl (sub_c rfl (sub_c rfl sub_n))))) rfl ((key ((76 * (18 - 0) + 200000001578 : Int).toNat + 1)).1 1 0 z180 w0 ⟨by omega, by omega⟩ ⟨by omega, by omega⟩ ⟨by omega, by omega⟩ ⟨by omega, by omega⟩ ⟨by omega, by omega⟩ hs182 (((congrFun (congrFun hq181 _) _).trans (mu_ne (by omega)))) (((congrFun (congrFun hq181 _) _).trans (mu_ne (by omega)))) (((congrFun (congrFun hq181 _) _).trans (mu_ne (by omega)))) (((congrFun (congrFun hq181 _) _).trans (mu_ne (by omega)))) (((congrFun (congrFun hq181 _) _).trans (mu_ne (by omega)))) (by omega))
      · skip
        refine r_c0 (pc' := 24) rfl rfl ?_
        exact r_ri rfl (po_I hs182 ⟨by decide, by decide⟩ ⟨rfl, by omega, by omega, (by exact RV_c hz (fun i h1 h2 => hs182.2.2.1 _ _ (notS_c (by omega) (notS_c (by omega) (notS_c (by omega) (notS_c (by omega) (notS_c (by omega) (notS_c (by omega) (notS_c (by omega) (notS_c (by omega) (notS_c (by omega) (notS_c (by omega) (notS_c (by omega) (notS_c (by omega) (notS_c (by omega) (notS_c (by omega) (notS_c (by omega) (notS_n))))))))))))))))) (fun a h1 h2 h3 => funext fun i => hs182.2.2.1 _ _ (notS_c (by omega) (notS_c (by omega) (notS_c (by omega) (notS_c (by omega) (notS_c (by omega) (notS_c (by omega) (notS_c (by omega) (notS_c (by omega) (notS_c (by omega) (notS_c (by omega) (notS_c (by omega) (notS_c (by omega) (notS_c (by omega) (notS_c (by omega) (notS_c (by omega) (notS_n))))))))))))))))) (fun a h1 h2 => funext fun i => hs182.2.2.1 _ _ (notS_c (by omega) (notS_c (by omega) (notS_c (by omega) (notS_c (by omega) (notS_c (by omega) (notS_c (by omega) (notS_c (by omega) (notS_c (by omega) (notS_c (by omega) (notS_c (by omega) (notS_c (by omega) (notS_c (by omega) (notS_c (by omega) (notS_c (by omega) (notS_c (by omega) (notS_n))))))))))))))))) (hs182.2.2.1 _ _ (notS_c (by omega) (notS_c (by omega) (notS_c (by omega) (notS_c (by omega) (notS_c (by omega) (notS_c (by omega) (notS_c (by omega) (notS_c (by omega) (notS_c (by omega) (notS_c (by omega) (notS_c (by omega) (notS_c (by omega) (notS_c (by omega) (notS_c (by omega) (notS_c (by omega) (notS_n))))))))))))))))) (hs182.2.2.1 _ _ (notS_c (by omega) (notS_c (by omega) (notS_c (by omega) (notS_c (by omega) (notS_c (by omega) (notS_c (by omega) (notS_c (by omega) (notS_c (by omega) (notS_c (by omega) (notS_c (by omega) (notS_c (by omega) (notS_c (by omega) (notS_c (by omega) (notS_c (by omega) (notS_c (by omega) (notS_n))))))))))))))))) (funext fun i => hs182.2.2.1 _ _ (notS_c (by omega) (notS_c (by omega) (notS_c (by omega) (notS_c (by omega) (notS_c (by omega) (notS_c (by omega) (notS_c (by omega) (notS_c (by omega) (notS_c (by omega) (notS_c (by omega) (notS_c (by omega) (notS_c (by omega) (notS_c (by omega) (notS_c (by omega) (notS_c (by omega) (notS_n))))))))))))))))) (fun a h => funext fun i => hs182.2.2.2 _ _ (notS_c (by omega) (notS_c (by omega) (notS_c (by omega) (notS_c (by omega) (notS_c (by omega) (notS_c (by omega) (notS_c (by omega) (notS_c (by omega) (notS_c (by omega) (notS_c (by omega) (notS_c (by omega) (notS_c (by omega) (notS_c (by omega) (notS_c (by omega) (notS_c (by omega) (notS_n))))))))))))))))) hrv)⟩)
