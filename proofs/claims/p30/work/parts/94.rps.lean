/-! methods, printed by wip/tools/vcg.py -/
/-- LoopGroundModel allOf -/
abbrev S_213v  : mS := []
abbrev E_213v  (z0 w0 : mZ) (x y tx it mt tt ct : Option Nat) : Int → mZ → mZ → mP → Prop := fun v z w p => p = (pq x y tx it mt tt ct) ∧ z0 = z ∧ w0 = w ∧ 0 ≤ v ∧ v ≤ 1800000000000000 ∧ (NZE (rE z0) (w0 257) → 0 < v)
theorem m_213v {d : Nat} {z0 w0 : mZ} {x y tx it mt tt ct : Option Nat}  (hz : rz z0) (hw : rw_ w0) (hnb : NBr w0 257) : wc (d + 2) 213 [.ref 225] (mk z0 w0 (pq x y tx it mt tt ct)) (poL S_213v z0 w0 (E_213v  z0 w0 x y tx it mt tt ct)) := by
  have hst : st_ S_213v z0 w0 z0 w0 := st_rf hz hw
  have hm26 := rd_225_26 hz
  have hrE : rE z0 = 3 * z0 225 26 / 2 := rfl
  have hnn : ∀ j : Nat, j < 18 → 0 ≤ (tr (rE z0) (w0 257)) j := fun j hj => by by_cases c : (j : Int) < rE z0; (rw [tr_l c]; exact (hnb j hj).1); (rw [tr_g (by omega)]; omega)
  have key : ∀ N : Nat, (∀ (x1 x3 : Int) , 0 ≤ x1 ∧ x1 ≤ 1800000000000000 → 0 ≤ x3 ∧ x3 ≤ 18 → (x1 = sm (tr (rE z0) (w0 257)) x3.toNat ∧ x1 ≤ 100000000000000 * x3) → (x3 ≤ rE z0) → 19 * (18 - x3) + 14 < (N : Int) → wp_ (d + 1) 213 4 (some .long) (4, [(0, .ref 225), (1, .long (Int64.ofInt x1)), (3, .int (Int32.ofInt x3))], [], mk z0 w0 (pq x y tx it mt tt ct)) (poL S_213v z0 w0 (E_213v  z0 w0 x y tx it mt tt ct))) := by
    intro N
    induction N with
    | zero =>
      intro x1 x3 
      intros; exfalso; omega
    | succ N ih =>
      have ih0 := ih; clear ih
      intro x1 x3  hx1 hx3 as1 as2 hM
      refine r_ld (pc' := 5) rfl rfl rfl rfl ?_
      refine r_ld (pc' := 6) rfl rfl rfl rfl ?_
      have hb15 := rd_225_26 hz
      refine r_cVI (pc' := 9) rfl rfl rfl rfl rfl sh_225 (m_161 (d := d)  hst.1 hst.2.1 ) (fun v16 z17 w18 p19 h20 hs21 hE22 => ?_)
      obtain ⟨rfl, rfl, rfl, hE22⟩ := hE22
      refine r_ige (pc' := 12) rfl rfl ⟨by omega, by omega⟩ ⟨by omega, by omega⟩ (fun hc24 => ?_) (fun hc24 => ?_)
      · skip
        refine r_ld (pc' := 28) rfl rfl rfl rfl ?_
        exact r_rl rfl (po_L hst ⟨by omega, by omega⟩ ⟨rfl, rfl, rfl, by omega, by omega, (by rintro ⟨j, hj, hd⟩; have q := sm_pos (f := (tr (rE z0) (w0 257))) (k := j) 18 (by omega) hnn (by rw [tr_l hj]; exact hd); rw [sm_tr (by omega) (by omega), show (rE z0).toNat = x3.toNat by omega] at q; omega)⟩)
      · skip
        have hgt := tr_l (E := rE z0) (f := w0 257) (e := x3.toNat) (by omega)
        have hn3 := hnb x3.toNat (by omega)
        refine r_ld (pc' := 13) rfl rfl rfl rfl ?_
        refine r_ld (pc' := 14) rfl rfl rfl rfl ?_
        refine r_gr (b := 257) (pc' := 17) rfl rfl sh_225 rfl pp_225_55 ?_
        refine r_ld (pc' := 18) rfl rfl rfl rfl ?_
        have hb25 := rd_257 hw (i := x3.toNat) (by omega)
        refine r_la (pc' := 19) rfl rfl sh_257 rfl (by omega) (by omega) rfl ?_
        refine r_ladd (pc' := 20) rfl rfl ?_
        refine w_hxl (fun v26 h27 h28 => ?_)
        refine r_st (pc' := 21) (lv' := [(1, _), (0, _), (3, _)]) rfl rfl rfl rfl ?_
        refine r_inc (pc' := 24) (lv' := [(1, _), (0, _)]) rfl rfl rfl rfl rfl ?_
        refine r_go rfl ?_
        exact w_lv (sub_c rfl (sub_c rfl (sub_c rfl sub_n))) rfl (ih0 v26 (x3 + 1) ⟨by omega, by omega⟩ ⟨by omega, by omega⟩ (by first | exact ⟨rfl, by omega⟩ | (refine ⟨?_, by omega⟩; rw [show (x3 + 1).toNat = x3.toNat + 1 by omega, sm_s]; omega)) (by first | omega | assumption) (by omega))
  refine w_m rfl rfl ?_
  refine r_lc0 (pc' := 1) rfl rfl ?_
  refine r_st (pc' := 2) (lv' := [(1, _), (0, _)]) rfl rfl rfl rfl ?_
  refine r_c0 (pc' := 3) rfl rfl ?_
  refine r_st (pc' := 4) (lv' := [(3, _), (1, _), (0, _)]) rfl rfl rfl rfl ?_
  exact w_lv (sub_c rfl (sub_c rfl (sub_c rfl sub_n))) rfl ((key ((19 * (18 - 0) + 14 : Int).toNat + 1)) 0 0 ⟨by omega, by omega⟩ ⟨by omega, by omega⟩ (by first | exact ⟨rfl, by omega⟩ | (refine ⟨?_, by omega⟩; rw [show (x3 + 1).toNat = x3.toNat + 1 by omega, sm_s]; omega)) (by first | omega | assumption) (by omega))
/-- LoopGroundModel stretch -/
abbrev S_224v  : mS := [(225, 225, 58, 58), (225, 225, 59, 59), (257, 257, 0, 17), (259, 259, 0, 17), (258, 258, 0, 323), (260, 260, 0, 17)]
abbrev E_224v (a1 : Int) (a2 : Int) (a3 : Int) (z0 w0 : mZ) (x y tx it mt tt ct : Option Nat) : Int → mZ → mZ → mP → Prop := fun v z w p => p = (pq x y tx it mt tt ct) ∧ (-9223372036854775808) ≤ v ∧ v ≤ 9223372036854775807 ∧ (RV z w)
theorem m_224v {d : Nat} {z0 w0 : mZ} {x y tx it mt tt ct : Option Nat} (a1 : Int) (a2 : Int) (a3 : Int) (hz : rz z0) (hw : rw_ w0) (ha1 : (-2147483648) ≤ a1 ∧ a1 ≤ 2147483647) (ha2 : (-2147483648) ≤ a2 ∧ a2 ≤ 2147483647) (ha3 : (-2147483648) ≤ a3 ∧ a3 ≤ 2147483647) (hrv : RV z0 w0) : wc (d + 7) 224 [.ref 225, .int (Int32.ofInt a1), .int (Int32.ofInt a2), .int (Int32.ofInt a3)] (mk z0 w0 (pq x y tx it mt tt ct)) (poL S_224v z0 w0 (E_224v a1 a2 a3 z0 w0 x y tx it mt tt ct)) := by
  have hst : st_ S_224v z0 w0 z0 w0 := st_rf hz hw
  have hz74 := rd_225_26 hz
  have h27 := rd_225_27 hz
  have h28 := rd_225_28 hz
  have h18 := rE18 hz
  have key : ∀ N : Nat, (∀ (x4 x6 : Int) (z w : mZ), 0 ≤ x4 ∧ x4 ≤ 1800000000000000 → 0 ≤ x6 ∧ x6 ≤ 21 → 0 ≤ a1 ∧ a1 ≤ 5 → 0 ≤ a2 ∧ a2 ≤ 7 → 0 ≤ a3 ∧ a3 ≤ 20 → 1 ≤ z0 225 27 ∧ z0 225 27 ≤ 8 → 1 ≤ z0 225 28 ∧ z0 225 28 ≤ 6 → st_ S_224v z0 w0 z w → (z 225 58 = 0 → FT (z0 225 26).toNat (vT (z0 235)) (w 257) ∧ NBr w 257 ∧ NZE (rE z0) (w 257)) → (0 < x6 → z 225 58 = 0 → 0 < x4) → (FWr z0 a1.toNat) → 54 * (21 - x6) + 27 < (N : Int) → wp_ (d + 6) 224 7 (some .long) (51, [(0, .ref 225), (1, .int (Int32.ofInt a1)), (3, .int (Int32.ofInt a3)), (4, .long (Int64.ofInt x4)), (6, .int (Int32.ofInt x6))], [], mk z w (pq x y tx it mt tt ct)) (poL S_224v z0 w0 (E_224v a1 a2 a3 z0 w0 x y tx it mt tt ct))) ∧ (∀ (x4 : Int) (z w : mZ), 0 ≤ x4 ∧ x4 ≤ 1800000000000000 → 0 ≤ a1 ∧ a1 ≤ 5 → 0 ≤ a2 ∧ a2 ≤ 7 → 0 ≤ a3 ∧ a3 ≤ 20 → 1 ≤ z0 225 27 ∧ z0 225 27 ≤ 8 → 1 ≤ z0 225 28 ∧ z0 225 28 ≤ 6 → st_ S_224v z0 w0 z w → (z 225 58 = 0 → FT (z0 225 26).toNat (vT (z0 235)) (w 257) ∧ NBr w 257 ∧ NZE (rE z0) (w 257)) → (z 225 58 = 0 → 0 < x4) → 13 < (N : Int) → wp_ (d + 6) 224 7 (some .long) (81, [(0, .ref 225), (4, .long (Int64.ofInt x4))], [], mk z w (pq x y tx it mt tt ct)) (poL S_224v z0 w0 (E_224v a1 a2 a3 z0 w0 x y tx it mt tt ct))) := by
    intro N
    induction N with
    | zero =>
      refine ⟨?_, ?_⟩
      · intro x4 x6 z w
        intros; exfalso; omega
      · intro x4 z w
        intros; exfalso; omega
    | succ N ih =>
      obtain ⟨ih0, ih1⟩ := ih
      refine ⟨?_, ?_⟩
      · intro x4 x6 z w  hx4 hx6 hpa1 hpa2 hpa3 hz0_0 hz0_1 hst as1 as2 as3 hM
        refine r_ld (pc' := 53) rfl rfl rfl rfl ?_
        refine r_ld (pc' := 54) rfl rfl rfl rfl ?_
        refine r_igt (pc' := 57) rfl rfl ⟨by omega, by omega⟩ ⟨by omega, by omega⟩ (fun hc75 => ?_) (fun hc75 => ?_)
        · skip
          have hb76 := rd_225_58 hst.1
          exact w_lv (sub_c rfl (sub_c rfl sub_n)) rfl (ih1 x4 z w ⟨by omega, by omega⟩ ⟨by omega, by omega⟩ ⟨by omega, by omega⟩ ⟨by omega, by omega⟩ ⟨by omega, by omega⟩ ⟨by omega, by omega⟩ hst (by exact as1) (by first | (intro q; exfalso; omega) | exact as2 (by omega)) (by omega))
        · skip
          refine r_ld (pc' := 58) rfl rfl rfl rfl ?_
          have hb77 := rd_225_58 hst.1
          refine r_gi (pc' := 61) rfl rfl sh_225 rfl rfl ?_
          refine r_zne (pc' := 64) rfl rfl ⟨by omega, by omega⟩ (fun hc78 => ?_) (fun hc78 => ?_)
          · skip
            exact w_lv (sub_c rfl (sub_c rfl sub_n)) rfl (ih1 x4 z w ⟨by omega, by omega⟩ ⟨by omega, by omega⟩ ⟨by omega, by omega⟩ ⟨by omega, by omega⟩ ⟨by omega, by omega⟩ ⟨by omega, by omega⟩ hst (by exact as1) (by first | (intro q; exfalso; omega) | exact as2 (by omega)) (by omega))
          · skip
            have hx1 := as1 (by omega)
            refine r_ld (pc' := 65) rfl rfl rfl rfl ?_
            refine r_cVL (pc' := 68) rfl rfl rfl rfl rfl sh_225 (m_213v (d := d + 4)  hst.1 hst.2.1 (by exact hx1.2.1)) (fun v79 z80 w81 p82 h83 hs84 hE85 => ?_)
            obtain ⟨rfl, rfl, rfl, hE85⟩ := hE85
            have hao := hE85.2.2
            refine r_st (pc' := 70) (lv' := [(4, _), (0, _), (1, _), (3, _), (6, _)]) rfl rfl rfl rfl ?_
            refine r_ld (pc' := 71) rfl rfl rfl rfl ?_
            refine r_ld (pc' := 72) rfl rfl rfl rfl ?_
            have c26 : z 225 26 = z0 225 26 := hst.2.2.1 _ _ (notS_c (by omega) (notS_c (by omega) (notS_c (by omega) (notS_c (by omega) (notS_c (by omega) (notS_c (by omega) (notS_n)))))))
            have c235 : z 235 = z0 235 := funext fun i => hst.2.2.1 _ _ (notS_c (by omega) (notS_c (by omega) (notS_c (by omega) (notS_c (by omega) (notS_c (by omega) (notS_c (by omega) (notS_n)))))))
            have hb87 := rd_225_26 hz
            have hf88 : z 225 26 = z0 225 26 := (hst.2.2.1 _ _ (notS_c (by omega) (notS_c (by omega) (notS_c (by omega) (notS_c (by omega) (notS_c (by omega) (notS_c (by omega) notS_n)))))))
            have hF89 : z 235 = z0 235 := (funext fun _ => hst.2.2.1 _ _ (notS_c (by omega) (notS_c (by omega) (notS_c (by omega) (notS_c (by omega) (notS_c (by omega) (notS_c (by omega) notS_n)))))))
            refine r_cVV (pc' := 75) rfl rfl rfl rfl rfl sh_225 (m_211v (d := d) a1 hst.1 hst.2.1 ⟨by omega, by omega⟩ (by exact hx1.2.1) (by first | omega | assumption | (simp only [hF89, hf88]; assumption)) (by rw [c26, c235]; exact hx1.1) (by exact fun l hl => GRq_c (hst.2.2.1 _ _ (notS_c (by omega) (notS_c (by omega) (notS_c (by omega) (notS_c (by omega) (notS_c (by omega) (notS_c (by omega) (notS_n)))))))) (funext fun i => hst.2.2.1 _ _ (notS_c (by omega) (notS_c (by omega) (notS_c (by omega) (notS_c (by omega) (notS_c (by omega) (notS_c (by omega) (notS_n)))))))) (fun a h1 h2 => funext fun i => hst.2.2.1 _ _ (notS_c (by omega) (notS_c (by omega) (notS_c (by omega) (notS_c (by omega) (notS_c (by omega) (notS_c (by omega) (notS_n)))))))) (hrv.1.2.2.2 l (by rw [← show z 225 27 = z0 225 27 from hst.2.2.1 _ _ (notS_c (by omega) (notS_c (by omega) (notS_c (by omega) (notS_c (by omega) (notS_c (by omega) (notS_c (by omega) (notS_n)))))))]; exact hl))) (by exact FWr_c (hst.2.2.1 _ _ (notS_c (by omega) (notS_c (by omega) (notS_c (by omega) (notS_c (by omega) (notS_c (by omega) (notS_c (by omega) (notS_n)))))))) (funext fun i => hst.2.2.1 _ _ (notS_c (by omega) (notS_c (by omega) (notS_c (by omega) (notS_c (by omega) (notS_c (by omega) (notS_c (by omega) (notS_n)))))))) (funext fun i => hst.2.2.1 _ _ (notS_c (by omega) (notS_c (by omega) (notS_c (by omega) (notS_c (by omega) (notS_c (by omega) (notS_c (by omega) (notS_n)))))))) (funext fun i => hst.2.2.1 _ _ (notS_c (by omega) (notS_c (by omega) (notS_c (by omega) (notS_c (by omega) (notS_c (by omega) (notS_c (by omega) (notS_n)))))))) as3)) (fun z91 w92 p93 hs95 hE96 => ?_)
            have hs97 := st_tr hst hs95 (sub_B rfl)
            obtain ⟨rfl, hE96⟩ := hE96
            have hgw := hE96
            unfold GOk rE at hgw
            rw [c26, c235] at hgw
            refine r_inc (pc' := 78) (lv' := [(4, _), (0, _), (1, _), (3, _)]) rfl rfl rfl rfl rfl ?_
            refine r_go rfl ?_
            have hb98 := rd_225_58 hs97.1
            exact w_lv (sub_c rfl (sub_c rfl (sub_c rfl (sub_c rfl (sub_c rfl sub_n))))) rfl (ih0 v79 (x6 + 1) z91 w92 ⟨by omega, by omega⟩ ⟨by omega, by omega⟩ ⟨by omega, by omega⟩ ⟨by omega, by omega⟩ ⟨by omega, by omega⟩ ⟨by omega, by omega⟩ ⟨by omega, by omega⟩ hs97 (by first | (intro hq; exact ⟨(hgw hq).1, (hgw hq).2.1, (hgw hq).2.2 hx1.2.2⟩) | (intro _; exact ⟨FTw_w (z := z0) (z' := z0) (f := lnR z0 a2.toNat) hrv.1.1 rfl rfl (hrv.1.2.1 a2.toNat (by omega)).1 hbg.1, NB_b (w := w0) (E := rE z0) (f := lnR z0 a2.toNat) (fun j hj => by have := rd_236 hz (i := 18 * a2.toNat + j) (by omega); show 0 ≤ z0 236 _ ∧ z0 236 _ ≤ _; omega) hbg.1, NZE_b h18 (by rw [← hsv]; omega) hbg.1⟩)) (by first | (intro q; exfalso; omega) | (intro _ _; have q := hao (by unfold rE; rw [show z 225 26 = z0 225 26 from hst.2.2.1 _ _ (notS_c (by omega) (notS_c (by omega) (notS_c (by omega) (notS_c (by omega) (notS_c (by omega) (notS_c (by omega) (notS_n)))))))]; exact hx1.2.2); omega)) (by first | exact as3 | exact (hfw (by omega)).2.2) (by omega))
      · intro x4 z w  hx4 hpa1 hpa2 hpa3 hz0_0 hz0_1 hst as1 as2 hM
        refine r_ld (pc' := 82) rfl rfl rfl rfl ?_
        have hb99 := rd_225_58 hst.1
        refine r_gi (pc' := 85) rfl rfl sh_225 rfl rfl ?_
        refine r_zeq (pc' := 88) rfl rfl ⟨by omega, by omega⟩ (fun hc100 => ?_) (fun hc100 => ?_)
        · skip
          refine r_ld (pc' := 95) rfl rfl rfl rfl ?_
          refine r_cVL (pc' := 98) rfl rfl rfl rfl rfl sh_225 (m_213v (d := d + 4)  hst.1 hst.2.1 (by exact (as1 (by omega)).2.1)) (fun v101 z102 w103 p104 h105 hs106 hE107 => ?_)
          obtain ⟨rfl, rfl, rfl, hE107⟩ := hE107
          refine r_al (pc' := 101) rfl rfl rfl rfl ?_
          refine r_lmul (pc' := 102) rfl rfl ?_
          refine r_ld (pc' := 104) rfl rfl rfl rfl ?_
          refine r_ldvh (pc' := 105) rfl rfl ⟨by omega, by omega⟩ (by have := as2 (by omega); omega) (fun v109 h110 => ?_)
          unfold inL at h110
          exact r_rl rfl (po_L hst ⟨by omega, by omega⟩ ⟨rfl, by omega, by omega, (by exact RV_c hz (fun i h1 h2 => hst.2.2.1 _ _ (notS_c (by omega) (notS_c (by omega) (notS_c (by omega) (notS_c (by omega) (notS_c (by omega) (notS_c (by omega) (notS_n)))))))) (fun a h1 h2 h3 => funext fun i => hst.2.2.1 _ _ (notS_c (by omega) (notS_c (by omega) (notS_c (by omega) (notS_c (by omega) (notS_c (by omega) (notS_c (by omega) (notS_n)))))))) (fun a h1 h2 => funext fun i => hst.2.2.1 _ _ (notS_c (by omega) (notS_c (by omega) (notS_c (by omega) (notS_c (by omega) (notS_c (by omega) (notS_c (by omega) (notS_n)))))))) (hst.2.2.1 _ _ (notS_c (by omega) (notS_c (by omega) (notS_c (by omega) (notS_c (by omega) (notS_c (by omega) (notS_c (by omega) (notS_n)))))))) (hst.2.2.1 _ _ (notS_c (by omega) (notS_c (by omega) (notS_c (by omega) (notS_c (by omega) (notS_c (by omega) (notS_c (by omega) (notS_n)))))))) (funext fun i => hst.2.2.1 _ _ (notS_c (by omega) (notS_c (by omega) (notS_c (by omega) (notS_c (by omega) (notS_c (by omega) (notS_c (by omega) (notS_n)))))))) (fun a h => funext fun i => hst.2.2.2 _ _ (notS_c (by omega) (notS_c (by omega) (notS_c (by omega) (notS_c (by omega) (notS_c (by omega) (notS_c (by omega) (notS_n)))))))) hrv)⟩)
        · skip
          refine r_al (pc' := 91) rfl rfl rfl rfl ?_
          refine r_go rfl ?_
          exact r_rl rfl (po_L hst ⟨by decide, by decide⟩ ⟨rfl, by omega, by omega, (by exact RV_c hz (fun i h1 h2 => hst.2.2.1 _ _ (notS_c (by omega) (notS_c (by omega) (notS_c (by omega) (notS_c (by omega) (notS_c (by omega) (notS_c (by omega) (notS_n)))))))) (fun a h1 h2 h3 => funext fun i => hst.2.2.1 _ _ (notS_c (by omega) (notS_c (by omega) (notS_c (by omega) (notS_c (by omega) (notS_c (by omega) (notS_c (by omega) (notS_n)))))))) (fun a h1 h2 => funext fun i => hst.2.2.1 _ _ (notS_c (by omega) (notS_c (by omega) (notS_c (by omega) (notS_c (by omega) (notS_c (by omega) (notS_c (by omega) (notS_n)))))))) (hst.2.2.1 _ _ (notS_c (by omega) (notS_c (by omega) (notS_c (by omega) (notS_c (by omega) (notS_c (by omega) (notS_c (by omega) (notS_n)))))))) (hst.2.2.1 _ _ (notS_c (by omega) (notS_c (by omega) (notS_c (by omega) (notS_c (by omega) (notS_c (by omega) (notS_c (by omega) (notS_n)))))))) (funext fun i => hst.2.2.1 _ _ (notS_c (by omega) (notS_c (by omega) (notS_c (by omega) (notS_c (by omega) (notS_c (by omega) (notS_c (by omega) (notS_n)))))))) (fun a h => funext fun i => hst.2.2.2 _ _ (notS_c (by omega) (notS_c (by omega) (notS_c (by omega) (notS_c (by omega) (notS_c (by omega) (notS_c (by omega) (notS_n)))))))) hrv)⟩)
  refine w_m rfl rfl ?_
  refine r_ld (pc' := 1) rfl rfl rfl rfl ?_
  refine r_ld (pc' := 2) rfl rfl rfl rfl ?_
  have hb111 := rd_225_28 hz
  refine r_cVI (pc' := 5) rfl rfl rfl rfl rfl sh_225 (m_218v (d := d + 4) a1 hst.1 hst.2.1 ⟨by omega, by omega⟩ (by exact hrv.1.2.2.1)) (fun v112 z113 w114 p115 h116 hs117 hE118 => ?_)
  obtain ⟨rfl, rfl, rfl, hE118⟩ := hE118
  have hfw := hE118.2.2
  refine r_zeq (pc' := 8) rfl rfl ⟨by omega, by omega⟩ (fun hc120 => ?_) (fun hc120 => ?_)
  · skip
    refine r_al (pc' := 39) rfl rfl rfl rfl ?_
    exact r_rl rfl (po_L hst ⟨by decide, by decide⟩ ⟨rfl, by omega, by omega, (by exact RV_c hz (fun i h1 h2 => hst.2.2.1 _ _ (notS_c (by omega) (notS_c (by omega) (notS_c (by omega) (notS_c (by omega) (notS_c (by omega) (notS_c (by omega) (notS_n)))))))) (fun a h1 h2 h3 => funext fun i => hst.2.2.1 _ _ (notS_c (by omega) (notS_c (by omega) (notS_c (by omega) (notS_c (by omega) (notS_c (by omega) (notS_c (by omega) (notS_n)))))))) (fun a h1 h2 => funext fun i => hst.2.2.1 _ _ (notS_c (by omega) (notS_c (by omega) (notS_c (by omega) (notS_c (by omega) (notS_c (by omega) (notS_c (by omega) (notS_n)))))))) (hst.2.2.1 _ _ (notS_c (by omega) (notS_c (by omega) (notS_c (by omega) (notS_c (by omega) (notS_c (by omega) (notS_c (by omega) (notS_n)))))))) (hst.2.2.1 _ _ (notS_c (by omega) (notS_c (by omega) (notS_c (by omega) (notS_c (by omega) (notS_c (by omega) (notS_c (by omega) (notS_n)))))))) (funext fun i => hst.2.2.1 _ _ (notS_c (by omega) (notS_c (by omega) (notS_c (by omega) (notS_c (by omega) (notS_c (by omega) (notS_c (by omega) (notS_n)))))))) (fun a h => funext fun i => hst.2.2.2 _ _ (notS_c (by omega) (notS_c (by omega) (notS_c (by omega) (notS_c (by omega) (notS_c (by omega) (notS_c (by omega) (notS_n)))))))) hrv)⟩)
  · skip
    refine r_ld (pc' := 9) rfl rfl rfl rfl ?_
    refine r_ld (pc' := 10) rfl rfl rfl rfl ?_
    have hb121 := rd_225_27 hz
    refine r_cVI (pc' := 13) rfl rfl rfl rfl rfl sh_225 (m_173 (d := d + 5) a2 hst.1 hst.2.1 ⟨by omega, by omega⟩) (fun v122 z123 w124 p125 h126 hs127 hE128 => ?_)
    obtain ⟨rfl, rfl, rfl, hE128⟩ := hE128
    refine r_zeq (pc' := 16) rfl rfl ⟨by omega, by omega⟩ (fun hc130 => ?_) (fun hc130 => ?_)
    · skip
      refine r_al (pc' := 39) rfl rfl rfl rfl ?_
      exact r_rl rfl (po_L hst ⟨by decide, by decide⟩ ⟨rfl, by omega, by omega, (by exact RV_c hz (fun i h1 h2 => hst.2.2.1 _ _ (notS_c (by omega) (notS_c (by omega) (notS_c (by omega) (notS_c (by omega) (notS_c (by omega) (notS_c (by omega) (notS_n)))))))) (fun a h1 h2 h3 => funext fun i => hst.2.2.1 _ _ (notS_c (by omega) (notS_c (by omega) (notS_c (by omega) (notS_c (by omega) (notS_c (by omega) (notS_c (by omega) (notS_n)))))))) (fun a h1 h2 => funext fun i => hst.2.2.1 _ _ (notS_c (by omega) (notS_c (by omega) (notS_c (by omega) (notS_c (by omega) (notS_c (by omega) (notS_c (by omega) (notS_n)))))))) (hst.2.2.1 _ _ (notS_c (by omega) (notS_c (by omega) (notS_c (by omega) (notS_c (by omega) (notS_c (by omega) (notS_c (by omega) (notS_n)))))))) (hst.2.2.1 _ _ (notS_c (by omega) (notS_c (by omega) (notS_c (by omega) (notS_c (by omega) (notS_c (by omega) (notS_c (by omega) (notS_n)))))))) (funext fun i => hst.2.2.1 _ _ (notS_c (by omega) (notS_c (by omega) (notS_c (by omega) (notS_c (by omega) (notS_c (by omega) (notS_c (by omega) (notS_n)))))))) (fun a h => funext fun i => hst.2.2.2 _ _ (notS_c (by omega) (notS_c (by omega) (notS_c (by omega) (notS_c (by omega) (notS_c (by omega) (notS_c (by omega) (notS_n)))))))) hrv)⟩)
    · skip
      refine r_ld (pc' := 17) rfl rfl rfl rfl ?_
      refine r_ld (pc' := 18) rfl rfl rfl rfl ?_
      refine r_cVL (pc' := 21) rfl rfl rfl rfl rfl sh_225 (m_181t (d := d + 4) a2 hst.1 hst.2.1 ⟨by omega, by omega⟩) (fun v131 z132 w133 p134 h135 hs136 hE137 => ?_)
      obtain ⟨rfl, rfl, rfl, hE137⟩ := hE137
      have hsv := hE137.2.2
      refine r_lc0 (pc' := 22) rfl rfl ?_
      refine r_leq (pc' := 26) rfl rfl rfl ⟨by omega, by omega⟩ ⟨by decide, by decide⟩ (fun hc139 => ?_) (fun hc139 => ?_)
      · skip
        refine r_al (pc' := 39) rfl rfl rfl rfl ?_
        exact r_rl rfl (po_L hst ⟨by decide, by decide⟩ ⟨rfl, by omega, by omega, (by exact RV_c hz (fun i h1 h2 => hst.2.2.1 _ _ (notS_c (by omega) (notS_c (by omega) (notS_c (by omega) (notS_c (by omega) (notS_c (by omega) (notS_c (by omega) (notS_n)))))))) (fun a h1 h2 h3 => funext fun i => hst.2.2.1 _ _ (notS_c (by omega) (notS_c (by omega) (notS_c (by omega) (notS_c (by omega) (notS_c (by omega) (notS_c (by omega) (notS_n)))))))) (fun a h1 h2 => funext fun i => hst.2.2.1 _ _ (notS_c (by omega) (notS_c (by omega) (notS_c (by omega) (notS_c (by omega) (notS_c (by omega) (notS_c (by omega) (notS_n)))))))) (hst.2.2.1 _ _ (notS_c (by omega) (notS_c (by omega) (notS_c (by omega) (notS_c (by omega) (notS_c (by omega) (notS_c (by omega) (notS_n)))))))) (hst.2.2.1 _ _ (notS_c (by omega) (notS_c (by omega) (notS_c (by omega) (notS_c (by omega) (notS_c (by omega) (notS_c (by omega) (notS_n)))))))) (funext fun i => hst.2.2.1 _ _ (notS_c (by omega) (notS_c (by omega) (notS_c (by omega) (notS_c (by omega) (notS_c (by omega) (notS_c (by omega) (notS_n)))))))) (fun a h => funext fun i => hst.2.2.2 _ _ (notS_c (by omega) (notS_c (by omega) (notS_c (by omega) (notS_c (by omega) (notS_c (by omega) (notS_c (by omega) (notS_n)))))))) hrv)⟩)
      · skip
        refine r_ld (pc' := 27) rfl rfl rfl rfl ?_
        refine r_zlt (pc' := 30) rfl rfl ⟨by omega, by omega⟩ (fun hc140 => ?_) (fun hc140 => ?_)
        · skip
          refine r_al (pc' := 39) rfl rfl rfl rfl ?_
          exact r_rl rfl (po_L hst ⟨by decide, by decide⟩ ⟨rfl, by omega, by omega, (by exact RV_c hz (fun i h1 h2 => hst.2.2.1 _ _ (notS_c (by omega) (notS_c (by omega) (notS_c (by omega) (notS_c (by omega) (notS_c (by omega) (notS_c (by omega) (notS_n)))))))) (fun a h1 h2 h3 => funext fun i => hst.2.2.1 _ _ (notS_c (by omega) (notS_c (by omega) (notS_c (by omega) (notS_c (by omega) (notS_c (by omega) (notS_c (by omega) (notS_n)))))))) (fun a h1 h2 => funext fun i => hst.2.2.1 _ _ (notS_c (by omega) (notS_c (by omega) (notS_c (by omega) (notS_c (by omega) (notS_c (by omega) (notS_c (by omega) (notS_n)))))))) (hst.2.2.1 _ _ (notS_c (by omega) (notS_c (by omega) (notS_c (by omega) (notS_c (by omega) (notS_c (by omega) (notS_c (by omega) (notS_n)))))))) (hst.2.2.1 _ _ (notS_c (by omega) (notS_c (by omega) (notS_c (by omega) (notS_c (by omega) (notS_c (by omega) (notS_c (by omega) (notS_n)))))))) (funext fun i => hst.2.2.1 _ _ (notS_c (by omega) (notS_c (by omega) (notS_c (by omega) (notS_c (by omega) (notS_c (by omega) (notS_c (by omega) (notS_n)))))))) (fun a h => funext fun i => hst.2.2.2 _ _ (notS_c (by omega) (notS_c (by omega) (notS_c (by omega) (notS_c (by omega) (notS_c (by omega) (notS_c (by omega) (notS_n)))))))) hrv)⟩)
        · skip
          refine r_ld (pc' := 31) rfl rfl rfl rfl ?_
          refine r_cb (pc' := 33) rfl (by decide) rfl ?_
          refine r_ile (pc' := 36) rfl rfl ⟨by omega, by omega⟩ ⟨by decide, by decide⟩ (fun hc141 => ?_) (fun hc141 => ?_)
          · skip
            refine r_ld (pc' := 41) rfl rfl rfl rfl ?_
            refine r_ld (pc' := 42) rfl rfl rfl rfl ?_
            refine r_cVV (pc' := 45) rfl rfl rfl rfl rfl sh_225 (m_212t (d := d + 4) a2 hst.1 hst.2.1 ⟨by omega, by omega⟩) (fun z143 w144 p145 hs147 hE148 => ?_)
            have hs149 := st_tr hst hs147 (sub_B rfl)
            obtain ⟨rfl, hE148⟩ := hE148
            have hbg := hE148
            refine r_lc0 (pc' := 46) rfl rfl ?_
            refine r_st (pc' := 48) (lv' := [(4, _), (0, _), (1, _), (2, _), (3, _)]) rfl rfl rfl rfl ?_
            refine r_c0 (pc' := 49) rfl rfl ?_
            refine r_st (pc' := 51) (lv' := [(6, _), (4, _), (0, _), (1, _), (2, _), (3, _)]) rfl rfl rfl rfl ?_
            have hb150 := rd_225_58 hs149.1
            exact w_lv (sub_c rfl (sub_c rfl (sub_c rfl (sub_c rfl (sub_c rfl sub_n))))) rfl ((key ((54 * (21 - 0) + 27 : Int).toNat + 1)).1 0 0 z143 w144 ⟨by omega, by omega⟩ ⟨by omega, by omega⟩ ⟨by omega, by omega⟩ ⟨by omega, by omega⟩ ⟨by omega, by omega⟩ ⟨by omega, by omega⟩ ⟨by omega, by omega⟩ hs149 (by first | (intro hq; exact ⟨(hgw hq).1, (hgw hq).2.1, (hgw hq).2.2 hx1.2.2⟩) | (intro _; exact ⟨FTw_w (z := z0) (z' := z0) (f := lnR z0 a2.toNat) hrv.1.1 rfl rfl (hrv.1.2.1 a2.toNat (by omega)).1 hbg.1, NB_b (w := w0) (E := rE z0) (f := lnR z0 a2.toNat) (fun j hj => by have := rd_236 hz (i := 18 * a2.toNat + j) (by omega); show 0 ≤ z0 236 _ ∧ z0 236 _ ≤ _; omega) hbg.1, NZE_b h18 (by rw [← hsv]; omega) hbg.1⟩)) (by first | (intro q; exfalso; omega) | (intro _ _; have q := hao (by unfold rE; rw [show z 225 26 = z0 225 26 from hst.2.2.1 _ _ (notS_c (by omega) (notS_c (by omega) (notS_c (by omega) (notS_c (by omega) (notS_c (by omega) (notS_c (by omega) (notS_n)))))))]; exact hx1.2.2); omega)) (by first | exact as3 | exact (hfw (by omega)).2.2) (by omega))
          · skip
            refine r_al (pc' := 39) rfl rfl rfl rfl ?_
            exact r_rl rfl (po_L hst ⟨by decide, by decide⟩ ⟨rfl, by omega, by omega, (by exact RV_c hz (fun i h1 h2 => hst.2.2.1 _ _ (notS_c (by omega) (notS_c (by omega) (notS_c (by omega) (notS_c (by omega) (notS_c (by omega) (notS_c (by omega) (notS_n)))))))) (fun a h1 h2 h3 => funext fun i => hst.2.2.1 _ _ (notS_c (by omega) (notS_c (by omega) (notS_c (by omega) (notS_c (by omega) (notS_c (by omega) (notS_c (by omega) (notS_n)))))))) (fun a h1 h2 => funext fun i => hst.2.2.1 _ _ (notS_c (by omega) (notS_c (by omega) (notS_c (by omega) (notS_c (by omega) (notS_c (by omega) (notS_c (by omega) (notS_n)))))))) (hst.2.2.1 _ _ (notS_c (by omega) (notS_c (by omega) (notS_c (by omega) (notS_c (by omega) (notS_c (by omega) (notS_c (by omega) (notS_n)))))))) (hst.2.2.1 _ _ (notS_c (by omega) (notS_c (by omega) (notS_c (by omega) (notS_c (by omega) (notS_c (by omega) (notS_c (by omega) (notS_n)))))))) (funext fun i => hst.2.2.1 _ _ (notS_c (by omega) (notS_c (by omega) (notS_c (by omega) (notS_c (by omega) (notS_c (by omega) (notS_c (by omega) (notS_n)))))))) (fun a h => funext fun i => hst.2.2.2 _ _ (notS_c (by omega) (notS_c (by omega) (notS_c (by omega) (notS_c (by omega) (notS_c (by omega) (notS_c (by omega) (notS_n)))))))) hrv)⟩)
