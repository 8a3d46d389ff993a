section
/-! methods, printed by wip/tools/vcg.py -/
/-- LoopGroundModel isTrue -/
abbrev S_252v  : mS := [(269, 269, 0, 17), (244, 244, 0, 18), (243, 243, 0, 17), (225, 225, 36, 36), (225, 225, 37, 37), (245, 245, 0, 17999), (225, 225, 38, 38), (225, 225, 39, 39), (225, 225, 40, 40), (225, 225, 42, 42), (246, 246, 0, 17999), (273, 273, 0, 17), (270, 270, 0, 17)]
abbrev E_252v  (z0 w0 : mZ) (x y tx it mt tt ct : Option Nat) : Int → mZ → mZ → mP → Prop := fun v z w p => p = (pq x y tx it mt tt ct) ∧ 0 ≤ v ∧ v ≤ 1 ∧ (w 270 = w0 270)
theorem m_252v {d : Nat} {z0 w0 : mZ} {x y tx it mt tt ct : Option Nat}  (hz : rz z0) (hw : rw_ w0) (hrv : RV z0 w0) (hq : z0 225 77 + z0 225 76 ≤ 1600) : wc (d + 7) 252 [.ref 225] (mk z0 w0 (pq x y tx it mt tt ct)) (poI S_252v z0 w0 (E_252v  z0 w0 x y tx it mt tt ct)) := by
  have hst : st_ S_252v z0 w0 z0 w0 := st_rf hz hw
  have hz91 := rd_225_76 hz
  have hz92 := rd_225_77 hz
  have h18 := rE18 hz
  have h76 := rd_225_76 hz
  have h77 := rd_225_77 hz
  have key : ∀ N : Nat, (∀ (x1 : Int) (z w : mZ), 0 ≤ x1 ∧ x1 ≤ 18 → 1 ≤ z0 225 76 ∧ z0 225 76 ≤ 1600 → st_ S_252v z0 w0 z w → z 225 36 = z0 225 36 → z 225 37 = z0 225 37 → z 225 38 = z0 225 38 → z 225 39 = z0 225 39 → z 225 40 = z0 225 40 → z 225 42 = z0 225 42 → (∀ j : Nat, (j : Int) < x1 → z 269 j = 0) → (w 270 = w0 270) → 136 * (18 - x1) + 441312 < (N : Int) → wp_ (d + 6) 252 4 (some .boolean) (11, [(0, .ref 225), (1, .int (Int32.ofInt x1))], [], mk z w (pq x y tx it mt tt ct)) (poI S_252v z0 w0 (E_252v  z0 w0 x y tx it mt tt ct))) ∧ (∀ (x1 : Int) (z w : mZ), 0 ≤ x1 ∧ x1 ≤ 1600 → 1 ≤ z0 225 76 ∧ z0 225 76 ≤ 1600 → st_ S_252v z0 w0 z w → z 225 36 = z0 225 36 → z 225 37 = z0 225 37 → z 225 38 = z0 225 38 → z 225 39 = z0 225 39 → z 225 40 = z0 225 40 → z 225 42 = z0 225 42 → (sm (z 269) 18 = x1) → (x1 ≤ z0 225 76) → (w 270 = w0 270) → 136 * (1600 - x1) + 223428 < (N : Int) → wp_ (d + 6) 252 4 (some .boolean) (32, [(0, .ref 225), (1, .int (Int32.ofInt x1))], [], mk z w (pq x y tx it mt tt ct)) (poI S_252v z0 w0 (E_252v  z0 w0 x y tx it mt tt ct))) ∧ (∀ (x1 : Int) (z w : mZ), 0 ≤ x1 ∧ x1 ≤ 18 → 1 ≤ z0 225 76 ∧ z0 225 76 ≤ 1600 → st_ S_252v z0 w0 z w → z 225 36 = z0 225 36 → z 225 37 = z0 225 37 → z 225 38 = z0 225 38 → z 225 39 = z0 225 39 → z 225 40 = z0 225 40 → z 225 42 = z0 225 42 → (FTw z0 (z 269) ∧ sm (z 269) 18 ≤ 1600) → (∀ e : Nat, (e : Int) < x1 → w 270 e = z 269 e ∧ w 273 e = w0 270 e) → (∀ e : Nat, x1 ≤ (e : Int) → w 270 e = w0 270 e) → 136 * (18 - x1) + 220678 < (N : Int) → wp_ (d + 6) 252 4 (some .boolean) (82, [(0, .ref 225), (1, .int (Int32.ofInt x1))], [], mk z w (pq x y tx it mt tt ct)) (poI S_252v z0 w0 (E_252v  z0 w0 x y tx it mt tt ct))) ∧ (∀ (x1 x2 : Int) (z w : mZ), 0 ≤ x1 ∧ x1 ≤ 1 → 0 ≤ x2 ∧ x2 ≤ 18 → 1 ≤ z0 225 76 ∧ z0 225 76 ≤ 1600 → st_ S_252v z0 w0 z w → (∀ e : Nat, e < 18 → w 273 e = w0 270 e) → (∀ e : Nat, (e : Int) < x2 → w 270 e = w0 270 e) → 136 * (18 - x2) + 217925 < (N : Int) → wp_ (d + 6) 252 4 (some .boolean) (136, [(0, .ref 225), (1, .int (Int32.ofInt x1)), (2, .int (Int32.ofInt x2))], [], mk z w (pq x y tx it mt tt ct)) (poI S_252v z0 w0 (E_252v  z0 w0 x y tx it mt tt ct))) ∧ (∀ (z w : mZ), 1 ≤ z0 225 76 ∧ z0 225 76 ≤ 1600 → st_ S_252v z0 w0 z w → (w 270 = w0 270) → 217903 < (N : Int) → wp_ (d + 6) 252 4 (some .boolean) (179, [(0, .ref 225)], [], mk z w (pq x y tx it mt tt ct)) (poI S_252v z0 w0 (E_252v  z0 w0 x y tx it mt tt ct))) ∧ (∀ (x1 x2 x3 : Int) (z w : mZ), 0 ≤ x1 ∧ x1 ≤ 1 → 0 ≤ x2 ∧ x2 ≤ 1 → 0 ≤ x3 ∧ x3 ≤ 1600 → 1 ≤ z0 225 76 ∧ z0 225 76 ≤ 1600 → st_ S_252v z0 w0 z w → (w 270 = w0 270) → (x3 ≤ z0 225 76) → 136 * (1600 - x3) + 25 < (N : Int) → wp_ (d + 6) 252 4 (some .boolean) (185, [(0, .ref 225), (1, .int (Int32.ofInt x1)), (2, .int (Int32.ofInt x2)), (3, .int (Int32.ofInt x3))], [], mk z w (pq x y tx it mt tt ct)) (poI S_252v z0 w0 (E_252v  z0 w0 x y tx it mt tt ct))) ∧ (∀ (x1 x3 : Int) (z w : mZ), 0 ≤ x1 ∧ x1 ≤ 1 → 0 ≤ x3 ∧ x3 ≤ 1599 → 1 ≤ z0 225 76 ∧ z0 225 76 ≤ 1600 → st_ S_252v z0 w0 z w → (w 270 = w0 270) → (x3 < z0 225 76) → 136 * (1600 - x3) + 6 < (N : Int) → wp_ (d + 6) 252 4 (some .boolean) (219, [(0, .ref 225), (1, .int (Int32.ofInt x1)), (3, .int (Int32.ofInt x3))], [], mk z w (pq x y tx it mt tt ct)) (poI S_252v z0 w0 (E_252v  z0 w0 x y tx it mt tt ct))) := by
    intro N
    induction N with
    | zero =>
      refine ⟨?_, ?_, ?_, ?_, ?_, ?_, ?_⟩
      · intro x1 z w
        intros; exfalso; omega
      · intro x1 z w
        intros; exfalso; omega
      · intro x1 z w
        intros; exfalso; omega
      · intro x1 x2 z w
        intros; exfalso; omega
      · intro  z w
        intros; exfalso; omega
      · intro x1 x2 x3 z w
        intros; exfalso; omega
      · intro x1 x3 z w
        intros; exfalso; omega
    | succ N ih =>
      obtain ⟨ih0, ih1, ih2, ih3, ih4, ih5, ih6⟩ := ih
      refine ⟨?_, ?_, ?_, ?_, ?_, ?_, ?_⟩
      · intro x1 z w  hx1 hz0_0 hst un_z_225_36 un_z_225_37 un_z_225_38 un_z_225_39 un_z_225_40 un_z_225_42 as1 as9 hM
        refine r_ld (pc' := 12) rfl rfl rfl rfl ?_
        refine r_cb (pc' := 14) rfl (by decide) rfl ?_
        refine r_ige (pc' := 17) rfl rfl ⟨by omega, by omega⟩ ⟨by decide, by decide⟩ (fun hc93 => ?_) (fun hc93 => ?_)
        · skip
          refine r_c0 (pc' := 31) rfl rfl ?_
          refine r_st (pc' := 32) (lv' := [(1, _), (0, _)]) rfl rfl rfl rfl ?_
          have hb94 := rd_225_36 hz
          have hb95 := rd_225_37 hz
          have hb96 := rd_225_38 hz
          have hb97 := rd_225_39 hz
          have hb98 := rd_225_40 hz
          have hb99 := rd_225_42 hz
          exact w_lv (sub_c rfl (sub_c rfl sub_n)) rfl (ih1 0 z w ⟨by omega, by omega⟩ ⟨by omega, by omega⟩ hst (un_z_225_36) (un_z_225_37) (un_z_225_38) (un_z_225_39) (un_z_225_40) (un_z_225_42) (by first | exact hs2 | exact sm_z 18 (fun j hj => as1 j (by omega))) (by first | omega | assumption) (by exact as9) (by omega))
        · skip
          refine r_ld (pc' := 18) rfl rfl rfl rfl ?_
          refine r_gr (b := 269) (pc' := 21) rfl rfl sh_225 rfl pp_225_69 ?_
          refine r_ld (pc' := 22) rfl rfl rfl rfl ?_
          refine r_c0 (pc' := 23) rfl rfl ?_
          refine r_is (pc' := 24) rfl rfl sh_269 rfl (by omega) (by omega) hst (inS_0 (by omega) (by omega) (by omega) (by omega)) (wr_269 ⟨by omega, by omega⟩) (fun z100 hq101 hs102 => ?_)
          have hqt := hq101
          refine r_inc (pc' := 27) (lv' := [(0, _)]) rfl rfl rfl rfl rfl ?_
          refine r_go rfl ?_
          have hb103 := rd_225_36 hz
          have hb104 := rd_225_37 hz
          have hb105 := rd_225_38 hz
          have hb106 := rd_225_39 hz
          have hb107 := rd_225_40 hz
          have hb108 := rd_225_42 hz
          exact w_lv (sub_c rfl (sub_c rfl sub_n)) rfl (ih0 (x1 + 1) z100 w ⟨by omega, by omega⟩ ⟨by omega, by omega⟩ hs102 ((((congrFun (congrFun hq101 _) _).trans (mu_ne (by omega))).trans un_z_225_36)) ((((congrFun (congrFun hq101 _) _).trans (mu_ne (by omega))).trans un_z_225_37)) ((((congrFun (congrFun hq101 _) _).trans (mu_ne (by omega))).trans un_z_225_38)) ((((congrFun (congrFun hq101 _) _).trans (mu_ne (by omega))).trans un_z_225_39)) ((((congrFun (congrFun hq101 _) _).trans (mu_ne (by omega))).trans un_z_225_40)) ((((congrFun (congrFun hq101 _) _).trans (mu_ne (by omega))).trans un_z_225_42)) (by first | (intro j hj; exfalso; omega) | (intro j hj; rw [hqt]; by_cases c : j = x1.toNat; (subst c; exact mu_eq); (rw [mu_ne (by omega)]; exact as1 j (by omega)))) (by first | exact as9 | rfl) (by omega))
      · intro x1 z w  hx1 hz0_0 hst un_z_225_36 un_z_225_37 un_z_225_38 un_z_225_39 un_z_225_40 un_z_225_42 as1 as2 as9 hM
        refine r_ld (pc' := 33) rfl rfl rfl rfl ?_
        refine r_ld (pc' := 34) rfl rfl rfl rfl ?_
        refine r_gi (pc' := 37) rfl rfl sh_225 rfl (hst.2.2.1 _ _ (notS_c (by omega) (notS_c (by omega) (notS_c (by omega) (notS_c (by omega) (notS_c (by omega) (notS_c (by omega) (notS_c (by omega) (notS_c (by omega) (notS_c (by omega) (notS_c (by omega) (notS_c (by omega) (notS_c (by omega) (notS_c (by omega) notS_n)))))))))))))) ?_
        refine r_ige (pc' := 40) rfl rfl ⟨by omega, by omega⟩ ⟨by omega, by omega⟩ (fun hc109 => ?_) (fun hc109 => ?_)
        · skip
          refine r_ld (pc' := 72) rfl rfl rfl rfl ?_
          have hRW : RW z := RW_c (hst.2.2.1 _ _ (notS_c (by omega) (notS_c (by omega) (notS_c (by omega) (notS_c (by omega) (notS_c (by omega) (notS_c (by omega) (notS_c (by omega) (notS_c (by omega) (notS_c (by omega) (notS_c (by omega) (notS_c (by omega) (notS_c (by omega) (notS_c (by omega) (notS_n))))))))))))))) (funext fun i => hst.2.2.1 _ _ (notS_c (by omega) (notS_c (by omega) (notS_c (by omega) (notS_c (by omega) (notS_c (by omega) (notS_c (by omega) (notS_c (by omega) (notS_c (by omega) (notS_c (by omega) (notS_c (by omega) (notS_c (by omega) (notS_c (by omega) (notS_c (by omega) (notS_n))))))))))))))) (funext fun i => hst.2.2.1 _ _ (notS_c (by omega) (notS_c (by omega) (notS_c (by omega) (notS_c (by omega) (notS_c (by omega) (notS_c (by omega) (notS_c (by omega) (notS_c (by omega) (notS_c (by omega) (notS_c (by omega) (notS_c (by omega) (notS_c (by omega) (notS_c (by omega) (notS_n))))))))))))))) (funext fun i => hst.2.2.1 _ _ (notS_c (by omega) (notS_c (by omega) (notS_c (by omega) (notS_c (by omega) (notS_c (by omega) (notS_c (by omega) (notS_c (by omega) (notS_c (by omega) (notS_c (by omega) (notS_c (by omega) (notS_c (by omega) (notS_c (by omega) (notS_c (by omega) (notS_n))))))))))))))) hrv.1.1
          refine r_cVI (pc' := 75) rfl rfl rfl rfl rfl sh_225 (m_231v (d := d + 5)  hst.1 hst.2.1 (by exact hRW)) (fun v110 z111 w112 p113 h114 hs115 hE116 => ?_)
          obtain ⟨rfl, rfl, rfl, hE116⟩ := hE116
          have htf := hE116.2.2
          refine r_zne (pc' := 78) rfl rfl ⟨by omega, by omega⟩ (fun hc118 => ?_) (fun hc118 => ?_)
          · skip
            refine r_c0 (pc' := 81) rfl rfl ?_
            refine r_st (pc' := 82) (lv' := [(1, _), (0, _)]) rfl rfl rfl rfl ?_
            have hb119 := rd_225_36 hz
            have hb120 := rd_225_37 hz
            have hb121 := rd_225_38 hz
            have hb122 := rd_225_39 hz
            have hb123 := rd_225_40 hz
            have hb124 := rd_225_42 hz
            exact w_lv (sub_c rfl (sub_c rfl sub_n)) rfl (ih2 0 z w ⟨by omega, by omega⟩ ⟨by omega, by omega⟩ hst (un_z_225_36) (un_z_225_37) (un_z_225_38) (un_z_225_39) (un_z_225_40) (un_z_225_42) (by first | exact as0 | exact ⟨FTw_c (z := z) ((hst.2.2.1 _ _ (notS_c (by omega) (notS_c (by omega) (notS_c (by omega) (notS_c (by omega) (notS_c (by omega) (notS_c (by omega) (notS_c (by omega) (notS_c (by omega) (notS_c (by omega) (notS_c (by omega) (notS_c (by omega) (notS_c (by omega) (notS_c (by omega) (notS_n))))))))))))))).symm) (funext fun i => (hst.2.2.1 _ _ (notS_c (by omega) (notS_c (by omega) (notS_c (by omega) (notS_c (by omega) (notS_c (by omega) (notS_c (by omega) (notS_c (by omega) (notS_c (by omega) (notS_c (by omega) (notS_c (by omega) (notS_c (by omega) (notS_c (by omega) (notS_c (by omega) (notS_n))))))))))))))).symm) (rE18 hst.1) (fun _ _ => rfl) (htf (by omega)), by rw [as1]; omega⟩) (by first | (intro e he; exfalso; omega) | (intro e he; by_cases c : e = x1.toNat; (subst c; exact ⟨by rw [hqb, mu_eq], by rw [hqb, mu_ne (by omega), hqa, mu_eq]; exact as2 _ (by omega)⟩); (rw [hqb, mu_ne (by omega), mu_ne (by omega), hqa, mu_ne (by omega), mu_ne (by omega)]; exact as1 e (by omega)))) (by first | exact fun e _ => congrFun as9 e | (intro e he; rw [hqb, mu_ne (by omega), hqa, mu_ne (by omega)]; exact as2 e (by omega))) (by omega))
          · skip
            refine r_c0 (pc' := 79) rfl rfl ?_
            exact r_rz rfl (by omega) (po_I hst ⟨by decide, by decide⟩ ⟨rfl, by omega, by omega, (by exact as9)⟩)
        · skip
          refine r_ld (pc' := 41) rfl rfl rfl rfl ?_
          refine r_gr (b := 269) (pc' := 44) rfl rfl sh_225 rfl pp_225_69 ?_
          refine r_ld (pc' := 45) rfl rfl rfl rfl ?_
          refine r_gr (b := 235) (pc' := 48) rfl rfl sh_225 rfl pp_225_18 ?_
          refine r_ld (pc' := 49) rfl rfl rfl rfl ?_
          refine r_gr (b := 272) (pc' := 52) rfl rfl sh_225 rfl pp_225_75 ?_
          refine r_ld (pc' := 53) rfl rfl rfl rfl ?_
          have hb125 := rd_225_77 hz
          refine r_gi (pc' := 56) rfl rfl sh_225 rfl (hst.2.2.1 _ _ (notS_c (by omega) (notS_c (by omega) (notS_c (by omega) (notS_c (by omega) (notS_c (by omega) (notS_c (by omega) (notS_c (by omega) (notS_c (by omega) (notS_c (by omega) (notS_c (by omega) (notS_c (by omega) (notS_c (by omega) (notS_c (by omega) notS_n)))))))))))))) ?_
          refine r_ld (pc' := 57) rfl rfl rfl rfl ?_
          refine r_add (pc' := 58) rfl rfl ?_
          have hb126 := rd_272 hz (i := ((z0 225 77) + x1).toNat) (by omega)
          refine r_ia (pc' := 59) rfl rfl sh_272 rfl (by omega) (by omega) (hst.2.2.1 _ _ (notS_c (by omega) (notS_c (by omega) (notS_c (by omega) (notS_c (by omega) (notS_c (by omega) (notS_c (by omega) (notS_c (by omega) (notS_c (by omega) (notS_c (by omega) (notS_c (by omega) (notS_c (by omega) (notS_c (by omega) (notS_c (by omega) notS_n)))))))))))))) ?_
          have hb127 := rd_235 hz (i := (z0 272 ((z0 225 77) + x1).toNat).toNat) (by omega)
          refine r_ia (pc' := 60) rfl rfl sh_235 rfl (by omega) (by omega) (hst.2.2.1 _ _ (notS_c (by omega) (notS_c (by omega) (notS_c (by omega) (notS_c (by omega) (notS_c (by omega) (notS_c (by omega) (notS_c (by omega) (notS_c (by omega) (notS_c (by omega) (notS_c (by omega) (notS_c (by omega) (notS_c (by omega) (notS_c (by omega) notS_n)))))))))))))) ?_
          have hsa := sm_at (f := z 269) (k := (z0 235 (z0 272 (z0 225 77 + x1).toNat).toNat).toNat) 18 (by omega) (fun j hj => (rd_269 hst.1 (i := j) hj).1)
          refine r_al (pc' := 61) rfl rfl rfl rfl ?_
          have hb128 := rd_269 hst.1 (i := (z0 235 (z0 272 ((z0 225 77) + x1).toNat).toNat).toNat) (by omega)
          refine r_ia (pc' := 62) rfl rfl sh_269 rfl (by omega) (by omega) rfl ?_
          refine r_c0 (pc' := 63) rfl rfl ?_
          refine r_add (pc' := 64) rfl rfl ?_
          refine r_is (pc' := 65) rfl rfl sh_269 rfl (by omega) (by omega) hst (inS_0 (by omega) (by omega) (by omega) (by omega)) (wr_269 ⟨by omega, by omega⟩) (fun z129 hq130 hs131 => ?_)
          have hqt := hq130
          have hs2 : sm (z129 269) 18 = x1 + 1 := by
            rw [sm_u (f := z 269) (g := z129 269) (i := (z0 235 (z0 272 (z0 225 77 + x1).toNat).toNat).toNat) (fun j hj => by rw [hqt]; exact mu_ne (by omega)) 18 (by omega), as1, show z129 269 (z0 235 (z0 272 (z0 225 77 + x1).toNat).toNat).toNat = z 269 (z0 235 (z0 272 (z0 225 77 + x1).toNat).toNat).toNat + 1 from by rw [hqt]; exact mu_eq]; omega
          refine r_inc (pc' := 68) (lv' := [(0, _)]) rfl rfl rfl rfl rfl ?_
          refine r_go rfl ?_
          have hb132 := rd_225_36 hz
          have hb133 := rd_225_37 hz
          have hb134 := rd_225_38 hz
          have hb135 := rd_225_39 hz
          have hb136 := rd_225_40 hz
          have hb137 := rd_225_42 hz
          exact w_lv (sub_c rfl (sub_c rfl sub_n)) rfl (ih1 (x1 + 1) z129 w ⟨by omega, by omega⟩ ⟨by omega, by omega⟩ hs131 ((((congrFun (congrFun hq130 _) _).trans (mu_ne (by omega))).trans un_z_225_36)) ((((congrFun (congrFun hq130 _) _).trans (mu_ne (by omega))).trans un_z_225_37)) ((((congrFun (congrFun hq130 _) _).trans (mu_ne (by omega))).trans un_z_225_38)) ((((congrFun (congrFun hq130 _) _).trans (mu_ne (by omega))).trans un_z_225_39)) ((((congrFun (congrFun hq130 _) _).trans (mu_ne (by omega))).trans un_z_225_40)) ((((congrFun (congrFun hq130 _) _).trans (mu_ne (by omega))).trans un_z_225_42)) (by first | exact hs2 | exact sm_z 18 (fun j hj => as1 j (by omega))) (by first | omega | assumption) (by exact as9) (by omega))
      · intro x1 z w  hx1 hz0_0 hst un_z_225_36 un_z_225_37 un_z_225_38 un_z_225_39 un_z_225_40 un_z_225_42 as0 as1 as2 hM
        refine r_ld (pc' := 83) rfl rfl rfl rfl ?_
        refine r_cb (pc' := 85) rfl (by decide) rfl ?_
        refine r_ige (pc' := 88) rfl rfl ⟨by omega, by omega⟩ ⟨by decide, by decide⟩ (fun hc138 => ?_) (fun hc138 => ?_)
        · skip
          refine r_ld (pc' := 120) rfl rfl rfl rfl ?_
          refine r_c0 (pc' := 121) rfl rfl ?_
          have hRW : RW z := RW_c (hst.2.2.1 _ _ (notS_c (by omega) (notS_c (by omega) (notS_c (by omega) (notS_c (by omega) (notS_c (by omega) (notS_c (by omega) (notS_c (by omega) (notS_c (by omega) (notS_c (by omega) (notS_c (by omega) (notS_c (by omega) (notS_c (by omega) (notS_c (by omega) (notS_n))))))))))))))) (funext fun i => hst.2.2.1 _ _ (notS_c (by omega) (notS_c (by omega) (notS_c (by omega) (notS_c (by omega) (notS_c (by omega) (notS_c (by omega) (notS_c (by omega) (notS_c (by omega) (notS_c (by omega) (notS_c (by omega) (notS_c (by omega) (notS_c (by omega) (notS_c (by omega) (notS_n))))))))))))))) (funext fun i => hst.2.2.1 _ _ (notS_c (by omega) (notS_c (by omega) (notS_c (by omega) (notS_c (by omega) (notS_c (by omega) (notS_c (by omega) (notS_c (by omega) (notS_c (by omega) (notS_c (by omega) (notS_c (by omega) (notS_c (by omega) (notS_c (by omega) (notS_c (by omega) (notS_n))))))))))))))) (funext fun i => hst.2.2.1 _ _ (notS_c (by omega) (notS_c (by omega) (notS_c (by omega) (notS_c (by omega) (notS_c (by omega) (notS_c (by omega) (notS_c (by omega) (notS_c (by omega) (notS_c (by omega) (notS_c (by omega) (notS_c (by omega) (notS_c (by omega) (notS_c (by omega) (notS_n))))))))))))))) hrv.1.1
          have hFT : FTw z (w 270) := FTw_c (z := z0) (n := z 269) (hst.2.2.1 _ _ (notS_c (by omega) (notS_c (by omega) (notS_c (by omega) (notS_c (by omega) (notS_c (by omega) (notS_c (by omega) (notS_c (by omega) (notS_c (by omega) (notS_c (by omega) (notS_c (by omega) (notS_c (by omega) (notS_c (by omega) (notS_c (by omega) (notS_n))))))))))))))) (funext fun i => hst.2.2.1 _ _ (notS_c (by omega) (notS_c (by omega) (notS_c (by omega) (notS_c (by omega) (notS_c (by omega) (notS_c (by omega) (notS_c (by omega) (notS_c (by omega) (notS_c (by omega) (notS_c (by omega) (notS_c (by omega) (notS_c (by omega) (notS_c (by omega) (notS_n))))))))))))))) h18 (fun e he => (as1 e (by omega)).1) as0.1
          have hs8 : sm (w 270) 18 ≤ 18000 := by rw [sm_c (f := z 269) 18 (fun j hj => (as1 j (by omega)).1)]; have := as0.2; omega
          have w273 : ∀ e : Nat, e < 18 → w 273 e = w0 270 e := fun e he => (as1 e (by omega)).2
          have hb139 := rd_225_26 hz
          have hf140 : z 225 26 = z0 225 26 := (hst.2.2.1 _ _ (notS_c (by omega) (notS_c (by omega) (notS_c (by omega) (notS_c (by omega) (notS_c (by omega) (notS_c (by omega) (notS_c (by omega) (notS_c (by omega) (notS_c (by omega) (notS_c (by omega) (notS_c (by omega) (notS_c (by omega) (notS_c (by omega) notS_n))))))))))))))
          have hF141 : z 235 = z0 235 := (funext fun _ => hst.2.2.1 _ _ (notS_c (by omega) (notS_c (by omega) (notS_c (by omega) (notS_c (by omega) (notS_c (by omega) (notS_c (by omega) (notS_c (by omega) (notS_c (by omega) (notS_c (by omega) (notS_c (by omega) (notS_c (by omega) (notS_c (by omega) (notS_c (by omega) notS_n))))))))))))))
          have hF142 : z 241 = z0 241 := (funext fun _ => hst.2.2.1 _ _ (notS_c (by omega) (notS_c (by omega) (notS_c (by omega) (notS_c (by omega) (notS_c (by omega) (notS_c (by omega) (notS_c (by omega) (notS_c (by omega) (notS_c (by omega) (notS_c (by omega) (notS_c (by omega) (notS_c (by omega) (notS_c (by omega) notS_n))))))))))))))
          refine r_cVI (pc' := 124) rfl rfl rfl rfl rfl sh_225 (m_190n (d := d) ((-1)) hst.1 hst.2.1 ⟨by omega, by omega⟩ (by exact hRW) (by exact hFT)) (fun v143 z144 w145 p146 h147 hs148 hE149 => ?_)
          have hs150 := st_tr hst hs148 (sub_B rfl)
          obtain ⟨rfl, hE149⟩ := hE149
          refine r_st (pc' := 125) (lv' := [(1, _), (0, _)]) rfl rfl rfl rfl ?_
          refine r_ld (pc' := 126) rfl rfl rfl rfl ?_
          refine r_zeq (pc' := 129) rfl rfl ⟨by omega, by omega⟩ (fun hc151 => ?_) (fun hc151 => ?_)
          · skip
            refine r_c0 (pc' := 135) rfl rfl ?_
            refine r_st (pc' := 136) (lv' := [(2, _), (1, _), (0, _)]) rfl rfl rfl rfl ?_
            exact w_lv (sub_c rfl (sub_c rfl (sub_c rfl sub_n))) rfl (ih3 v143 0 z144 w145 ⟨by omega, by omega⟩ ⟨by omega, by omega⟩ ⟨by omega, by omega⟩ hs150 (by first | (intro e he; rw [hqr, mu_ne (by omega)]; exact as1 e he) | (intro e he; rw [show w145 273 e = w 273 e from (hs148.2.2.2 _ _ (notS_c (by omega) (notS_c (by omega) (notS_c (by omega) (notS_c (by omega) (notS_c (by omega) (notS_c (by omega) (notS_c (by omega) (notS_c (by omega) notS_n)))))))))]; exact w273 e he)) (by first | (intro e he; exfalso; omega) | (intro e he; rw [hqr]; by_cases c : e = x2.toNat; (subst c; rw [mu_eq]; exact as1 _ (by omega)); (rw [mu_ne (by omega)]; exact as2 e (by omega)))) (by omega))
          · skip
            refine r_ld (pc' := 130) rfl rfl rfl rfl ?_
            refine r_c0 (pc' := 131) rfl rfl ?_
            have c26 : z144 225 26 = z 225 26 := (hs148.2.2.1 _ _ (notS_c (by omega) (notS_c (by omega) (notS_c (by omega) (notS_c (by omega) (notS_c (by omega) (notS_c (by omega) (notS_c (by omega) (notS_c (by omega) notS_n)))))))))
            have c235 : z144 235 = z 235 := funext fun i => (hs148.2.2.1 _ _ (notS_c (by omega) (notS_c (by omega) (notS_c (by omega) (notS_c (by omega) (notS_c (by omega) (notS_c (by omega) (notS_c (by omega) (notS_c (by omega) notS_n)))))))))
            have c240 : z144 240 = z 240 := funext fun i => (hs148.2.2.1 _ _ (notS_c (by omega) (notS_c (by omega) (notS_c (by omega) (notS_c (by omega) (notS_c (by omega) (notS_c (by omega) (notS_c (by omega) (notS_c (by omega) notS_n)))))))))
            have c241 : z144 241 = z 241 := funext fun i => (hs148.2.2.1 _ _ (notS_c (by omega) (notS_c (by omega) (notS_c (by omega) (notS_c (by omega) (notS_c (by omega) (notS_c (by omega) (notS_c (by omega) (notS_c (by omega) notS_n)))))))))
            have d270 : w145 270 = w 270 := funext fun i => (hs148.2.2.2 _ _ (notS_c (by omega) (notS_c (by omega) (notS_c (by omega) (notS_c (by omega) (notS_c (by omega) (notS_c (by omega) (notS_c (by omega) (notS_c (by omega) notS_n)))))))))
            have hf152 : z144 225 26 = z0 225 26 := ((hs148.2.2.1 _ _ (notS_c (by omega) (notS_c (by omega) (notS_c (by omega) (notS_c (by omega) (notS_c (by omega) (notS_c (by omega) (notS_c (by omega) (notS_c (by omega) notS_n))))))))).trans (hst.2.2.1 _ _ (notS_c (by omega) (notS_c (by omega) (notS_c (by omega) (notS_c (by omega) (notS_c (by omega) (notS_c (by omega) (notS_c (by omega) (notS_c (by omega) (notS_c (by omega) (notS_c (by omega) (notS_c (by omega) (notS_c (by omega) (notS_c (by omega) notS_n)))))))))))))))
            have hF153 : z144 235 = z0 235 := ((funext fun _ => hs148.2.2.1 _ _ (notS_c (by omega) (notS_c (by omega) (notS_c (by omega) (notS_c (by omega) (notS_c (by omega) (notS_c (by omega) (notS_c (by omega) (notS_c (by omega) notS_n))))))))).trans (funext fun _ => hst.2.2.1 _ _ (notS_c (by omega) (notS_c (by omega) (notS_c (by omega) (notS_c (by omega) (notS_c (by omega) (notS_c (by omega) (notS_c (by omega) (notS_c (by omega) (notS_c (by omega) (notS_c (by omega) (notS_c (by omega) (notS_c (by omega) (notS_c (by omega) notS_n)))))))))))))))
            have hF154 : w145 270 = w 270 := (funext fun _ => hs148.2.2.2 _ _ (notS_c (by omega) (notS_c (by omega) (notS_c (by omega) (notS_c (by omega) (notS_c (by omega) (notS_c (by omega) (notS_c (by omega) (notS_c (by omega) notS_n)))))))))
            refine r_cVV (pc' := 134) rfl rfl rfl rfl rfl sh_225 (m_193n (d := d + 2) ((-1)) hs150.1 hs150.2.1 ⟨by omega, by omega⟩ (by exact RW_c c26 c235 c240 c241 hRW) (by rw [d270]; exact FTw_c (z := z) (n := w 270) c26 c235 (rE18 hst.1) (fun _ _ => rfl) hFT) (by rw [d270]; exact Int.le_trans (sm_trle 18 (fun j hj => (rd_270 hst.2.1 (i := j) hj).1)) hs8)) (fun z156 w157 p158 hs160 hE161 => ?_)
            have hs162 := st_tr hs150 hs160 (sub_B rfl)
            obtain rfl := hE161
            refine r_c0 (pc' := 135) rfl rfl ?_
            refine r_st (pc' := 136) (lv' := [(2, _), (1, _), (0, _)]) rfl rfl rfl rfl ?_
            exact w_lv (sub_c rfl (sub_c rfl (sub_c rfl sub_n))) rfl (ih3 v143 0 z156 w157 ⟨by omega, by omega⟩ ⟨by omega, by omega⟩ ⟨by omega, by omega⟩ hs162 (by first | (intro e he; rw [hqr, mu_ne (by omega)]; exact as1 e he) | (intro e he; rw [show w157 273 e = w 273 e from ((hs160.2.2.2 _ _ (notS_c (by omega) (notS_c (by omega) (notS_c (by omega) (notS_c (by omega) (notS_c (by omega) (notS_c (by omega) (notS_c (by omega) notS_n)))))))).trans (hs148.2.2.2 _ _ (notS_c (by omega) (notS_c (by omega) (notS_c (by omega) (notS_c (by omega) (notS_c (by omega) (notS_c (by omega) (notS_c (by omega) (notS_c (by omega) notS_n))))))))))]; exact w273 e he)) (by first | (intro e he; exfalso; omega) | (intro e he; rw [hqr]; by_cases c : e = x2.toNat; (subst c; rw [mu_eq]; exact as1 _ (by omega)); (rw [mu_ne (by omega)]; exact as2 e (by omega)))) (by omega))
        · skip
          refine r_ld (pc' := 89) rfl rfl rfl rfl ?_
          refine r_gr (b := 273) (pc' := 92) rfl rfl sh_225 rfl pp_225_78 ?_
          refine r_ld (pc' := 93) rfl rfl rfl rfl ?_
          refine r_ld (pc' := 94) rfl rfl rfl rfl ?_
          refine r_gr (b := 270) (pc' := 97) rfl rfl sh_225 rfl pp_225_71 ?_
          refine r_ld (pc' := 98) rfl rfl rfl rfl ?_
          have hb163 := rd_270 hst.2.1 (i := x1.toNat) (by omega)
          refine r_la (pc' := 99) rfl rfl sh_270 rfl (by omega) (by omega) rfl ?_
          refine r_ls (pc' := 100) rfl rfl sh_273 rfl (by omega) (by omega) hst (inS_s (inS_s (inS_s (inS_s (inS_s (inS_s (inS_s (inS_s (inS_s (inS_s (inS_s (inS_0 (by omega) (by omega) (by omega) (by omega))))))))))))) (wr_273 ⟨by omega, by omega⟩) (fun w164 hq165 hs166 => ?_)
          have hqa := hq165
          refine r_ld (pc' := 101) rfl rfl rfl rfl ?_
          refine r_gr (b := 270) (pc' := 104) rfl rfl sh_225 rfl pp_225_71 ?_
          refine r_ld (pc' := 105) rfl rfl rfl rfl ?_
          refine r_ld (pc' := 106) rfl rfl rfl rfl ?_
          refine r_gr (b := 269) (pc' := 109) rfl rfl sh_225 rfl pp_225_69 ?_
          refine r_ld (pc' := 110) rfl rfl rfl rfl ?_
          have hb167 := rd_269 hst.1 (i := x1.toNat) (by omega)
          refine r_ia (pc' := 111) rfl rfl sh_269 rfl (by omega) (by omega) rfl ?_
          refine r_i2l (pc' := 112) rfl rfl ⟨by omega, by omega⟩ ?_
          refine r_ls (pc' := 113) rfl rfl sh_270 rfl (by omega) (by omega) hs166 (inS_s (inS_s (inS_s (inS_s (inS_s (inS_s (inS_s (inS_s (inS_s (inS_s (inS_s (inS_s (inS_0 (by omega) (by omega) (by omega) (by omega)))))))))))))) (wr_270 ⟨by omega, by omega⟩) (fun w168 hq169 hs170 => ?_)
          have hqb := hq169
          refine r_inc (pc' := 116) (lv' := [(0, _)]) rfl rfl rfl rfl rfl ?_
          refine r_go rfl ?_
          have hb171 := rd_225_36 hz
          have hb172 := rd_225_37 hz
          have hb173 := rd_225_38 hz
          have hb174 := rd_225_39 hz
          have hb175 := rd_225_40 hz
          have hb176 := rd_225_42 hz
          exact w_lv (sub_c rfl (sub_c rfl sub_n)) rfl (ih2 (x1 + 1) z w168 ⟨by omega, by omega⟩ ⟨by omega, by omega⟩ hs170 (un_z_225_36) (un_z_225_37) (un_z_225_38) (un_z_225_39) (un_z_225_40) (un_z_225_42) (by first | exact as0 | exact ⟨FTw_c (z := z) ((hst.2.2.1 _ _ (notS_c (by omega) (notS_c (by omega) (notS_c (by omega) (notS_c (by omega) (notS_c (by omega) (notS_c (by omega) (notS_c (by omega) (notS_c (by omega) (notS_c (by omega) (notS_c (by omega) (notS_c (by omega) (notS_c (by omega) (notS_c (by omega) (notS_n))))))))))))))).symm) (funext fun i => (hst.2.2.1 _ _ (notS_c (by omega) (notS_c (by omega) (notS_c (by omega) (notS_c (by omega) (notS_c (by omega) (notS_c (by omega) (notS_c (by omega) (notS_c (by omega) (notS_c (by omega) (notS_c (by omega) (notS_c (by omega) (notS_c (by omega) (notS_c (by omega) (notS_n))))))))))))))).symm) (rE18 hst.1) (fun _ _ => rfl) (htf (by omega)), by rw [as1]; omega⟩) (by first | (intro e he; exfalso; omega) | (intro e he; by_cases c : e = x1.toNat; (subst c; exact ⟨by rw [hqb, mu_eq], by rw [hqb, mu_ne (by omega), hqa, mu_eq]; exact as2 _ (by omega)⟩); (rw [hqb, mu_ne (by omega), mu_ne (by omega), hqa, mu_ne (by omega), mu_ne (by omega)]; exact as1 e (by omega)))) (by first | exact fun e _ => congrFun as9 e | (intro e he; rw [hqb, mu_ne (by omega), hqa, mu_ne (by omega)]; exact as2 e (by omega))) (by omega))
      · intro x1 x2 z w  hx1 hx2 hz0_0 hst as1 as2 hM
        refine r_ld (pc' := 137) rfl rfl rfl rfl ?_
        refine r_cb (pc' := 139) rfl (by decide) rfl ?_
        refine r_ige (pc' := 142) rfl rfl ⟨by omega, by omega⟩ ⟨by decide, by decide⟩ (fun hc177 => ?_) (fun hc177 => ?_)
        · skip
          have hw9 : w 270 = w0 270 := by
            funext e
            by_cases c : e < 18
            · exact as2 e (by omega)
            · exact hst.2.2.2 _ _ (notS_c (by omega) (notS_c (by omega) (notS_c (by omega) (notS_c (by omega) (notS_c (by omega) (notS_c (by omega) (notS_c (by omega) (notS_c (by omega) (notS_c (by omega) (notS_c (by omega) (notS_c (by omega) (notS_c (by omega) (notS_c (by omega) (notS_n))))))))))))))
          refine r_ld (pc' := 161) rfl rfl rfl rfl ?_
          refine r_zeq (pc' := 164) rfl rfl ⟨by omega, by omega⟩ (fun hc178 => ?_) (fun hc178 => ?_)
          · skip
            exact w_lv (sub_c rfl sub_n) rfl (ih4 z w ⟨by omega, by omega⟩ hst (by first | exact as1 | exact hw9) (by omega))
          · skip
            refine r_ld (pc' := 165) rfl rfl rfl rfl ?_
            have hb179 := rd_225_42 hst.1
            refine r_gi (pc' := 168) rfl rfl sh_225 rfl rfl ?_
            refine r_ld (pc' := 169) rfl rfl rfl rfl ?_
            refine r_gi (pc' := 172) rfl rfl sh_225 rfl (hst.2.2.1 _ _ (notS_c (by omega) (notS_c (by omega) (notS_c (by omega) (notS_c (by omega) (notS_c (by omega) (notS_c (by omega) (notS_c (by omega) (notS_c (by omega) (notS_c (by omega) (notS_c (by omega) (notS_c (by omega) (notS_c (by omega) (notS_c (by omega) notS_n)))))))))))))) ?_
            refine r_ine (pc' := 175) rfl rfl ⟨by omega, by omega⟩ ⟨by omega, by omega⟩ (fun hc180 => ?_) (fun hc180 => ?_)
            · skip
              exact w_lv (sub_c rfl sub_n) rfl (ih4 z w ⟨by omega, by omega⟩ hst (by first | exact as1 | exact hw9) (by omega))
            · skip
              refine r_c0 (pc' := 176) rfl rfl ?_
              refine r_go rfl ?_
              refine r_st (pc' := 181) (lv' := [(1, _), (0, _), (2, _)]) rfl rfl rfl rfl ?_
              refine r_c0 (pc' := 182) rfl rfl ?_
              refine r_st (pc' := 183) (lv' := [(2, _), (1, _), (0, _)]) rfl rfl rfl rfl ?_
              refine r_c0 (pc' := 184) rfl rfl ?_
              refine r_st (pc' := 185) (lv' := [(3, _), (2, _), (1, _), (0, _)]) rfl rfl rfl rfl ?_
              exact w_lv (sub_c rfl (sub_c rfl (sub_c rfl (sub_c rfl sub_n)))) rfl (ih5 1 0 0 z w ⟨by omega, by omega⟩ ⟨by omega, by omega⟩ ⟨by omega, by omega⟩ ⟨by omega, by omega⟩ hst (by first | exact as1 | exact hw9) (by first | omega | assumption) (by omega))
        · skip
          refine r_ld (pc' := 143) rfl rfl rfl rfl ?_
          refine r_gr (b := 270) (pc' := 146) rfl rfl sh_225 rfl pp_225_71 ?_
          refine r_ld (pc' := 147) rfl rfl rfl rfl ?_
          refine r_ld (pc' := 148) rfl rfl rfl rfl ?_
          refine r_gr (b := 273) (pc' := 151) rfl rfl sh_225 rfl pp_225_78 ?_
          refine r_ld (pc' := 152) rfl rfl rfl rfl ?_
          have hb181 := rd_273 hst.2.1 (i := x2.toNat) (by omega)
          refine r_la (pc' := 153) rfl rfl sh_273 rfl (by omega) (by omega) rfl ?_
          refine r_ls (pc' := 154) rfl rfl sh_270 rfl (by omega) (by omega) hst (inS_s (inS_s (inS_s (inS_s (inS_s (inS_s (inS_s (inS_s (inS_s (inS_s (inS_s (inS_s (inS_0 (by omega) (by omega) (by omega) (by omega)))))))))))))) (wr_270 ⟨by omega, by omega⟩) (fun w182 hq183 hs184 => ?_)
          have hqr := hq183
          refine r_inc (pc' := 157) (lv' := [(0, _), (1, _)]) rfl rfl rfl rfl rfl ?_
          refine r_go rfl ?_
          exact w_lv (sub_c rfl (sub_c rfl (sub_c rfl sub_n))) rfl (ih3 x1 (x2 + 1) z w182 ⟨by omega, by omega⟩ ⟨by omega, by omega⟩ ⟨by omega, by omega⟩ hs184 (by first | (intro e he; rw [hqr, mu_ne (by omega)]; exact as1 e he) | (intro e he; rw [show w182 273 e = w 273 e from ((congrFun (congrFun hq183 _) _).trans (mu_ne (by omega)))]; exact w273 e he)) (by first | (intro e he; exfalso; omega) | (intro e he; rw [hqr]; by_cases c : e = x2.toNat; (subst c; rw [mu_eq]; exact as1 _ (by omega)); (rw [mu_ne (by omega)]; exact as2 e (by omega)))) (by omega))
      · intro  z w  hz0_0 hst as1 hM
        refine r_c0 (pc' := 180) rfl rfl ?_
        refine r_st (pc' := 181) (lv' := [(1, _), (0, _)]) rfl rfl rfl rfl ?_
        refine r_c0 (pc' := 182) rfl rfl ?_
        refine r_st (pc' := 183) (lv' := [(2, _), (1, _), (0, _)]) rfl rfl rfl rfl ?_
        refine r_c0 (pc' := 184) rfl rfl ?_
        refine r_st (pc' := 185) (lv' := [(3, _), (2, _), (1, _), (0, _)]) rfl rfl rfl rfl ?_
        exact w_lv (sub_c rfl (sub_c rfl (sub_c rfl (sub_c rfl sub_n)))) rfl (ih5 0 0 0 z w ⟨by omega, by omega⟩ ⟨by omega, by omega⟩ ⟨by omega, by omega⟩ ⟨by omega, by omega⟩ hst (by first | exact as1 | exact hw9) (by first | omega | assumption) (by omega))
      · intro x1 x2 x3 z w  hx1 hx2 hx3 hz0_0 hst as1 as2 hM
        refine r_ld (pc' := 186) rfl rfl rfl rfl ?_
        refine r_ld (pc' := 187) rfl rfl rfl rfl ?_
        refine r_gi (pc' := 190) rfl rfl sh_225 rfl (hst.2.2.1 _ _ (notS_c (by omega) (notS_c (by omega) (notS_c (by omega) (notS_c (by omega) (notS_c (by omega) (notS_c (by omega) (notS_c (by omega) (notS_c (by omega) (notS_c (by omega) (notS_c (by omega) (notS_c (by omega) (notS_c (by omega) (notS_c (by omega) notS_n)))))))))))))) ?_
        refine r_ige (pc' := 193) rfl rfl ⟨by omega, by omega⟩ ⟨by omega, by omega⟩ (fun hc185 => ?_) (fun hc185 => ?_)
        · skip
          refine r_ld (pc' := 232) rfl rfl rfl rfl ?_
          exact r_rz rfl (by omega) (po_I hst ⟨by omega, by omega⟩ ⟨rfl, by omega, by omega, (by exact as1)⟩)
        · skip
          refine r_ld (pc' := 194) rfl rfl rfl rfl ?_
          refine r_zeq (pc' := 197) rfl rfl ⟨by omega, by omega⟩ (fun hc186 => ?_) (fun hc186 => ?_)
          · skip
            refine r_ld (pc' := 232) rfl rfl rfl rfl ?_
            exact r_rz rfl (by omega) (po_I hst ⟨by omega, by omega⟩ ⟨rfl, by omega, by omega, (by exact as1)⟩)
          · skip
            refine r_ld (pc' := 198) rfl rfl rfl rfl ?_
            refine r_zne (pc' := 201) rfl rfl ⟨by omega, by omega⟩ (fun hc187 => ?_) (fun hc187 => ?_)
            · skip
              refine r_ld (pc' := 232) rfl rfl rfl rfl ?_
              exact r_rz rfl (by omega) (po_I hst ⟨by omega, by omega⟩ ⟨rfl, by omega, by omega, (by exact as1)⟩)
            · skip
              refine r_ld (pc' := 202) rfl rfl rfl rfl ?_
              refine r_ld (pc' := 203) rfl rfl rfl rfl ?_
              refine r_c0 (pc' := 204) rfl rfl ?_
              have hb188 := rd_225_77 hz
              have hf189 : z 225 77 = z0 225 77 := (hst.2.2.1 _ _ (notS_c (by omega) (notS_c (by omega) (notS_c (by omega) (notS_c (by omega) (notS_c (by omega) (notS_c (by omega) (notS_c (by omega) (notS_c (by omega) (notS_c (by omega) (notS_c (by omega) (notS_c (by omega) (notS_c (by omega) (notS_c (by omega) notS_n))))))))))))))
              have hf190 : z 225 76 = z0 225 76 := (hst.2.2.1 _ _ (notS_c (by omega) (notS_c (by omega) (notS_c (by omega) (notS_c (by omega) (notS_c (by omega) (notS_c (by omega) (notS_c (by omega) (notS_c (by omega) (notS_c (by omega) (notS_c (by omega) (notS_c (by omega) (notS_c (by omega) (notS_c (by omega) notS_n))))))))))))))
              refine r_cVI (pc' := 207) rfl rfl rfl rfl rfl sh_225 (m_251 (d := d + 5) x3 0 hst.1 hst.2.1 ⟨by omega, by omega⟩ ⟨by omega, by omega⟩ (by first | omega | assumption | (simp only [hf189, hf190]; assumption))) (fun v191 z192 w193 p194 h195 hs196 hE197 => ?_)
              obtain ⟨rfl, rfl, rfl, hE197⟩ := hE197
              refine r_zne (pc' := 210) rfl rfl ⟨by omega, by omega⟩ (fun hc199 => ?_) (fun hc199 => ?_)
              · skip
                exact w_lv (sub_c rfl (sub_c rfl (sub_c rfl sub_n))) rfl (ih6 x1 x3 z w ⟨by omega, by omega⟩ ⟨by omega, by omega⟩ ⟨by omega, by omega⟩ hst (by first | exact as1 | exact hw9) (by first | omega | assumption) (by omega))
              · skip
                refine r_ld (pc' := 211) rfl rfl rfl rfl ?_
                refine r_ld (pc' := 212) rfl rfl rfl rfl ?_
                refine r_c0 (pc' := 213) rfl rfl ?_
                have hf200 : z 225 77 = z0 225 77 := (hst.2.2.1 _ _ (notS_c (by omega) (notS_c (by omega) (notS_c (by omega) (notS_c (by omega) (notS_c (by omega) (notS_c (by omega) (notS_c (by omega) (notS_c (by omega) (notS_c (by omega) (notS_c (by omega) (notS_c (by omega) (notS_c (by omega) (notS_c (by omega) notS_n))))))))))))))
                have hf201 : z 225 76 = z0 225 76 := (hst.2.2.1 _ _ (notS_c (by omega) (notS_c (by omega) (notS_c (by omega) (notS_c (by omega) (notS_c (by omega) (notS_c (by omega) (notS_c (by omega) (notS_c (by omega) (notS_c (by omega) (notS_c (by omega) (notS_c (by omega) (notS_c (by omega) (notS_c (by omega) notS_n))))))))))))))
                refine r_cVI (pc' := 216) rfl rfl rfl rfl rfl sh_225 (m_251 (d := d + 5) x3 1 hst.1 hst.2.1 ⟨by omega, by omega⟩ ⟨by omega, by omega⟩ (by first | omega | assumption | (simp only [hf200, hf201]; assumption))) (fun v202 z203 w204 p205 h206 hs207 hE208 => ?_)
                obtain ⟨rfl, rfl, rfl, hE208⟩ := hE208
                refine r_zeq (pc' := 219) rfl rfl ⟨by omega, by omega⟩ (fun hc210 => ?_) (fun hc210 => ?_)
                · skip
                  refine r_c0 (pc' := 224) rfl rfl ?_
                  refine r_st (pc' := 225) (lv' := [(2, _), (0, _), (1, _), (3, _)]) rfl rfl rfl rfl ?_
                  refine r_inc (pc' := 228) (lv' := [(2, _), (0, _), (1, _)]) rfl rfl rfl rfl rfl ?_
                  refine r_go rfl ?_
                  exact w_lv (sub_c rfl (sub_c rfl (sub_c rfl (sub_c rfl sub_n)))) rfl (ih5 x1 0 (x3 + 1) z w ⟨by omega, by omega⟩ ⟨by omega, by omega⟩ ⟨by omega, by omega⟩ ⟨by omega, by omega⟩ hst (by first | exact as1 | exact hw9) (by first | omega | assumption) (by omega))
                · skip
                  exact w_lv (sub_c rfl (sub_c rfl (sub_c rfl sub_n))) rfl (ih6 x1 x3 z w ⟨by omega, by omega⟩ ⟨by omega, by omega⟩ ⟨by omega, by omega⟩ hst (by first | exact as1 | exact hw9) (by first | omega | assumption) (by omega))
      · intro x1 x3 z w  hx1 hx3 hz0_0 hst as1 as2 hM
        refine r_c0 (pc' := 220) rfl rfl ?_
        refine r_go rfl ?_
        refine r_st (pc' := 225) (lv' := [(2, _), (0, _), (1, _), (3, _)]) rfl rfl rfl rfl ?_
        refine r_inc (pc' := 228) (lv' := [(2, _), (0, _), (1, _)]) rfl rfl rfl rfl rfl ?_
        refine r_go rfl ?_
        exact w_lv (sub_c rfl (sub_c rfl (sub_c rfl (sub_c rfl sub_n)))) rfl (ih5 x1 1 (x3 + 1) z w ⟨by omega, by omega⟩ ⟨by omega, by omega⟩ ⟨by omega, by omega⟩ ⟨by omega, by omega⟩ hst (by first | exact as1 | exact hw9) (by first | omega | assumption) (by omega))
  refine w_m rfl rfl ?_
  refine r_ld (pc' := 1) rfl rfl rfl rfl ?_
  have hb211 := rd_225_76 hz
  refine r_gi (pc' := 4) rfl rfl sh_225 rfl rfl ?_
  refine r_zne (pc' := 7) rfl rfl ⟨by omega, by omega⟩ (fun hc212 => ?_) (fun hc212 => ?_)
  · skip
    refine r_c0 (pc' := 10) rfl rfl ?_
    refine r_st (pc' := 11) (lv' := [(1, _), (0, _)]) rfl rfl rfl rfl ?_
    have hb213 := rd_225_36 hz
    have hb214 := rd_225_37 hz
    have hb215 := rd_225_38 hz
    have hb216 := rd_225_39 hz
    have hb217 := rd_225_40 hz
    have hb218 := rd_225_42 hz
    exact w_lv (sub_c rfl (sub_c rfl sub_n)) rfl ((key ((136 * (18 - 0) + 441312 : Int).toNat + 1)).1 0 z0 w0 ⟨by omega, by omega⟩ ⟨by omega, by omega⟩ hst (rfl) (rfl) (rfl) (rfl) (rfl) (rfl) (by first | (intro j hj; exfalso; omega) | (intro j hj; rw [hqt]; by_cases c : j = x1.toNat; (subst c; exact mu_eq); (rw [mu_ne (by omega)]; exact as1 j (by omega)))) (by first | exact as9 | rfl) (by omega))
  · skip
    refine r_c0 (pc' := 8) rfl rfl ?_
    exact r_rz rfl (by omega) (po_I hst ⟨by decide, by decide⟩ ⟨rfl, by omega, by omega, (by rfl)⟩)
end
section
/-! bytes as they are: shifts by a variable, narrowing, byte stores; the tape's bytes -/
theorem r_shrv {d k nL : Nat} {rt : Option FieldType} {Q : pm_R → Prop} {pc pc' len r1 r2 : Nat} {cst a e : Int} {hs : List (Nat × Nat)} {lv : pm_L} {r : List Value} {h : pm_H} (h1 : pm_ins k pc = some (.ishr, len, r1, r2, cst, hs)) (hp : pc + 1 = pc') (ha : inI a) (h0 : 0 ≤ e) (he : e ≤ 31) (w : ∀ q, a / 2 ^ e.toNat = q → inI q → wp_ d k nL rt (pc', lv, .int (Int32.ofInt q) :: r, h) Q) : wp_ d k nL rt (pc, lv, .int (Int32.ofInt e) :: .int (Int32.ofInt a) :: r, h) Q := by
  have hp2 : (1 : Int) ≤ 2 ^ e.toNat := by
    have := Nat.one_le_two_pow (n := e.toNat)
    have h9 : ((1 : Nat) : Int) ≤ ((2 ^ e.toNat : Nat) : Int) := Int.ofNat_le.mpr this
    rw [Int.natCast_pow] at h9
    exact h9
  have hin : inI (a / 2 ^ e.toNat) := by
    have h3 : a / 2 ^ e.toNat * 2 ^ e.toNat ≤ a := Int.ediv_mul_le _ (by omega)
    have h4 := Int.emod_nonneg a (show (2 : Int) ^ e.toNat ≠ 0 by omega)
    have h5 := Int.emod_lt_of_pos a (show (0 : Int) < 2 ^ e.toNat by omega)
    have h6 := Int.mul_ediv_add_emod a (2 ^ e.toNat)
    generalize (2 : Int) ^ e.toNat = P at *
    generalize a / P = D at *
    constructor
    · show -2147483648 ≤ D
      apply Classical.byContradiction
      intro c
      have h7 : P * D ≤ P * -2147483649 := Int.mul_le_mul_of_nonneg_left (by omega) (by omega)
      have h8 : P * -2147483649 ≤ -2147483649 - (P - 1) := by omega
      have := ha.1
      omega
    · show D < 2147483648
      apply Classical.byContradiction
      intro c
      have h7 : P * 2147483648 ≤ P * D := Int.mul_le_mul_of_nonneg_left (by omega) (by omega)
      have := ha.2
      omega
  have k := r_shr (s := e.toNat) h1 hp ha (by omega) (w _ rfl hin)
  rw [show ((e.toNat : Nat) : Int) = e by omega] at k
  exact k
theorem bm_8 (a : Int) : (a.bmod 256 = a % 256 ∧ a % 256 < 128) ∨ (a.bmod 256 = a % 256 - 256 ∧ 128 ≤ a % 256) := by
  have h := Int.bmod_def a 256
  split at h <;> omega
theorem nar_8 {a : Int} (ha : inI a) : (Int32.ofInt a).toInt8.toInt32 = Int32.ofInt (a.bmod 256) := by
  have b := bm_8 a
  apply Int32.toInt_inj.1
  rw [Int8.toInt_toInt32, Int32.toInt_toInt8, ofI_toInt ha, ofI_toInt ⟨by omega, by omega⟩]
theorem r_i2b {d k nL : Nat} {rt : Option FieldType} {Q : pm_R → Prop} {pc pc' len r1 r2 : Nat} {cst a : Int} {hs : List (Nat × Nat)} {lv : pm_L} {r : List Value} {h : pm_H} (h1 : pm_ins k pc = some (.i2b, len, r1, r2, cst, hs)) (hp : pc + 1 = pc') (ha : inI a) (w : ∀ v, -128 ≤ v ∧ v ≤ 127 → v % 256 = a % 256 → wp_ d k nL rt (pc', lv, .int (Int32.ofInt v) :: r, h) Q) : wp_ d k nL rt (pc, lv, .int (Int32.ofInt a) :: r, h) Q := by
  have b := bm_8 a
  exact r_al h1 rfl hp (congrArg (fun y => some (Value.int y :: r)) (nar_8 ha)) (w _ ⟨by omega, by omega⟩ (by omega))
theorem r_bsx {d k nL : Nat} {rt : Option FieldType} {Q : pm_R → Prop} {pc pc' len r1 r2 n a : Nat} {cst e v : Int} {hs : List (Nat × Nat)} {lv : pm_L} {r : List Value} {S : mS} {z0 w0 z w : mZ} {p : mP} (h1 : pm_ins k pc = some (.bastore, len, r1, r2, cst, hs)) (hp : pc + 1 = pc') (sh : msh mshl a = some (1, 2, n)) (hb : Nat.ble n 100000 = true) (h0 : 0 ≤ e) (hn : e < n) (hv : -128 ≤ v ∧ v ≤ 127) (hst : st_ S z0 w0 z w) (hi : inS S a e.toNat) (hk : ok_t ((zkl[a]?).getD (.inr [])) e.toNat v) (c : ∀ z', z' = mu z a e.toNat v → st_ S z0 w0 z' w → wp_ d k nL rt (pc', lv, r, mk z' w p) Q) : wp_ d k nL rt (pc, lv, .int (Int32.ofInt v) :: .int (Int32.ofInt e) :: .ref a :: r, mk z w p) Q := by
  subst hp
  have h9 := Nat.le_of_ble_eq_true hb
  have b := bm_8 v
  have hx : vp_nar .byte (Int32.ofInt v) = Int32.ofInt v := (nar_8 (a := v) ⟨by omega, by omega⟩).trans (by rw [show v.bmod 256 = v by omega])
  exact w_s h1 (fun _ => q_sb sh h0 hn (by omega) hx) (c _ rfl (st_z hst hi hk))
/-- the i-th byte of a number, the highest first; of five numbers -/
def fb (a : Int) (i : Nat) : Int := a / 2 ^ (24 - 8 * i) % 256
def fbs (a b c d e : Int) (j : Nat) : Int := fb (match j / 4 with
  | 0 => a
  | 1 => b
  | 2 => c
  | 3 => d
  | _ => e) (j % 4)
theorem fbs_5 {a b c d e : Int} {T1 T2 T3 T4 T5 : Nat → Int} {n : Nat} (k1 : ∀ i, i < 4 → T1 (n + i) = fb a i) (k2 : ∀ i, i < 4 → T2 (n + 4 + i) = fb b i) (k3 : ∀ i, i < 4 → T3 (n + 8 + i) = fb c i) (k4 : ∀ i, i < 4 → T4 (n + 12 + i) = fb d i) (k5 : ∀ i, i < 4 → T5 (n + 16 + i) = fb e i)
    (p2 : ∀ i, i < n + 4 → T2 i = T1 i) (p3 : ∀ i, i < n + 8 → T3 i = T2 i) (p4 : ∀ i, i < n + 12 → T4 i = T3 i) (p5 : ∀ i, i < n + 16 → T5 i = T4 i) : ∀ j, j < 20 → T5 (n + j) = fbs a b c d e j := by
  intro j hj
  unfold fbs
  rcases (show j / 4 = 0 ∨ j / 4 = 1 ∨ j / 4 = 2 ∨ j / 4 = 3 ∨ j / 4 = 4 by omega) with q | q | q | q | q
  · rw [q, p5 _ (by omega), p4 _ (by omega), p3 _ (by omega), p2 _ (by omega), show n + j = n + j % 4 by omega]; exact k1 _ (by omega)
  · rw [q, p5 _ (by omega), p4 _ (by omega), p3 _ (by omega), show n + j = n + 4 + j % 4 by omega]; exact k2 _ (by omega)
  · rw [q, p5 _ (by omega), p4 _ (by omega), show n + j = n + 8 + j % 4 by omega]; exact k3 _ (by omega)
  · rw [q, p5 _ (by omega), show n + j = n + 12 + j % 4 by omega]; exact k4 _ (by omega)
  · rw [q, show n + j = n + 16 + j % 4 by omega]; exact k5 _ (by omega)
/-- two things said of one call -/
theorem wc_and {d k : Nat} {as : List Value} {h : pm_H} {Q Q' : pm_R → Prop} (w : wc d k as h Q) (w' : wc d k as h Q') : wc d k as h (fun r => Q r ∧ Q' r) := by
  obtain ⟨f0, r, h1, h2⟩ := w
  obtain ⟨f1, r', h3, h4⟩ := w'
  have e := (h1 (max f0 f1) (by omega)).symm.trans (h3 (max f0 f1) (by omega))
  cases e
  exact ⟨f0, r, h1, h2, h4⟩
end
section
/-! methods, printed by wip/tools/vcg.py -/
/-- LoopGround putBytes -/
abbrev S_103x  : mS := [(2, 2, 0, 1599), (1, 1, 15, 15)]
abbrev E_103x (a1 : Int) (z0 w0 : mZ) (x y tx it mt tt ct : Option Nat) : mZ → mZ → mP → Prop := fun z w p => p = (pq x y tx it mt tt ct) ∧ (z 1 15 = z0 1 15 + 4 ∧ (∀ i : Nat, i < 4 → z 2 ((z0 1 15).toNat + i) % 256 = fb a1 i) ∧ ∀ i : Nat, (i : Int) < z0 1 15 → z 2 i = z0 2 i)
theorem m_103x {d : Nat} {z0 w0 : mZ} {x y tx it mt tt ct : Option Nat} (a1 : Int) (hz : rz z0) (hw : rw_ w0) (ha1 : (-2147483648) ≤ a1 ∧ a1 ≤ 2147483647) (hq : z0 1 15 ≤ 1596) : wc (d + 1) 103 [.ref 1, .int (Int32.ofInt a1)] (mk z0 w0 (pq x y tx it mt tt ct)) (poV S_103x z0 w0 (E_103x a1 z0 w0 x y tx it mt tt ct)) := by
  have hst : st_ S_103x z0 w0 z0 w0 := st_rf hz hw
  have hz16 := rd_1_15 hz
  have key : ∀ N : Nat, (∀ (x2 : Int) (z w : mZ), (-8) ≤ x2 ∧ x2 ≤ 24 → st_ S_103x z0 w0 z w → (8 * z 1 15 + x2 = 8 * z0 1 15 + 24 ∧ x2 % 8 = 0) → (∀ i : Nat, (i : Int) < z 1 15 - z0 1 15 → z 2 ((z0 1 15).toNat + i) % 256 = fb a1 i) → (∀ i : Nat, (i : Int) < z0 1 15 → z 2 i = z0 2 i) → 31 * (x2 - (-8)) + 28 < (N : Int) → wp_ (d) 103 3 none (3, [(0, .ref 1), (1, .int (Int32.ofInt a1)), (2, .int (Int32.ofInt x2))], [], mk z w (pq x y tx it mt tt ct)) (poV S_103x z0 w0 (E_103x a1 z0 w0 x y tx it mt tt ct))) := by
    intro N
    induction N with
    | zero =>
      intro x2 z w
      intros; exfalso; omega
    | succ N ih =>
      have ih0 := ih; clear ih
      intro x2 z w  hx2 hst as1 as2 as3 hM
      refine r_ld (pc' := 4) rfl rfl rfl rfl ?_
      refine r_zlt (pc' := 7) rfl rfl ⟨by omega, by omega⟩ (fun hc17 => ?_) (fun hc17 => ?_)
      · skip
        have hb18 := rd_1_15 hst.1
        exact r_ret rfl (po_V hst ⟨rfl, (by exact ⟨by omega, fun i hi => as2 i (by omega), as3⟩)⟩)
      · skip
        refine r_ld (pc' := 8) rfl rfl rfl rfl ?_
        have hb19 := rd_1_15 hst.1
        refine r_gi (pc' := 11) rfl rfl sh_1 rfl rfl ?_
        refine r_zlt (pc' := 14) rfl rfl ⟨by omega, by omega⟩ (fun hc20 => ?_) (fun hc20 => ?_)
        · exfalso; omega
        · skip
          refine r_ld (pc' := 15) rfl rfl rfl rfl ?_
          refine r_gi (pc' := 18) rfl rfl sh_1 rfl rfl ?_
          refine r_ld (pc' := 19) rfl rfl rfl rfl ?_
          refine r_gr (b := 2) (pc' := 22) rfl rfl sh_1 rfl pp_1_0 ?_
          refine r_len (pc' := 23) rfl rfl sh_2 (by decide) ?_
          refine r_ige (pc' := 26) rfl rfl ⟨by omega, by omega⟩ ⟨by decide, by decide⟩ (fun hc21 => ?_) (fun hc21 => ?_)
          · skip
            refine r_inc (pc' := 52) (lv' := [(0, _), (1, _)]) rfl rfl rfl rfl rfl ?_
            refine r_go rfl ?_
            exact w_lv (sub_c rfl (sub_c rfl (sub_c rfl sub_n))) rfl (ih0 (x2 + ((-8))) z w ⟨by omega, by omega⟩ hst (by first | omega | assumption) (by first | (intro i hi; exfalso; omega) | (intro i hi; rw [show z 2 ((z0 1 15).toNat + i) = NOMARK 2 ((z0 1 15).toNat + i) from NOMARK, hqt]; by_cases c : (i : Int) = z 1 15 - z0 1 15; (rw [mu_eqi (by omega)]; unfold fb; rw [show 24 - 8 * i = x2.toNat by omega, hsv36]; exact hib37); (rw [mu_ne (by omega)]; exact as2 i (by omega)))) (by first | exact fun i _ => rfl | exact as3 | (intro i hi; rw [show z 2 i = NOMARK 2 i from NOMARK, hqt, mu_ne (by omega)]; exact as3 i hi)) (by omega))
          · skip
            refine r_ld (pc' := 27) rfl rfl rfl rfl ?_
            refine r_gr (b := 2) (pc' := 30) rfl rfl sh_1 rfl pp_1_0 ?_
            refine r_ld (pc' := 31) rfl rfl rfl rfl ?_
            refine r_gi (pc' := 34) rfl rfl sh_1 rfl rfl ?_
            refine r_ld (pc' := 35) rfl rfl rfl rfl ?_
            refine r_ld (pc' := 36) rfl rfl rfl rfl ?_
            refine r_shrv (pc' := 37) rfl rfl ⟨by omega, by omega⟩ (by omega) (by omega) (fun v22 hsv36 h23 => ?_)
            unfold inI at h23
            refine r_i2b (pc' := 38) rfl rfl ⟨by omega, by omega⟩ (fun v24 h25 hib37 => ?_)
            refine r_bsx (pc' := 39) rfl rfl sh_2 rfl (by omega) (by omega) ⟨by omega, by omega⟩ hst (inS_0 (by omega) (by omega) (by omega) (by omega)) (wr_2 ⟨by omega, by omega⟩) (fun z26 hq27 hs28 => ?_)
            have hqt := hq27
            refine r_ld (pc' := 40) rfl rfl rfl rfl ?_
            refine r_al (pc' := 41) rfl rfl rfl rfl ?_
            refine r_gi (pc' := 44) rfl rfl sh_1 rfl ((congrFun (congrFun hq27 _) _).trans (mu_ne (by omega))) ?_
            refine r_c0 (pc' := 45) rfl rfl ?_
            refine r_add (pc' := 46) rfl rfl ?_
            refine r_pi (pc' := 49) rfl rfl sh_1 rfl rfl hs28 (inS_s (inS_0 (by omega) (by omega) (by omega) (by omega))) (wr_1_15 ⟨by omega, by omega⟩) (fun z29 hq30 hs31 => ?_)
            refine r_inc (pc' := 52) (lv' := [(0, _), (1, _)]) rfl rfl rfl rfl rfl ?_
            refine r_go rfl ?_
            have hf32 : z29 1 15 = (z 1 15) + 1 := ((congrFun (congrFun hq30 _) _).trans mu_eq)
            exact w_lv (sub_c rfl (sub_c rfl (sub_c rfl sub_n))) rfl (ih0 (x2 + ((-8))) z29 w ⟨by omega, by omega⟩ hs31 (by first | omega | assumption | (simp only [hf32]; assumption)) (by first | (intro i hi; exfalso; omega) | (intro i hi; rw [show z29 2 ((z0 1 15).toNat + i) = z26 2 ((z0 1 15).toNat + i) from ((congrFun (congrFun hq30 _) _).trans (mu_ne (by omega))), hqt]; by_cases c : (i : Int) = z 1 15 - z0 1 15; (rw [mu_eqi (by omega)]; unfold fb; rw [show 24 - 8 * i = x2.toNat by omega, hsv36]; exact hib37); (rw [mu_ne (by omega)]; exact as2 i (by omega)))) (by first | exact fun i _ => rfl | exact as3 | (intro i hi; rw [show z29 2 i = z26 2 i from ((congrFun (congrFun hq30 _) _).trans (mu_ne (by omega))), hqt, mu_ne (by omega)]; exact as3 i hi)) (by omega))
  refine w_m rfl rfl ?_
  refine r_cb (pc' := 2) rfl (by decide) rfl ?_
  refine r_st (pc' := 3) (lv' := [(2, _), (0, _), (1, _)]) rfl rfl rfl rfl ?_
  have hb33 := rd_1_15 hz
  exact w_lv (sub_c rfl (sub_c rfl (sub_c rfl sub_n))) rfl ((key ((31 * (24 - (-8)) + 28 : Int).toNat + 1)) 24 z0 w0 ⟨by omega, by omega⟩ hst (by first | omega | assumption) (by first | (intro i hi; exfalso; omega) | (intro i hi; rw [show z0 2 ((z0 1 15).toNat + i) = NOMARK 2 ((z0 1 15).toNat + i) from NOMARK, hqt]; by_cases c : (i : Int) = z 1 15 - z0 1 15; (rw [mu_eqi (by omega)]; unfold fb; rw [show 24 - 8 * i = x2.toNat by omega, hsv36]; exact hib37); (rw [mu_ne (by omega)]; exact as2 i (by omega)))) (by first | exact fun i _ => rfl | exact as3 | (intro i hi; rw [show z0 2 i = NOMARK 2 i from NOMARK, hqt, mu_ne (by omega)]; exact as3 i hi)) (by omega))
/-- LoopGroundModel four -/
abbrev S_147x  : mS := [(226, 226, 0, 1599), (225, 225, 1, 1)]
abbrev E_147x (a1 : Int) (z0 w0 : mZ) (x y tx it mt tt ct : Option Nat) : mZ → mZ → mP → Prop := fun z w p => p = (pq x y tx it mt tt ct) ∧ (z 225 1 = z0 225 1 + 4 ∧ (∀ i : Nat, i < 4 → z 226 ((z0 225 1).toNat + i) = fb a1 i) ∧ ∀ i : Nat, (i : Int) < z0 225 1 → z 226 i = z0 226 i)
theorem m_147x {d : Nat} {z0 w0 : mZ} {x y tx it mt tt ct : Option Nat} (a1 : Int) (hz : rz z0) (hw : rw_ w0) (ha1 : (-2147483648) ≤ a1 ∧ a1 ≤ 2147483647) (hq : z0 225 1 ≤ 1596) : wc (d + 1) 147 [.ref 225, .int (Int32.ofInt a1)] (mk z0 w0 (pq x y tx it mt tt ct)) (poV S_147x z0 w0 (E_147x a1 z0 w0 x y tx it mt tt ct)) := by
  have hst : st_ S_147x z0 w0 z0 w0 := st_rf hz hw
  have hz12 := rd_225_1 hz
  have key : ∀ N : Nat, (∀ (x2 : Int) (z w : mZ), (-8) ≤ x2 ∧ x2 ≤ 24 → st_ S_147x z0 w0 z w → (8 * z 225 1 + x2 = 8 * z0 225 1 + 24 ∧ x2 % 8 = 0) → (∀ i : Nat, (i : Int) < z 225 1 - z0 225 1 → z 226 ((z0 225 1).toNat + i) = fb a1 i) → (∀ i : Nat, (i : Int) < z0 225 1 → z 226 i = z0 226 i) → 23 * (x2 - (-8)) + 20 < (N : Int) → wp_ (d) 147 3 none (3, [(0, .ref 225), (1, .int (Int32.ofInt a1)), (2, .int (Int32.ofInt x2))], [], mk z w (pq x y tx it mt tt ct)) (poV S_147x z0 w0 (E_147x a1 z0 w0 x y tx it mt tt ct))) := by
    intro N
    induction N with
    | zero =>
      intro x2 z w
      intros; exfalso; omega
    | succ N ih =>
      have ih0 := ih; clear ih
      intro x2 z w  hx2 hst as1 as2 as3 hM
      refine r_ld (pc' := 4) rfl rfl rfl rfl ?_
      refine r_zlt (pc' := 7) rfl rfl ⟨by omega, by omega⟩ (fun hc13 => ?_) (fun hc13 => ?_)
      · skip
        have hb14 := rd_225_1 hst.1
        exact r_ret rfl (po_V hst ⟨rfl, (by exact ⟨by omega, fun i hi => as2 i (by omega), as3⟩)⟩)
      · skip
        refine r_ld (pc' := 8) rfl rfl rfl rfl ?_
        refine r_gr (b := 226) (pc' := 11) rfl rfl sh_225 rfl pp_225_0 ?_
        refine r_ld (pc' := 12) rfl rfl rfl rfl ?_
        have hb15 := rd_225_1 hst.1
        refine r_gi (pc' := 15) rfl rfl sh_225 rfl rfl ?_
        refine r_ld (pc' := 16) rfl rfl rfl rfl ?_
        refine r_ld (pc' := 17) rfl rfl rfl rfl ?_
        refine r_shrv (pc' := 18) rfl rfl ⟨by omega, by omega⟩ (by omega) (by omega) (fun v16 hsv17 h17 => ?_)
        unfold inI at h17
        refine r_cs (pc' := 21) rfl (by decide) rfl ?_
        refine r_msk (m := 255) (n := 8) (pc' := 22) rfl rfl ⟨by omega, by omega⟩ (by decide) (by decide) ?_
        refine r_is (pc' := 23) rfl rfl sh_226 rfl (by omega) (by omega) hst (inS_0 (by omega) (by omega) (by omega) (by omega)) (wr_226 ⟨by omega, by omega⟩) (fun z18 hq19 hs20 => ?_)
        have hqt := hq19
        refine r_ld (pc' := 24) rfl rfl rfl rfl ?_
        refine r_al (pc' := 25) rfl rfl rfl rfl ?_
        refine r_gi (pc' := 28) rfl rfl sh_225 rfl ((congrFun (congrFun hq19 _) _).trans (mu_ne (by omega))) ?_
        refine r_c0 (pc' := 29) rfl rfl ?_
        refine r_add (pc' := 30) rfl rfl ?_
        refine r_pi (pc' := 33) rfl rfl sh_225 rfl rfl hs20 (inS_s (inS_0 (by omega) (by omega) (by omega) (by omega))) (wr_225_1 ⟨by omega, by omega⟩) (fun z21 hq22 hs23 => ?_)
        refine r_inc (pc' := 36) (lv' := [(0, _), (1, _)]) rfl rfl rfl rfl rfl ?_
        refine r_go rfl ?_
        have hf24 : z21 225 1 = (z 225 1) + 1 := ((congrFun (congrFun hq22 _) _).trans mu_eq)
        exact w_lv (sub_c rfl (sub_c rfl (sub_c rfl sub_n))) rfl (ih0 (x2 + ((-8))) z21 w ⟨by omega, by omega⟩ hs23 (by first | omega | assumption | (simp only [hf24]; assumption)) (by first | (intro i hi; exfalso; omega) | (intro i hi; rw [show z21 226 ((z0 225 1).toNat + i) = z18 226 ((z0 225 1).toNat + i) from ((congrFun (congrFun hq22 _) _).trans (mu_ne (by omega))), hqt]; by_cases c : (i : Int) = z 225 1 - z0 225 1; (rw [mu_eqi (by omega)]; unfold fb; rw [show 24 - 8 * i = x2.toNat by omega, hsv17]; rw [show (256 : Int) = 2 ^ 8 by decide]); (rw [mu_ne (by omega)]; exact as2 i (by omega)))) (by first | exact fun i _ => rfl | exact as3 | (intro i hi; rw [show z21 226 i = z18 226 i from ((congrFun (congrFun hq22 _) _).trans (mu_ne (by omega))), hqt, mu_ne (by omega)]; exact as3 i hi)) (by omega))
  refine w_m rfl rfl ?_
  refine r_cb (pc' := 2) rfl (by decide) rfl ?_
  refine r_st (pc' := 3) (lv' := [(2, _), (0, _), (1, _)]) rfl rfl rfl rfl ?_
  have hb25 := rd_225_1 hz
  exact w_lv (sub_c rfl (sub_c rfl (sub_c rfl sub_n))) rfl ((key ((23 * (24 - (-8)) + 20 : Int).toNat + 1)) 24 z0 w0 ⟨by omega, by omega⟩ hst (by first | omega | assumption) (by first | (intro i hi; exfalso; omega) | (intro i hi; rw [show z0 226 ((z0 225 1).toNat + i) = NOMARK 226 ((z0 225 1).toNat + i) from NOMARK, hqt]; by_cases c : (i : Int) = z 225 1 - z0 225 1; (rw [mu_eqi (by omega)]; unfold fb; rw [show 24 - 8 * i = x2.toNat by omega, hsv17]; rw [show (256 : Int) = 2 ^ 8 by decide]); (rw [mu_ne (by omega)]; exact as2 i (by omega)))) (by first | exact fun i _ => rfl | exact as3 | (intro i hi; rw [show z0 226 i = NOMARK 226 i from NOMARK, hqt, mu_ne (by omega)]; exact as3 i hi)) (by omega))
/-- LoopGroundModel feed -/
abbrev S_146x  : mS := [(226, 226, 0, 1599), (225, 225, 1, 1)]
abbrev E_146x (a1 : Int) (a2 : Int) (a3 : Int) (a4 : Int) (a5 : Int) (z0 w0 : mZ) (x y tx it mt tt ct : Option Nat) : Int → mZ → mZ → mP → Prop := fun v z w p => p = (pq x y tx it mt tt ct) ∧ (-1) ≤ v ∧ v ≤ 1600 ∧ ((1600 < z0 225 1 + 20 ∧ v = -1 ∧ z 225 1 = z0 225 1 ∧ (∀ i : Nat, (i : Int) < z0 225 1 → z 226 i = z0 226 i)) ∨ (z0 225 1 + 20 ≤ 1600 ∧ v = z0 225 1 + 20 ∧ z 225 1 = v ∧ (∀ j : Nat, j < 20 → z 226 ((z0 225 1).toNat + j) = fbs a1 a2 a3 a4 a5 j) ∧ (∀ i : Nat, (i : Int) < z0 225 1 → z 226 i = z0 226 i)))
theorem m_146x {d : Nat} {z0 w0 : mZ} {x y tx it mt tt ct : Option Nat} (a1 : Int) (a2 : Int) (a3 : Int) (a4 : Int) (a5 : Int) (hz : rz z0) (hw : rw_ w0) (ha1 : (-2147483648) ≤ a1 ∧ a1 ≤ 2147483647) (ha2 : (-2147483648) ≤ a2 ∧ a2 ≤ 2147483647) (ha3 : (-2147483648) ≤ a3 ∧ a3 ≤ 2147483647) (ha4 : (-2147483648) ≤ a4 ∧ a4 ≤ 2147483647) (ha5 : (-2147483648) ≤ a5 ∧ a5 ≤ 2147483647) : wc (d + 2) 146 [.ref 225, .int (Int32.ofInt a1), .int (Int32.ofInt a2), .int (Int32.ofInt a3), .int (Int32.ofInt a4), .int (Int32.ofInt a5)] (mk z0 w0 (pq x y tx it mt tt ct)) (poI S_146x z0 w0 (E_146x a1 a2 a3 a4 a5 z0 w0 x y tx it mt tt ct)) := by
  have hst : st_ S_146x z0 w0 z0 w0 := st_rf hz hw
  have hz48 := rd_225_1 hz
  refine w_m rfl rfl ?_
  refine r_ld (pc' := 1) rfl rfl rfl rfl ?_
  have hb49 := rd_225_1 hz
  refine r_gi (pc' := 4) rfl rfl sh_225 rfl rfl ?_
  refine r_cb (pc' := 6) rfl (by decide) rfl ?_
  refine r_add (pc' := 7) rfl rfl ?_
  refine r_cs (pc' := 10) rfl (by decide) rfl ?_
  refine r_ile (pc' := 13) rfl rfl ⟨by omega, by omega⟩ ⟨by decide, by decide⟩ (fun hc50 => ?_) (fun hc50 => ?_)
  · skip
    refine r_ld (pc' := 16) rfl rfl rfl rfl ?_
    refine r_ld (pc' := 17) rfl rfl rfl rfl ?_
    refine r_cVV (pc' := 20) rfl rfl rfl rfl rfl sh_225 (m_147x (d := d) a1 hst.1 hst.2.1 ⟨by omega, by omega⟩ (by first | omega | assumption)) (fun z52 w53 p54 hs56 hE57 => ?_)
    have hs58 := st_tr hst hs56 (sub_B rfl)
    obtain ⟨rfl, hE57⟩ := hE57
    have hf1 := hE57
    refine r_ld (pc' := 21) rfl rfl rfl rfl ?_
    refine r_ld (pc' := 22) rfl rfl rfl rfl ?_
    have hb59 := rd_225_1 hs58.1
    refine r_cVV (pc' := 25) rfl rfl rfl rfl rfl sh_225 (m_147x (d := d) a2 hs58.1 hs58.2.1 ⟨by omega, by omega⟩ (by first | omega | assumption)) (fun z61 w62 p63 hs65 hE66 => ?_)
    have hs67 := st_tr hs58 hs65 (sub_B rfl)
    obtain ⟨rfl, hE66⟩ := hE66
    have hf2 := hE66
    refine r_ld (pc' := 26) rfl rfl rfl rfl ?_
    refine r_ld (pc' := 27) rfl rfl rfl rfl ?_
    have hb68 := rd_225_1 hs67.1
    refine r_cVV (pc' := 30) rfl rfl rfl rfl rfl sh_225 (m_147x (d := d) a3 hs67.1 hs67.2.1 ⟨by omega, by omega⟩ (by first | omega | assumption)) (fun z70 w71 p72 hs74 hE75 => ?_)
    have hs76 := st_tr hs67 hs74 (sub_B rfl)
    obtain ⟨rfl, hE75⟩ := hE75
    have hf3 := hE75
    refine r_ld (pc' := 31) rfl rfl rfl rfl ?_
    refine r_ld (pc' := 33) rfl rfl rfl rfl ?_
    have hb77 := rd_225_1 hs76.1
    refine r_cVV (pc' := 36) rfl rfl rfl rfl rfl sh_225 (m_147x (d := d) a4 hs76.1 hs76.2.1 ⟨by omega, by omega⟩ (by first | omega | assumption)) (fun z79 w80 p81 hs83 hE84 => ?_)
    have hs85 := st_tr hs76 hs83 (sub_B rfl)
    obtain ⟨rfl, hE84⟩ := hE84
    have hf4 := hE84
    refine r_ld (pc' := 37) rfl rfl rfl rfl ?_
    refine r_ld (pc' := 39) rfl rfl rfl rfl ?_
    have hb86 := rd_225_1 hs85.1
    refine r_cVV (pc' := 42) rfl rfl rfl rfl rfl sh_225 (m_147x (d := d) a5 hs85.1 hs85.2.1 ⟨by omega, by omega⟩ (by first | omega | assumption)) (fun z88 w89 p90 hs92 hE93 => ?_)
    have hs94 := st_tr hs85 hs92 (sub_B rfl)
    obtain ⟨rfl, hE93⟩ := hE93
    have hf5 := hE93
    refine r_ld (pc' := 43) rfl rfl rfl rfl ?_
    have hb95 := rd_225_1 hs94.1
    refine r_gi (pc' := 46) rfl rfl sh_225 rfl rfl ?_
    exact r_ri rfl (po_I hs94 ⟨by omega, by omega⟩ ⟨rfl, by omega, by omega, (by exact Or.inr ⟨by omega, by omega, by omega, fbs_5 (T1 := fun i => z52 226 i) (T2 := fun i => z61 226 i) (T3 := fun i => z70 226 i) (T4 := fun i => z79 226 i) (T5 := fun i => z88 226 i) (fun i hi => hf1.2.1 i hi) (fun i hi => by have q := hf2.2.1 i hi; rw [show (z52 225 1).toNat = (z0 225 1).toNat + 4 by omega] at q; exact q) (fun i hi => by have q := hf3.2.1 i hi; rw [show (z61 225 1).toNat = (z0 225 1).toNat + 8 by omega] at q; exact q) (fun i hi => by have q := hf4.2.1 i hi; rw [show (z70 225 1).toNat = (z0 225 1).toNat + 12 by omega] at q; exact q) (fun i hi => by have q := hf5.2.1 i hi; rw [show (z79 225 1).toNat = (z0 225 1).toNat + 16 by omega] at q; exact q) (fun i hi => hf2.2.2 i (by omega)) (fun i hi => hf3.2.2 i (by omega)) (fun i hi => hf4.2.2 i (by omega)) (fun i hi => hf5.2.2 i (by omega)), (fun i hi => by rw [hf5.2.2 i (by omega), hf4.2.2 i (by omega), hf3.2.2 i (by omega), hf2.2.2 i (by omega), hf1.2.2 i (by omega)])⟩)⟩)
  · skip
    refine r_c0 (pc' := 14) rfl rfl ?_
    exact r_ri rfl (po_I hst ⟨by decide, by decide⟩ ⟨rfl, by omega, by omega, (by exact Or.inl ⟨by omega, by omega, by omega, fun i _ => rfl⟩)⟩)
end
section
/-! words as numbers: 5 bits or 8 bits a letter; the text's tokens, as functions of the place -/
def wl5 (f : Nat → Int) : Nat → Int
  | 0 => 0
  | m + 1 => wl5 f m * 32 + (f m - 96)
def wl8 (f : Nat → Int) : Nat → Int
  | 0 => 0
  | m + 1 => wl8 f m * 256 + f m
abbrev lets (f : Nat → Int) (m : Nat) : Prop := ∀ i, i < m → 97 ≤ f i ∧ f i ≤ 122
theorem wl5_s (f : Nat → Int) (m : Nat) : wl5 f (m + 1) = wl5 f m * 32 + (f m - 96) := rfl
theorem wl8_s (f : Nat → Int) (m : Nat) : wl8 f (m + 1) = wl8 f m * 256 + f m := rfl
theorem wl5_n {f : Nat → Int} : ∀ m, lets f m → 0 ≤ wl5 f m
  | 0, _ => Int.le_refl _
  | m + 1, h => by
    have k := wl5_n m (fun i hi => h i (by omega))
    have g := h m (by omega)
    rw [wl5_s]; omega
theorem wl8_n {f : Nat → Int} : ∀ m, lets f m → 0 ≤ wl8 f m
  | 0, _ => Int.le_refl _
  | m + 1, h => by
    have k := wl8_n m (fun i hi => h i (by omega))
    have g := h m (by omega)
    rw [wl8_s]; omega
theorem wl5_c {f g : Nat → Int} : ∀ m, (∀ i, i < m → f i = g i) → wl5 f m = wl5 g m
  | 0, _ => rfl
  | m + 1, h => by rw [wl5_s, wl5_s, wl5_c m (fun i hi => h i (by omega)), h m (by omega)]
theorem wl8_c {f g : Nat → Int} : ∀ m, (∀ i, i < m → f i = g i) → wl8 f m = wl8 g m
  | 0, _ => rfl
  | m + 1, h => by rw [wl8_s, wl8_s, wl8_c m (fun i hi => h i (by omega)), h m (by omega)]
theorem wl5_i {f g : Nat → Int} : ∀ m k, lets f m → lets g k → wl5 f m = wl5 g k → m = k ∧ ∀ i, i < m → f i = g i
  | 0, 0, _, _, _ => ⟨rfl, fun i hi => absurd hi (by omega)⟩
  | 0, k + 1, _, hg, e => by
    have a := wl5_n k (fun i hi => hg i (by omega))
    have b := hg k (by omega)
    rw [wl5_s] at e
    have e : (0 : Int) = wl5 g k * 32 + (g k - 96) := e
    omega
  | m + 1, 0, hf, _, e => by
    have a := wl5_n m (fun i hi => hf i (by omega))
    have b := hf m (by omega)
    rw [wl5_s] at e
    have e : wl5 f m * 32 + (f m - 96) = (0 : Int) := e
    omega
  | m + 1, k + 1, hf, hg, e => by
    have a := hf m (by omega)
    have b := hg k (by omega)
    rw [wl5_s, wl5_s] at e
    obtain ⟨h1, h2⟩ := wl5_i m k (fun i hi => hf i (by omega)) (fun i hi => hg i (by omega)) (by omega)
    subst h1
    refine ⟨rfl, fun i hi => ?_⟩
    by_cases c : i = m
    · subst c; omega
    · exact h2 i (by omega)
theorem wl8_i {f g : Nat → Int} : ∀ m k, lets f m → lets g k → wl8 f m = wl8 g k → m = k ∧ ∀ i, i < m → f i = g i
  | 0, 0, _, _, _ => ⟨rfl, fun i hi => absurd hi (by omega)⟩
  | 0, k + 1, _, hg, e => by
    have a := wl8_n k (fun i hi => hg i (by omega))
    have b := hg k (by omega)
    rw [wl8_s] at e
    have e : (0 : Int) = wl8 g k * 256 + g k := e
    omega
  | m + 1, 0, hf, _, e => by
    have a := wl8_n m (fun i hi => hf i (by omega))
    have b := hf m (by omega)
    rw [wl8_s] at e
    have e : wl8 f m * 256 + f m = (0 : Int) := e
    omega
  | m + 1, k + 1, hf, hg, e => by
    have a := hf m (by omega)
    have b := hg k (by omega)
    rw [wl8_s, wl8_s] at e
    obtain ⟨h1, h2⟩ := wl8_i m k (fun i hi => hf i (by omega)) (fun i hi => hg i (by omega)) (by omega)
    subst h1
    refine ⟨rfl, fun i hi => ?_⟩
    by_cases c : i = m
    · subst c; omega
    · exact h2 i (by omega)
/-- both codes tell the same words apart -/
theorem wl_iff {f g : Nat → Int} {m k : Nat} (hf : lets f m) (hg : lets g k) : wl5 f m = wl5 g k ↔ wl8 f m = wl8 g k := by
  constructor
  · intro e
    obtain ⟨rfl, h⟩ := wl5_i m k hf hg e
    exact wl8_c _ h
  · intro e
    obtain ⟨rfl, h⟩ := wl8_i m k hf hg e
    exact wl5_c _ h
/-- the byte at a place; outside of the text: -1 -/
def hr (b : Nat → Int) (n k : Int) : Int := if 0 ≤ k ∧ k < n then b k.toNat else -1
abbrev isB (c : Int) : Prop := c = 32 ∨ c = 10
abbrev isL (c : Int) : Prop := 97 ≤ c ∧ c ≤ 122
abbrev isD (c : Int) : Prop := 48 ≤ c ∧ c ≤ 57
/-- from a on all up to p have P, that at p has not -/
abbrev upTo (h : Int → Int) (P : Int → Prop) (a p : Int) : Prop := a ≤ p ∧ (∀ k, a ≤ k → k < p → P (h k)) ∧ ¬ P (h p)
theorem upTo_u {h : Int → Int} {P : Int → Prop} {a p q : Int} (k : upTo h P a p) (g : upTo h P a q) : p = q := by
  obtain ⟨h1, h2, h3⟩ := k
  obtain ⟨g1, g2, g3⟩ := g
  rcases Int.lt_trichotomy p q with c | c | c
  · exact absurd (g2 p h1 c) h3
  · exact c
  · exact absurd (h2 q g1 c) g3
noncomputable def ups (h : Int → Int) (P : Int → Prop) (a : Int) : Int := Classical.epsilon (fun p => upTo h P a p)
theorem ups_eq {h : Int → Int} {P : Int → Prop} {a p : Int} (k : upTo h P a p) : ups h P a = p := upTo_u (Classical.epsilon_spec (p := fun p => upTo h P a p) ⟨p, k⟩) k
noncomputable def ifp {α : Type} (P : Prop) (a b : α) : α := @ite α P (Classical.propDecidable P) a b
theorem ifp_t {α : Type} {P : Prop} {a b : α} (h : P) : ifp P a b = a := @if_pos P (Classical.propDecidable P) h α a b
theorem ifp_f {α : Type} {P : Prop} {a b : α} (h : ¬ P) : ifp P a b = b := @if_neg P (Classical.propDecidable P) h α a b
/-- digits as a number -/
def dn (f : Nat → Int) : Nat → Int
  | 0 => 0
  | m + 1 => dn f m * 10 + (f m - 48)
theorem dn_s (f : Nat → Int) (m : Nat) : dn f (m + 1) = dn f m * 10 + (f m - 48) := rfl
theorem wl5_m {f : Nat → Int} : ∀ m, lets f m → wl5 f m ≤ wl5 (fun _ => 122) m
  | 0, _ => Int.le_refl _
  | m + 1, h => by
    have k := wl5_m m (fun i hi => h i (by omega))
    have g := h m (by omega)
    rw [wl5_s, wl5_s]; omega
theorem wl8_m {f : Nat → Int} : ∀ m, lets f m → wl8 f m ≤ wl8 (fun _ => 122) m
  | 0, _ => Int.le_refl _
  | m + 1, h => by
    have k := wl8_m m (fun i hi => h i (by omega))
    have g := h m (by omega)
    rw [wl8_s, wl8_s]; omega
theorem wl5_b {f : Nat → Int} {m : Nat} (h : lets f m) (hm : m ≤ 8) : 0 ≤ wl5 f m ∧ wl5 f m ≤ 1099511627775 := by
  refine ⟨wl5_n m h, Int.le_trans (wl5_m m h) ?_⟩
  rcases (show m = 0 ∨ m = 1 ∨ m = 2 ∨ m = 3 ∨ m = 4 ∨ m = 5 ∨ m = 6 ∨ m = 7 ∨ m = 8 by omega) with c | c | c | c | c | c | c | c | c <;> subst c <;> decide
theorem wl8_b {f : Nat → Int} {m : Nat} (h : lets f m) (hm : m ≤ 7) : 0 ≤ wl8 f m ∧ wl8 f m ≤ 34474613618145914 := by
  refine ⟨wl8_n m h, Int.le_trans (wl8_m m h) ?_⟩
  rcases (show m = 0 ∨ m = 1 ∨ m = 2 ∨ m = 3 ∨ m = 4 ∨ m = 5 ∨ m = 6 ∨ m = 7 by omega) with c | c | c | c | c | c | c | c <;> subst c <;> decide
abbrev digs (f : Nat → Int) (m : Nat) : Prop := ∀ i, i < m → 48 ≤ f i ∧ f i ≤ 57
theorem dn_n {f : Nat → Int} : ∀ m, digs f m → 0 ≤ dn f m
  | 0, _ => Int.le_refl _
  | m + 1, h => by
    have k := dn_n m (fun i hi => h i (by omega))
    have g := h m (by omega)
    rw [dn_s]; omega
theorem dn_m {f : Nat → Int} : ∀ m, digs f m → dn f m ≤ dn (fun _ => 57) m
  | 0, _ => Int.le_refl _
  | m + 1, h => by
    have k := dn_m m (fun i hi => h i (by omega))
    have g := h m (by omega)
    rw [dn_s, dn_s]; omega
theorem dn_b {f : Nat → Int} {m : Nat} (h : digs f m) : 0 ≤ dn f m ∧ (m = 0 → dn f m = 0) ∧ (m ≤ 3 → dn f m ≤ 999) ∧ (m ≤ 4 → dn f m ≤ 9999) := by
  refine ⟨dn_n m h, fun c => by subst c; rfl, fun hm => Int.le_trans (dn_m m h) ?_, fun hm => Int.le_trans (dn_m m h) ?_⟩
  · rcases (show m = 0 ∨ m = 1 ∨ m = 2 ∨ m = 3 by omega) with c | c | c | c <;> subst c <;> decide
  · rcases (show m = 0 ∨ m = 1 ∨ m = 2 ∨ m = 3 ∨ m = 4 by omega) with c | c | c | c | c <;> subst c <;> decide
end
section
/-! the text as the class and as the reference have it; tokens -/
/-- the class's text, the reference's -/
def tc (z : mZ) : Int → Int := hr (fun i => z 2 i % 256) (z 3 3)
def tr8 (z : mZ) : Int → Int := hr (z 226) (z 225 5)
theorem tc_f {z z' : mZ} (h1 : ∀ i, z' 2 i = z 2 i) (h2 : z' 3 3 = z 3 3) : tc z' = tc z := by
  unfold tc
  rw [h2, show z' 2 = z 2 from funext h1]
theorem tr8_f {z z' : mZ} (h1 : ∀ i, z' 226 i = z 226 i) (h2 : z' 225 5 = z 225 5) : tr8 z' = tr8 z := by
  unfold tr8
  rw [h2, show z' 226 = z 226 from funext h1]
theorem tc_e {z : mZ} {h : Int → Int} (hh : tc z = h) {k : Int} (c : z 3 3 ≤ k) : h k = -1 := by
  rw [← hh]; unfold tc hr; rw [if_neg (by omega)]
theorem tr8_e {z : mZ} {h : Int → Int} (hh : tr8 z = h) {k : Int} (c : z 225 5 ≤ k) : h k = -1 := by
  rw [← hh]; unfold tr8 hr; rw [if_neg (by omega)]
theorem tr8_i {z : mZ} {h : Int → Int} (hh : tr8 z = h) {k : Int} (h0 : 0 ≤ k) (c : k < z 225 5) : h k = z 226 k.toNat := by
  rw [← hh]; unfold tr8 hr; rw [if_pos ⟨h0, c⟩]
/-- a byte as the class reads it, and as it is -/
theorem by_c {z : mZ} {h : Int → Int} {k v : Int} (hh : tc z = h) (h0 : 0 ≤ k) (hc : (k < z 3 3 ∧ v = z 2 k.toNat) ∨ (z 3 3 ≤ k ∧ v = 0)) (hb : -128 ≤ v ∧ v ≤ 127) :
    (h k = v ∧ 0 ≤ v ∧ k < z 3 3) ∨ (128 ≤ h k ∧ v < 0 ∧ k < z 3 3) ∨ (h k = -1 ∧ v = 0 ∧ z 3 3 ≤ k) := by
  rcases hc with ⟨c, e⟩ | ⟨c, e⟩
  · have g : h k = z 2 k.toNat % 256 := by rw [← hh]; unfold tc hr; rw [if_pos ⟨h0, c⟩]
    rw [← e] at g
    omega
  · have g := tc_e hh c
    omega
/-- the tapes of both are alike -/
def kqT (z : mZ) : Prop := ∀ i : Nat, (i : Int) < z 225 1 → z 226 i = z 2 i % 256
theorem hr_t {z z' : mZ} {n : Int} (h : ∀ i : Nat, (i : Int) < n → z' 226 i = z 2 i % 256) : hr (z' 226) n = hr (fun i => z 2 i % 256) n := by
  funext k
  unfold hr
  by_cases c : 0 ≤ k ∧ k < n
  · rw [if_pos c, if_pos c]; exact h _ (by omega)
  · rw [if_neg c, if_neg c]
/-- a token by the place of its first byte: behind it, its bytes, how many; its word, its number -/
noncomputable def tkE (h : Int → Int) (p : Int) : Int := if isL (h p) then ups h isL p else if isD (h p) then ups h isD p else p + 1
def tkF (h : Int → Int) (p : Int) (i : Nat) : Int := h (p + i)
noncomputable def tkM (h : Int → Int) (p : Int) : Nat := (tkE h p - p).toNat
noncomputable def tkW5 (h : Int → Int) (p : Int) : Int := wl5 (tkF h p) (tkM h p)
noncomputable def tkW8 (h : Int → Int) (p : Int) : Int := wl8 (tkF h p) (tkM h p)
noncomputable def tkN (h : Int → Int) (p : Int) : Int := dn (tkF h p) (tkM h p)
def kw5 (x : Int) : Int := if x = 17077349 then 6 else if x = 402885 then 7 else if x = 486 then 8 else if x = 769604 then 9 else if x = 307 then 10 else 1
/-- kinds: 0 the end, 1 a NAME, 2 a number, 3 ;, 4 -, 5 none, 6 piece, 7 line, 8 of, 9 word, 10 is -/
noncomputable def tkK (h : Int → Int) (p : Int) : Int :=
  if h p < 0 then 0
  else if isL (h p) then (if 8 < tkM h p then 5 else kw5 (tkW5 h p))
  else if isD (h p) then (if 4 < tkM h p ∨ isL (h (tkE h p)) then 5 else 2)
  else if h p = 59 then 3 else if h p = 45 then 4 else 5
theorem tkK_0 {h : Int → Int} {p : Int} (c : h p < 0) : tkK h p = 0 := by unfold tkK; rw [if_pos c]
theorem tkE_L {h : Int → Int} {p q : Int} (c : isL (h p)) (u : upTo h isL p q) : tkE h p = q := by unfold tkE; rw [if_pos c]; exact ups_eq u
theorem tkE_D {h : Int → Int} {p q : Int} (c : isD (h p)) (u : upTo h isD p q) : tkE h p = q := by unfold tkE; rw [if_neg (by omega), if_pos c]; exact ups_eq u
theorem tkE_S {h : Int → Int} {p : Int} (c : ¬ isL (h p)) (d : ¬ isD (h p)) : tkE h p = p + 1 := by unfold tkE; rw [if_neg c, if_neg d]
theorem tkK_L {h : Int → Int} {p : Int} (c : isL (h p)) : tkK h p = if 8 < tkM h p then 5 else kw5 (tkW5 h p) := by unfold tkK; rw [if_neg (by omega), if_pos c]
theorem tkK_D {h : Int → Int} {p : Int} (c : isD (h p)) : tkK h p = if 4 < tkM h p ∨ isL (h (tkE h p)) then 5 else 2 := by unfold tkK; rw [if_neg (by omega), if_neg (by omega), if_pos c]
theorem tkK_S {h : Int → Int} {p : Int} (a : ¬ h p < 0) (c : ¬ isL (h p)) (d : ¬ isD (h p)) : tkK h p = if h p = 59 then 3 else if h p = 45 then 4 else 5 := by unfold tkK; rw [if_neg a, if_neg c, if_neg d]
theorem kw5_r (x : Int) : kw5 x = 1 ∨ (6 ≤ kw5 x ∧ kw5 x ≤ 10) := by
  unfold kw5
  repeat' split
  all_goals omega
theorem lets_u {h : Int → Int} {p q : Int} (u : ∀ k, p ≤ k → k < q → isL (h k)) : lets (tkF h p) (q - p).toNat := fun i hi => u (p + i) (by omega) (by omega)
theorem digs_u {h : Int → Int} {p q : Int} (u : ∀ k, p ≤ k → k < q → isD (h k)) : digs (tkF h p) (q - p).toNat := fun i hi => u (p + i) (by omega) (by omega)
/-- what a kind says -/
theorem tkK_r (h : Int → Int) (p : Int) : 0 ≤ tkK h p ∧ tkK h p ≤ 10 := by
  unfold tkK
  have := kw5_r (tkW5 h p)
  repeat' split
  all_goals omega
end
section
/-! the class at a token -/
def TKc (h : Int → Int) (z w : mZ) (p : Int) : Prop := z 3 8 = p ∧ (0 ≤ p ∧ p ≤ z 3 3) ∧ z 3 7 = tkK h p ∧ (tkK h p = 2 → z 3 9 = tkN h p ∧ 0 ≤ tkN h p ∧ tkN h p ≤ 9999) ∧ (tkK h p = 1 → w 3 10 = tkW5 h p ∧ lets (tkF h p) (tkM h p) ∧ tkM h p ≤ 8) ∧ (tkK h p ≠ 0 → z 3 6 = tkE h p ∧ p < z 3 6) ∧ z 3 6 ≤ z 3 3
theorem TKc_f {h : Int → Int} {z w z' w' : mZ} {p : Int} (h8 : z' 3 8 = z 3 8) (h3 : z' 3 3 = z 3 3) (h7 : z' 3 7 = z 3 7) (h9 : z' 3 9 = z 3 9) (h10 : w' 3 10 = w 3 10) (h6 : z' 3 6 = z 3 6) (k : TKc h z w p) : TKc h z' w' p := by
  unfold TKc at k ⊢
  rw [h8, h3, h7, h9, h10, h6]
  exact k
/-- letters read one further -/
theorem rl_s {h : Int → Int} {p q v l l' : Int} (u : ∀ k, p ≤ k → k < q → isL (h k)) (hp : p ≤ q) (hv : h q = v) (hL : isL v) (hl : q - p ≤ 8 → l = wl5 (tkF h p) (q - p).toNat) (hl' : q - p ≤ 7 → 0 ≤ l → l ≤ 1099511627775 → l' = l * 32 + v - 97 + 1) :
    (∀ k, p ≤ k → k < q + 1 → isL (h k)) ∧ (q + 1 - p ≤ 8 → l' = wl5 (tkF h p) (q + 1 - p).toNat) := by
  refine ⟨fun k h1 h2 => ?_, fun c => ?_⟩
  · by_cases e : k = q
    · rw [e, hv]; exact hL
    · exact u k h1 (by omega)
  · have b := wl5_b (f := tkF h p) (m := (q - p).toNat) (lets_u u) (by omega)
    have e := hl (by omega)
    rw [← e] at b
    rw [hl' (by omega) b.1 b.2, show (q + 1 - p).toNat = (q - p).toNat + 1 by omega, wl5_s, ← e, show tkF h p (q - p).toNat = v from by unfold tkF; rw [← hv]; exact congrArg h (by omega)]
    omega
theorem rd_s {h : Int → Int} {p q v l l' : Int} (u : ∀ k, p ≤ k → k < q → isD (h k)) (hp : p ≤ q) (hv : h q = v) (hL : isD v) (hl : q - p ≤ 4 → l = dn (tkF h p) (q - p).toNat) (hl' : q - p ≤ 3 → 0 ≤ l → l ≤ 9999 → l' = l * 10 + v - 48) :
    (∀ k, p ≤ k → k < q + 1 → isD (h k)) ∧ (q + 1 - p ≤ 4 → l' = dn (tkF h p) (q + 1 - p).toNat) := by
  refine ⟨fun k h1 h2 => ?_, fun c => ?_⟩
  · by_cases e : k = q
    · rw [e, hv]; exact hL
    · exact u k h1 (by omega)
  · have b := dn_b (f := tkF h p) (m := (q - p).toNat) (digs_u u)
    have e := hl (by omega)
    rw [← e] at b
    rw [hl' (by omega) b.1 (b.2.2.2 (by omega)), show (q + 1 - p).toNat = (q - p).toNat + 1 by omega, dn_s, ← e, show tkF h p (q - p).toNat = v from by unfold tkF; rw [← hv]; exact congrArg h (by omega)]
    omega
/-- the end of a word, of a number -/
theorem rl_e {h : Int → Int} {p q l kd : Int} (u : ∀ k, p ≤ k → k < q → isL (h k)) (hp : p < q) (hn : ¬ isL (h q)) (hl : q - p ≤ 8 → l = wl5 (tkF h p) (q - p).toNat) (hk : (8 < q - p ∧ kd = 5) ∨ (q - p ≤ 8 ∧ kd = kw5 l)) :
    q = tkE h p ∧ kd = tkK h p ∧ (tkK h p = 1 → l = tkW5 h p ∧ lets (tkF h p) (tkM h p) ∧ tkM h p ≤ 8) := by
  have c : isL (h p) := u p (by omega) hp
  have e : tkE h p = q := tkE_L c ⟨by omega, u, hn⟩
  have em : tkM h p = (q - p).toNat := by unfold tkM; rw [e]
  refine ⟨e.symm, ?_, fun k1 => ?_⟩
  · rw [tkK_L c]
    rcases hk with ⟨g, rfl⟩ | ⟨g, rfl⟩
    · rw [if_pos (by omega)]
    · rw [if_neg (by omega), hl g]; unfold tkW5; rw [em]
  · rw [tkK_L c] at k1
    by_cases g : 8 < tkM h p
    · rw [if_pos g] at k1; omega
    · refine ⟨?_, by rw [em]; exact lets_u u, by omega⟩
      rw [hl (by omega)]; unfold tkW5; rw [em]
theorem rd_e {h : Int → Int} {p q l kd : Int} (u : ∀ k, p ≤ k → k < q → isD (h k)) (hp : p < q) (hn : ¬ isD (h q)) (hl : q - p ≤ 4 → l = dn (tkF h p) (q - p).toNat) (hk : ((4 < q - p ∨ isL (h q)) ∧ kd = 5) ∨ (q - p ≤ 4 ∧ ¬ isL (h q) ∧ kd = 2)) :
    q = tkE h p ∧ kd = tkK h p ∧ (tkK h p = 2 → l = tkN h p ∧ 0 ≤ tkN h p ∧ tkN h p ≤ 9999) := by
  have c : isD (h p) := u p (by omega) hp
  have e : tkE h p = q := tkE_D c ⟨by omega, u, hn⟩
  have em : tkM h p = (q - p).toNat := by unfold tkM; rw [e]
  refine ⟨e.symm, ?_, fun k1 => ?_⟩
  · rw [tkK_D c, e, em]
    rcases hk with ⟨g, rfl⟩ | ⟨g, g2, rfl⟩
    · rw [if_pos (g.imp (by omega) id)]
    · rw [if_neg (by omega)]
  · rw [tkK_D c, e, em] at k1
    by_cases g : 4 < (q - p).toNat ∨ isL (h q)
    · rw [if_pos g] at k1; omega
    · have b := dn_b (f := tkF h p) (m := (q - p).toNat) (digs_u u)
      have e2 : l = tkN h p := by rw [hl (by omega)]; unfold tkN; rw [em]
      have b4 := b.2.2.2 (by omega)
      rw [← hl (by omega), e2] at b b4
      exact ⟨e2, b.1, b4⟩
end
section
/-! the reference at a token -/
theorem ofL_or {a b : Int} (n : Nat) (ha : 0 ≤ a) (h1 : a < 2 ^ n) (hb : 0 ≤ b) (h2 : a + b < 9223372036854775808) (hd : (2 ^ n : Int) ∣ b) : Int64.ofInt b ||| Int64.ofInt a = Int64.ofInt (b + a) := by
  obtain ⟨x, rfl⟩ := Int.eq_ofNat_of_zero_le ha
  obtain ⟨y, rfl⟩ := Int.eq_ofNat_of_zero_le hb
  have hd' : 2 ^ n ∣ y := by exact_mod_cast hd
  have h1' : x < 2 ^ n := by exact_mod_cast h1
  obtain ⟨q, rfl⟩ := hd'
  apply Int64.toBitVec_inj.1
  rw [Int64.toBitVec_or]
  apply BitVec.eq_of_toNat_eq
  have e1 : ∀ u : Nat, u < 9223372036854775808 → (Int64.ofInt (u : Int)).toBitVec.toNat = u := by
    intro u hu
    have : (Int64.ofInt (u : Int)).toBitVec = BitVec.ofInt 64 u := rfl
    rw [this, BitVec.toNat_ofInt]
    omega
  rw [BitVec.toNat_or, e1 _ (by omega), e1 _ (by omega), show (((2 ^ n * q : Nat) : Int) + (x : Int)) = ((2 ^ n * q + x : Nat) : Int) from (Int.natCast_add _ _).symm, e1 _ (by omega)]
  rw [← Nat.two_pow_add_eq_or_of_lt h1']
theorem ofL_shl8 (a : Int) : Int64.ofInt a <<< ((Int32.ofInt 8).toInt64 &&& 63) = Int64.ofInt (a * 256) := by
  apply Int64.toBitVec_inj.1
  have b1 : (Int64.ofInt a <<< ((Int32.ofInt 8).toInt64 &&& 63)).toBitVec = (Int64.ofInt a).toBitVec <<< 8 := rfl
  rw [b1, BitVec.shiftLeft_eq_mul_twoPow]
  show BitVec.ofInt 64 a * _ = BitVec.ofInt 64 (a * 256)
  rw [BitVec.ofInt_mul]
  rfl
theorem sh_or {l c e1 e2 : Int} (hl : 0 ≤ l ∧ l ≤ 34474613618145914) (hc : 0 ≤ c ∧ c < 256) (i1 : inL e1) (i2 : inL e2) (h1 : Int64.ofInt e1 = Int64.ofInt l <<< ((Int32.ofInt 8).toInt64 &&& 63)) (h2 : Int64.ofInt e2 = Int64.ofInt e1 ||| Int64.ofInt c) : e2 = l * 256 + c := by
  rw [ofL_shl8] at h1
  rw [h1, ofL_or 8 hc.1 hc.2 (by omega) (by omega) ⟨l, by omega⟩] at h2
  exact (ofL_eq i2 ⟨by omega, by omega⟩).mp h2
def tkS (k : Int) : Int := if k = 0 then 0 else if k = 2 then 2 else if k = 3 then 59 else if k = 4 then 45 else if k = 5 then 3 else 1
def TKr (h : Int → Int) (z w : mZ) (p : Int) : Prop := z 225 7 = p ∧ (0 ≤ p ∧ p ≤ z 225 5) ∧ z 225 6 = tkS (tkK h p) ∧ (tkK h p = 2 → z 225 8 = tkN h p ∧ 0 ≤ tkN h p ∧ tkN h p ≤ 9999) ∧ (z 225 6 = 1 → w 225 9 = tkW8 h p ∧ lets (tkF h p) (tkM h p) ∧ tkM h p ≤ 8 ∧ kw5 (tkW5 h p) = tkK h p) ∧ (tkK h p ≠ 0 → tkK h p ≠ 5 → z 225 4 = tkE h p ∧ p < z 225 4) ∧ p ≤ z 225 4 ∧ z 225 4 ≤ z 225 5
def TKq (h : Int → Int) (z w : mZ) (p x : Int) : Prop := z 225 7 = p ∧ z 225 6 = tkS (tkK h p) ∧ (tkK h p = 2 → z 225 8 = tkN h p ∧ 0 ≤ tkN h p ∧ tkN h p ≤ 9999) ∧ (z 225 6 = 1 → w 225 9 = tkW8 h p ∧ lets (tkF h p) (tkM h p) ∧ tkM h p ≤ 8 ∧ kw5 (tkW5 h p) = tkK h p) ∧ (tkK h p ≠ 0 → tkK h p ≠ 5 → p + x = tkE h p ∧ 0 < x)
theorem TKr_f {h : Int → Int} {z w z' w' : mZ} {p : Int} (h7 : z' 225 7 = z 225 7) (h5 : z' 225 5 = z 225 5) (h6 : z' 225 6 = z 225 6) (h8 : z' 225 8 = z 225 8) (h9 : w' 225 9 = w 225 9) (h4 : z' 225 4 = z 225 4) (k : TKr h z w p) : TKr h z' w' p := by
  unfold TKr at k ⊢
  rw [h7, h5, h6, h8, h9, h4]
  exact k
theorem tkS_1 (x : Int) : tkS (kw5 x) = 1 := by
  have := kw5_r x
  unfold tkS
  repeat' split
  all_goals omega
theorem rl8_s {h : Int → Int} {p q v l l' : Int} (u : ∀ k, p ≤ k → k < q → isL (h k)) (hp : p ≤ q) (hv : h q = v) (hL : isL v) (hl : q - p ≤ 8 → l = wl8 (tkF h p) (q - p).toNat) (hl' : q - p ≤ 7 → 0 ≤ l → l ≤ 34474613618145914 → l' = l * 256 + v) :
    (∀ k, p ≤ k → k < q + 1 → isL (h k)) ∧ (q + 1 - p ≤ 8 → l' = wl8 (tkF h p) (q + 1 - p).toNat) := by
  refine ⟨fun k h1 h2 => ?_, fun c => ?_⟩
  · by_cases e : k = q
    · rw [e, hv]; exact hL
    · exact u k h1 (by omega)
  · have b := wl8_b (f := tkF h p) (m := (q - p).toNat) (lets_u u) (by omega)
    have e := hl (by omega)
    rw [← e] at b
    rw [hl' (by omega) b.1 b.2, show (q + 1 - p).toNat = (q - p).toNat + 1 by omega, wl8_s, ← e, show tkF h p (q - p).toNat = v from by unfold tkF; rw [← hv]; exact congrArg h (by omega)]
theorem rl8_e {h : Int → Int} {z w : mZ} {p x : Int} (h7 : z 225 7 = p) (u : ∀ k, p ≤ k → k < p + x → isL (h k)) (hp : 0 < x) (hn : ¬ isL (h (p + x))) (hl : x ≤ 8 → w 225 9 = wl8 (tkF h p) x.toNat) (hk : (8 < x ∧ z 225 6 = 3) ∨ (x ≤ 8 ∧ z 225 6 = 1)) : TKq h z w p x := by
  have c : isL (h p) := u p (by omega) (by omega)
  have e : tkE h p = p + x := tkE_L c ⟨by omega, u, hn⟩
  have em : tkM h p = x.toNat := by unfold tkM; rw [e]; omega
  have eK := tkK_L c
  rcases hk with ⟨g, k⟩ | ⟨g, k⟩
  · rw [if_pos (by omega)] at eK
    refine ⟨h7, by rw [eK]; exact k, fun q => absurd q (by omega), fun q => absurd q (by omega), fun _ q => absurd eK q⟩
  · rw [if_neg (by omega)] at eK
    have := kw5_r (tkW5 h p)
    refine ⟨h7, by rw [eK, tkS_1]; exact k, fun q => absurd q (by omega), fun _ => ⟨?_, ?_, by omega, eK.symm⟩, fun _ _ => ⟨e.symm, hp⟩⟩
    · rw [hl g]; unfold tkW8; rw [em]
    · rw [em, show x.toNat = (p + x - p).toNat by omega]; exact lets_u u
theorem rd8_e {h : Int → Int} {z w : mZ} {p x : Int} (h7 : z 225 7 = p) (u : ∀ k, p ≤ k → k < p + x → isD (h k)) (hp : 0 < x) (hn : ¬ isD (h (p + x))) (hl : x ≤ 4 → z 225 8 = dn (tkF h p) x.toNat) (hk : ((4 < x ∨ isL (h (p + x))) ∧ z 225 6 = 3) ∨ (x ≤ 4 ∧ ¬ isL (h (p + x)) ∧ z 225 6 = 2)) : TKq h z w p x := by
  rcases hk with ⟨g, k⟩ | ⟨g, g2, k⟩
  · obtain ⟨e1, e2, e3⟩ := rd_e (l := z 225 8) (kd := 5) u (by omega) hn (fun q => by rw [show p + x - p = x by omega]; exact hl (by omega)) (Or.inl ⟨g.imp (by omega) id, rfl⟩)
    exact ⟨h7, by rw [← e2]; exact k, fun q => absurd q (by omega), fun q => absurd q (by omega), fun _ q => absurd e2.symm q⟩
  · obtain ⟨e1, e2, e3⟩ := rd_e (l := z 225 8) (kd := 2) u (by omega) hn (fun q => by rw [show p + x - p = x by omega]; exact hl (by omega)) (Or.inr ⟨by omega, g2, rfl⟩)
    exact ⟨h7, by rw [← e2]; exact k, e3, fun q => absurd q (by omega), fun _ _ => ⟨e1, hp⟩⟩
theorem rs8_e {h : Int → Int} {z w : mZ} {p c : Int} (h7 : z 225 7 = p) (hc : c = h p) (h0 : 0 ≤ c) (hL : ¬ isL c) (hD : ¬ isD c) (hk : ((c = 59 ∨ c = 45) ∧ z 225 6 = c) ∨ (c ≠ 59 ∧ c ≠ 45 ∧ z 225 6 = 3)) : TKq h z w p 1 := by
  subst hc
  have eK := tkK_S (h := h) (p := p) (by omega) hL hD
  have e := tkE_S hL hD
  have k1 : z 225 6 = tkS (tkK h p) ∧ tkK h p ≠ 2 ∧ z 225 6 ≠ 1 := by
    rcases hk with ⟨g, k⟩ | ⟨g, g2, k⟩
    · rcases g with g | g
      · rw [if_pos g] at eK; rw [eK]; exact ⟨by rw [k, g]; rfl, by decide, by omega⟩
      · rw [if_neg (by omega), if_pos g] at eK; rw [eK]; exact ⟨by rw [k, g]; rfl, by decide, by omega⟩
    · rw [if_neg g, if_neg g2] at eK; rw [eK]; exact ⟨by rw [k]; rfl, by decide, by omega⟩
  exact ⟨h7, k1.1, fun q => absurd q k1.2.1, fun q => absurd q k1.2.2, fun _ _ => ⟨e.symm, by omega⟩⟩
theorem r0_e {h : Int → Int} {z w : mZ} {p : Int} (h7 : z 225 7 = p) (hc : h p < 0) (hk : z 225 6 = 0) : TKq h z w p 0 := by
  have eK := tkK_0 hc
  exact ⟨h7, by rw [eK]; exact hk, fun q => absurd q (by omega), fun q => absurd q (by omega), fun q => absurd eK q⟩
theorem TKq_r {h : Int → Int} {z w z' w' : mZ} {p x : Int} (k : TKq h z w p x) (h0 : 0 ≤ p ∧ p + x ≤ z 225 5) (hx : 0 ≤ x) (h7 : z' 225 7 = z 225 7) (h5 : z' 225 5 = z 225 5) (h6 : z' 225 6 = z 225 6) (h8 : z' 225 8 = z 225 8) (h9 : w' 225 9 = w 225 9) (hk : (z 225 6 = 3 ∧ z' 225 4 = p) ∨ (z 225 6 ≠ 3 ∧ z' 225 4 = p + x)) : TKr h z' w' p := by
  unfold TKr
  rw [h7, h5, h6, h8, h9]
  refine ⟨k.1, by omega, k.2.1, k.2.2.1, k.2.2.2.1, fun q1 q2 => ?_, by omega, by omega⟩
  have := k.2.2.2.2 q1 q2
  rcases hk with ⟨g, g2⟩ | ⟨g, g2⟩
  · exfalso
    have e := k.2.1
    have r := tkK_r h p
    rw [g] at e
    unfold tkS at e
    revert e
    repeat' split
    all_goals omega
  · omega
end
